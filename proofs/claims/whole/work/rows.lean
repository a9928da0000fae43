section
/-! THE SMALL MACHINE: bytecode over a store of numbered cells. A reference is the number of a cell. Everything later is said of its runs. -/
/-- what a cell holds: an array (type of its places, how many, what they hold at first, what was laid since, the newest first) or an object (number of its class, its fields) -/
abbrev am_E : Type := (FieldType × Nat × Value × List (Nat × Value)) ⊕ (Nat × List Value)
/-- a cell: how many slots it counts; what it holds, if that is known -/
abbrev am_C : Type := Nat × Option am_E
/-- a store: the cell of number 0 (the script), how many others there are, these (1, 2 ..), the newest first -/
abbrev am_S : Type := am_C × Nat × List am_C
def am_nth (S : am_S) : Nat → Option am_C
  | 0 => some S.1
  | k + 1 => if k < S.2.1 then S.2.2[S.2.1 - 1 - k]? else none
def am_set (S : am_S) (a : Nat) (x : am_C) : am_S := (S.1, S.2.1, S.2.2.set (S.2.1 - a) x)
def am_add (S : am_S) (x : am_C) : am_S := (S.1, S.2.1 + 1, x :: S.2.2)
def am_len (S : am_S) : Nat := S.2.1 + 1
theorem am_nth_lt {S : am_S} {k : Nat} {x : am_C} (h : am_nth S (k + 1) = some x) : k < S.2.1 ∧ S.2.2[S.2.1 - 1 - k]? = some x := by
  have h : (if k < S.2.1 then S.2.2[S.2.1 - 1 - k]? else none) = some x := h
  by_cases e : k < S.2.1
  · rw [if_pos e] at h
    exact ⟨e, h⟩
  · rw [if_neg e] at h
    cases h
theorem am_nth_set {S : am_S} {k : Nat} {x0 : am_C} (x : am_C) (h : am_nth S (k + 1) = some x0) (j : Nat) : am_nth (am_set S (k + 1) x) (j + 1) = if j = k then some x else am_nth S (j + 1) := by
  obtain ⟨h1, h2⟩ := am_nth_lt h
  have h3 : S.2.1 - 1 - k < S.2.2.length := (List.getElem?_eq_some_iff.mp h2).1
  show (if j < S.2.1 then (S.2.2.set (S.2.1 - (k + 1)) x)[S.2.1 - 1 - j]? else none) = if j = k then some x else (if j < S.2.1 then S.2.2[S.2.1 - 1 - j]? else none)
  have e : S.2.1 - (k + 1) = S.2.1 - 1 - k := by omega
  rw [e]
  by_cases hj : j < S.2.1
  · rw [if_pos hj, if_pos hj]
    by_cases hk : j = k
    · subst hk
      rw [if_pos rfl, List.getElem?_set_self h3]
    · rw [if_neg hk, List.getElem?_set_ne (by omega)]
  · rw [if_neg hj, if_neg hj, if_neg (by omega)]
theorem am_nth_add (S : am_S) (x : am_C) (j : Nat) : am_nth (am_add S x) (j + 1) = if j = S.2.1 then some x else am_nth S (j + 1) := by
  show (if j < S.2.1 + 1 then (x :: S.2.2)[S.2.1 + 1 - 1 - j]? else none) = if j = S.2.1 then some x else (if j < S.2.1 then S.2.2[S.2.1 - 1 - j]? else none)
  by_cases h : j = S.2.1
  · subst h
    rw [if_pos (Nat.lt_succ_self _), if_pos rfl, show S.2.1 + 1 - 1 - S.2.1 = 0 by omega]
    rfl
  · rw [if_neg h]
    by_cases h2 : j < S.2.1
    · rw [if_pos (by omega), if_pos h2, show S.2.1 + 1 - 1 - j = (S.2.1 - 1 - j) + 1 by omega]
      rfl
    · rw [if_neg (by omega), if_neg h2]
/-- the locals that are known -/
abbrev am_L : Type := List (Nat × Value)
/-- what a method's entries name: fields read (entry, class, place), fields written, classes made (entry, class), classes whose arrays are made (entry, name), numbers (entry, value), methods called (entry, which) -/
abbrev am_T : Type := (List (Nat × Nat × Nat)) × (List (Nat × Nat × Nat)) × (List (Nat × Nat)) × (List (Nat × String)) × (List (Nat × Value)) × (List (Nat × Nat))
/-- a method: its name, code, locals, answer's type, table, instructions, how many parameters, its class -/
abbrev am_M : Type := MethodName × ByteArray × Nat × Option FieldType × am_T × (List (Nat × Instr × Nat)) × Nat × Nat
def am_find {α : Type} (k : Nat) : List (Nat × α) → Option α
  | [] => none
  | q :: l => bif Nat.beq q.1 k then some q.2 else am_find k l
theorem am_find_cons {α : Type} (k : Nat) (q : Nat × α) (l : List (Nat × α)) : am_find k (q :: l) = if q.1 = k then some q.2 else am_find k l := by
  show (bif Nat.beq q.1 k then some q.2 else am_find k l) = _
  by_cases e : q.1 = k
  · have h : Nat.beq q.1 k = true := by
      rw [e]
      exact Nat.beq_refl k
    rw [if_pos e, h]
    rfl
  · rw [if_neg e]
    have h : Nat.beq q.1 k = false := by
      cases h : Nat.beq q.1 k
      · rfl
      · exact absurd (Nat.eq_of_beq_eq_true h) e
    rw [h]
    rfl
theorem am_find_mem {α : Type} {k : Nat} {v : α} : ∀ {l : List (Nat × α)}, am_find k l = some v → (k, v) ∈ l
  | [], h => by simp [am_find] at h
  | q :: l, h => by
    rw [am_find_cons] at h
    by_cases e : q.1 = k
    · rw [if_pos e] at h
      cases h
      rw [← e]
      exact List.mem_cons_self
    · rw [if_neg e] at h
      exact List.mem_cons_of_mem _ (am_find_mem h)
/-- a local is laid -/
def am_st1 (i : Nat) (v : Value) (l : am_L) : am_L := (i, v) :: l.filter (fun q => !(q.1 == i) && !(q.1 + 1 == i && q.2.category == 2))
def am_st2 (i : Nat) (v : Value) (l : am_L) : am_L := (i, v) :: l.filter (fun q => !(q.1 == i) && (!(q.1 == i + 1) && !(q.1 + 1 == i && q.2.category == 2)))
def am_tgt (pc : Nat) (off : Int) : Option Nat := match (pc : Int) + off with
  | .ofNat t => some t
  | .negSucc _ => none
theorem am_tgt_of {pc t : Nat} {off : Int} (h : am_tgt pc off = some t) : (pc : Int) + off = (t : Int) := by
  unfold am_tgt at h
  split at h
  · rename_i t' e
    cases h
    exact e
  · cases h
/-- what an array holds -/
def am_fn (d : Value) (u : List (Nat × Value)) : Nat → Value := fun j => match am_find j u with
  | some v => v
  | none => d
theorem am_fn_nil (d : Value) : am_fn d [] = fun _ => d := rfl
theorem am_fn_cons (d : Value) (k : Nat) (v : Value) (u : List (Nat × Value)) : am_fn d ((k, v) :: u) = updV (am_fn d u) k v := by
  funext j
  unfold am_fn updV
  rw [am_find_cons]
  by_cases h : j = k
  · rw [if_pos h.symm, if_pos h]
  · rw [if_neg (fun q => h q.symm), if_neg h]
/-- an array's place is laid. The cell of number 0 (the script) is never written -/
def am_seta (S : am_S) (a : Nat) (i : Int32) (ty : FieldType) (v : Value) : Option am_S := match a, am_nth S a with
  | 0, _ => none
  | a + 1, some (z, some (.inl (t, n, d, u))) => if t = ty ∧ ¬ (i < 0 ∨ n ≤ i.toNatClampNeg) then some (am_set S (a + 1) (z, some (.inl (t, n, d, (i.toNatClampNeg, v) :: u)))) else none
  | _, _ => none
def am_geta (S : am_S) (a : Nat) (i : Int32) (ty : FieldType) : Option Value := match am_nth S a with
  | some (_, some (.inl (t, n, d, u))) => if t = ty ∧ ¬ (i < 0 ∨ n ≤ i.toNatClampNeg) then some (am_fn d u i.toNatClampNeg) else none
  | _ => none
end
section
/-! the machine's steps that touch no store, and what they are on the JVM's machine -/
/-- a reference's number becomes its address -/
def am_cv (ad : Nat → Nat) : Value → Value
  | .ref k => .ref (ad k)
  | v => v
theorem am_cv_cat (ad : Nat → Nat) (v : Value) : (am_cv ad v).category = v.category := by cases v <;> rfl
def am_cl (ad : Nat → Nat) (l : am_L) : am_L := l.map (fun q => (q.1, am_cv ad q.2))
def am_geti (i : Nat) (l : am_L) : Option Int32 := match am_find i l with
  | some (.int x) => some x
  | _ => none
def am_getl (i : Nat) (l : am_L) : Option Int64 := match am_find i l with
  | some (.long x) => some x
  | _ => none
def am_geta' (i : Nat) (l : am_L) : Option Nat := match am_find i l with
  | some (.ref x) => some x
  | _ => none
theorem am_cl_mem {ad : Nat → Nat} {l : am_L} {i : Nat} {v : Value} (h : am_find i l = some v) : (i, am_cv ad v) ∈ am_cl ad l := List.mem_map.mpr ⟨(i, v), am_find_mem h, rfl⟩
theorem am_geti_of {ad : Nat → Nat} {ls : Array Slot} {nL i : Nat} {l : am_L} {x : Int32} (hl : lv_has ls nL (am_cl ad l)) (h : am_geti i l = some x) : ls[i]? = some (.val (.int x)) := by
  unfold am_geti at h
  split at h
  · rename_i e
    cases h
    exact hl.2.2 _ (am_cl_mem e)
  · cases h
theorem am_getl_of {ad : Nat → Nat} {ls : Array Slot} {nL i : Nat} {l : am_L} {x : Int64} (hl : lv_has ls nL (am_cl ad l)) (h : am_getl i l = some x) : ls[i]? = some (.val (.long x)) := by
  unfold am_getl at h
  split at h
  · rename_i e
    cases h
    exact hl.2.2 _ (am_cl_mem e)
  · cases h
theorem am_geta'_of {ad : Nat → Nat} {ls : Array Slot} {nL i : Nat} {l : am_L} {x : Nat} (hl : lv_has ls nL (am_cl ad l)) (h : am_geta' i l = some x) : ls[i]? = some (.val (.ref (ad x))) := by
  unfold am_geta' at h
  split at h
  · rename_i e
    cases h
    exact hl.2.2 _ (am_cl_mem e)
  · cases h
theorem am_geti_at {ad : Nat → Nat} {i : Nat} {l : am_L} {x : Int32} (h : am_geti i l = some x) : ∃ j : Nat, (am_cl ad l)[j]? = some (i, .int x) := by
  unfold am_geti at h
  split at h
  · rename_i e
    cases h
    exact List.getElem?_of_mem (am_cl_mem (ad := ad) e)
  · cases h
theorem am_st1_cv (ad : Nat → Nat) (i : Nat) (v : Value) (l : am_L) : (i, am_cv ad v) :: (am_cl ad l).filter (fun q => !(q.1 == i) && !(q.1 + 1 == i && q.2.category == 2)) = am_cl ad (am_st1 i v l) := by
  unfold am_st1 am_cl
  rw [List.map_cons, List.filter_map]
  congr 2
  apply List.filter_congr
  intro q _
  simp [Function.comp, am_cv_cat]
theorem am_st2_cv (ad : Nat → Nat) (i : Nat) (v : Value) (l : am_L) : (i, am_cv ad v) :: (am_cl ad l).filter (fun q => !(q.1 == i) && (!(q.1 == i + 1) && !(q.1 + 1 == i && q.2.category == 2))) = am_cl ad (am_st2 i v l) := by
  unfold am_st2 am_cl
  rw [List.map_cons, List.filter_map]
  congr 2
  apply List.filter_congr
  intro q _
  simp [Function.comp, am_cv_cat]
def am_pure (nL : Nat) (ins : Instr) (len pc : Nat) (l : am_L) (st : List Value) : Option (Nat × am_L × List Value) := match ins, len, st with
  | .iconst n, 1, st => some (pc + 1, l, .int (Int32.ofInt n) :: st)
  | .bipush n, 2, st => some (pc + 2, l, .int (Int8.ofInt n).toInt32 :: st)
  | .sipush n, 3, st => some (pc + 3, l, .int (Int16.ofInt n).toInt32 :: st)
  | .lconst n, 1, st => some (pc + 1, l, .long (Int64.ofNat n.val) :: st)
  | .iload_n i, 1, st => (am_geti i.val l).map fun x => (pc + 1, l, .int x :: st)
  | .iload i, 2, st => (am_geti i l).map fun x => (pc + 2, l, .int x :: st)
  | .lload_n i, 1, st => (am_getl i.val l).map fun x => (pc + 1, l, .long x :: st)
  | .lload i, 2, st => (am_getl i l).map fun x => (pc + 2, l, .long x :: st)
  | .aload_n i, 1, st => (am_geta' i.val l).map fun x => (pc + 1, l, .ref x :: st)
  | .aload i, 2, st => (am_geta' i l).map fun x => (pc + 2, l, .ref x :: st)
  | .istore_n i, 1, .int x :: st => if i.val < nL then some (pc + 1, am_st1 i.val (.int x) l, st) else none
  | .istore i, 2, .int x :: st => if i < nL then some (pc + 2, am_st1 i (.int x) l, st) else none
  | .astore_n i, 1, .ref x :: st => if i.val < nL then some (pc + 1, am_st1 i.val (.ref x) l, st) else none
  | .astore i, 2, .ref x :: st => if i < nL then some (pc + 2, am_st1 i (.ref x) l, st) else none
  | .lstore_n i, 1, .long x :: st => if i.val + 1 < nL then some (pc + 1, am_st2 i.val (.long x) l, st) else none
  | .lstore i, 2, .long x :: st => if i + 1 < nL then some (pc + 2, am_st2 i (.long x) l, st) else none
  | .iinc i n, 3, st => if i < nL then (am_geti i l).map fun x => (pc + 3, am_st1 i (.int (x + Int32.ofInt n)) l, st) else none
  | .iadd, 1, .int y :: .int x :: st => some (pc + 1, l, .int (x + y) :: st)
  | .isub, 1, .int y :: .int x :: st => some (pc + 1, l, .int (x - y) :: st)
  | .imul, 1, .int y :: .int x :: st => some (pc + 1, l, .int (x * y) :: st)
  | .iand, 1, .int y :: .int x :: st => some (pc + 1, l, .int (x &&& y) :: st)
  | .ior, 1, .int y :: .int x :: st => some (pc + 1, l, .int (x ||| y) :: st)
  | .ixor, 1, .int y :: .int x :: st => some (pc + 1, l, .int (x ^^^ y) :: st)
  | .ishl, 1, .int y :: .int x :: st => some (pc + 1, l, .int (x <<< (y &&& 31)) :: st)
  | .ishr, 1, .int y :: .int x :: st => some (pc + 1, l, .int (x >>> (y &&& 31)) :: st)
  | .idiv, 1, .int y :: .int x :: st => if y = 0 then none else some (pc + 1, l, .int (x / y) :: st)
  | .irem, 1, .int y :: .int x :: st => if y = 0 then none else some (pc + 1, l, .int (x - x / y * y) :: st)
  | .iushr, 1, .int y :: .int x :: st => some (pc + 1, l, .int (x.toUInt32 >>> (y.toUInt32 &&& Int32.toUInt32 31)).toInt32 :: st)
  | .ladd, 1, .long y :: .long x :: st => some (pc + 1, l, .long (x + y) :: st)
  | .lsub, 1, .long y :: .long x :: st => some (pc + 1, l, .long (x - y) :: st)
  | .lmul, 1, .long y :: .long x :: st => some (pc + 1, l, .long (x * y) :: st)
  | .land, 1, .long y :: .long x :: st => some (pc + 1, l, .long (x &&& y) :: st)
  | .lor, 1, .long y :: .long x :: st => some (pc + 1, l, .long (x ||| y) :: st)
  | .lxor, 1, .long y :: .long x :: st => some (pc + 1, l, .long (x ^^^ y) :: st)
  | .lshl, 1, .int y :: .long x :: st => some (pc + 1, l, .long (x <<< (y.toInt64 &&& 63)) :: st)
  | .lshr, 1, .int y :: .long x :: st => some (pc + 1, l, .long (x >>> (y.toInt64 &&& 63)) :: st)
  | .lushr, 1, .int y :: .long x :: st => some (pc + 1, l, .long ((x.toUInt64 >>> (y.toInt64.toUInt64 &&& Int64.toUInt64 63)).toInt64) :: st)
  | .lcmp, 1, .long y :: .long x :: st => some (pc + 1, l, .int (lg_cmp x y) :: st)
  | .i2l, 1, .int x :: st => some (pc + 1, l, .long x.toInt64 :: st)
  | .l2i, 1, .long x :: st => some (pc + 1, l, .int x.toInt32 :: st)
  | .i2b, 1, .int x :: st => some (pc + 1, l, .int x.toInt8.toInt32 :: st)
  | .dup, 1, v :: st => if v.category = 1 then some (pc + 1, l, v :: v :: st) else none
  | .pop, 1, v :: st => if v.category = 1 then some (pc + 1, l, st) else none
  | .dup2, 1, v :: w :: st => if v.category = 1 ∧ w.category = 1 then some (pc + 1, l, v :: w :: v :: w :: st) else none
  | .ifCond .ne off, 3, .int x :: st => (am_tgt pc off).map fun t => (if x = 0 then pc + 3 else t, l, st)
  | .if_icmp .ne off, 3, .int y :: .int x :: st => (am_tgt pc off).map fun t => (if x = y then pc + 3 else t, l, st)
  | .ifCond .eq off, 3, .int x :: st => (am_tgt pc off).map fun t => (if x = 0 then t else pc + 3, l, st)
  | .ifCond .lt off, 3, .int x :: st => (am_tgt pc off).map fun t => (if x < 0 then t else pc + 3, l, st)
  | .ifCond .ge off, 3, .int x :: st => (am_tgt pc off).map fun t => (if 0 ≤ x then t else pc + 3, l, st)
  | .ifCond .gt off, 3, .int x :: st => (am_tgt pc off).map fun t => (if 0 < x then t else pc + 3, l, st)
  | .ifCond .le off, 3, .int x :: st => (am_tgt pc off).map fun t => (if x ≤ 0 then t else pc + 3, l, st)
  | .if_icmp .eq off, 3, .int y :: .int x :: st => (am_tgt pc off).map fun t => (if x = y then t else pc + 3, l, st)
  | .if_icmp .lt off, 3, .int y :: .int x :: st => (am_tgt pc off).map fun t => (if x < y then t else pc + 3, l, st)
  | .if_icmp .ge off, 3, .int y :: .int x :: st => (am_tgt pc off).map fun t => (if y ≤ x then t else pc + 3, l, st)
  | .if_icmp .gt off, 3, .int y :: .int x :: st => (am_tgt pc off).map fun t => (if y < x then t else pc + 3, l, st)
  | .if_icmp .le off, 3, .int y :: .int x :: st => (am_tgt pc off).map fun t => (if x ≤ y then t else pc + 3, l, st)
  | .goto off, 3, st => (am_tgt pc off).map fun t => (t, l, st)
  | .tableswitch dflt lo hi offs, _, .int x :: st => if x.toInt < lo ∨ hi < x.toInt then (am_tgt pc dflt).map fun t => (t, l, st) else match offs.toList[(x.toInt - lo).toNat]? with | some off => (am_tgt pc off).map fun t => (t, l, st) | none => none
  | .lookupswitch dflt ps, _, .int x :: st => if (ps.toList.zip (ps.toList.drop 1)).all (fun (a, next) => a.1 < next.1) = true then (am_tgt pc (Op.lookupswitch.offset ps.toList dflt x.toInt)).map fun t => (t, l, st) else none
  | _, _, _ => none
section AMP
variable {p : Program} {l0 : Launch} {e : Env} {R : Room} {s : State} {m : MethodId} {args : Array Value} {below : List Frame} {meth : Method} {c : Code} {H : Heap} {locs : List Loc} {cells slots : Nat} {Q : State → Prop}
set_option maxHeartbeats 4000000 in
set_option maxRecDepth 100000 in
theorem am_pure_ok {ad : Nat → Nat} {cc : ByteArray} (hx : p.tables.exec = Jvm.exec) (hb : c.code = cc) {nL : Nat} {ins : Instr} {len pc : Nat} {l : am_L} {st : List Value} {pc' : Nat} {l' : am_L} {st' : List Value} (hd : decode cc pc = .ok (ins, len)) (h : am_pure nL ins len pc l st = some (pc', l', st')) {ls : Array Slot} (hl : lv_has ls nL (am_cl ad l))
    (k : ∀ ls' : Array Slot, lv_has ls' nL (am_cl ad l') → W p l0 e R s m args below meth c H locs cells slots Q (F0 m pc' ls' (st'.map (am_cv ad)))) : W p l0 e R s m args below meth c H locs cells slots Q (F0 m pc ls (st.map (am_cv ad))) := by
  unfold am_pure at h
  split at h
  · cases h; exact lv_iconst hx hb hd rfl (k _ hl)
  · cases h; exact lv_bipush hx hb hd rfl (k _ hl)
  · cases h; exact lv_sipush hx hb hd rfl (k _ hl)
  · cases h; exact lv_lconst hx hb hd rfl (k _ hl)
  · obtain ⟨x, hg, e⟩ := Option.map_eq_some_iff.mp h; cases e; exact lv_iload_n hx hb hd rfl (am_geti_of hl hg) (k _ hl)
  · obtain ⟨x, hg, e⟩ := Option.map_eq_some_iff.mp h; cases e; exact lv_iload hx hb hd (am_geti_of hl hg) (k _ hl)
  · obtain ⟨x, hg, e⟩ := Option.map_eq_some_iff.mp h; cases e; exact lv_lload_n hx hb hd rfl (am_getl_of hl hg) (k _ hl)
  · obtain ⟨x, hg, e⟩ := Option.map_eq_some_iff.mp h; cases e; exact lv_lload hx hb hd (am_getl_of hl hg) (k _ hl)
  · obtain ⟨x, hg, e⟩ := Option.map_eq_some_iff.mp h; cases e; exact lv_aload_n hx hb hd rfl (am_geta'_of hl hg) (k _ hl)
  · obtain ⟨x, hg, e⟩ := Option.map_eq_some_iff.mp h; cases e; exact lv_aload hx hb hd (am_geta'_of hl hg) (k _ hl)
  · split at h
    · rename_i hn; cases h; exact lv_istore_n hx hb hd rfl hl hn (am_st1_cv ad _ (.int _) _) (fun ls h2 => k _ h2)
    · cases h
  · split at h
    · rename_i hn; cases h; exact lv_istore hx hb hd hl hn (am_st1_cv ad _ (.int _) _) (fun ls h2 => k _ h2)
    · cases h
  · split at h
    · rename_i hn; cases h; exact lv_astore_n hx hb hd rfl hl hn (am_st1_cv ad _ (.ref _) _) (fun ls h2 => k _ h2)
    · cases h
  · split at h
    · rename_i hn; cases h; exact lv_astore hx hb hd hl hn (am_st1_cv ad _ (.ref _) _) (fun ls h2 => k _ h2)
    · cases h
  · split at h
    · rename_i hn; cases h; exact lv_lstore_n hx hb hd rfl hl hn (am_st2_cv ad _ (.long _) _) (fun ls h2 => k _ h2)
    · cases h
  · split at h
    · rename_i hn; cases h; exact lv_lstore hx hb hd hl hn (am_st2_cv ad _ (.long _) _) (fun ls h2 => k _ h2)
    · cases h
  · split at h
    · rename_i hn; obtain ⟨x, hg, e⟩ := Option.map_eq_some_iff.mp h; cases e; obtain ⟨j, hj⟩ := am_geti_at (ad := ad) hg; exact lv_iinc hx hb hd hl hj rfl hn (am_st1_cv ad _ (.int _) _) (fun ls h2 => k _ h2)
    · cases h
  · cases h; exact lv_iadd hx hb hd (k _ hl)
  · cases h; exact lv_isub hx hb hd (k _ hl)
  · cases h; exact lv_imul hx hb hd (k _ hl)
  · cases h; exact lv_iand hx hb hd (k _ hl)
  · cases h; exact lv_ior hx hb hd (k _ hl)
  · cases h; exact lv_ixor hx hb hd (k _ hl)
  · cases h; exact lv_ishl hx hb hd (k _ hl)
  · cases h; exact lv_ishr hx hb hd (k _ hl)
  · split at h
    · cases h
    · rename_i hn; cases h; exact lv_idiv hx hb hd hn (k _ hl)
  · split at h
    · cases h
    · rename_i hn; cases h; exact lv_irem hx hb hd hn (k _ hl)
  · cases h; exact lv_iushr hx hb hd rfl (k _ hl)
  · cases h; exact lv_ladd hx hb hd (k _ hl)
  · cases h; exact lv_lsub hx hb hd (k _ hl)
  · cases h; exact lv_lmul hx hb hd (k _ hl)
  · cases h; exact lv_land hx hb hd (k _ hl)
  · cases h; exact lv_lor hx hb hd (k _ hl)
  · cases h; exact lv_lxor hx hb hd (k _ hl)
  · cases h; exact lv_lshl hx hb hd rfl (k _ hl)
  · cases h; exact lv_lshr hx hb hd rfl (k _ hl)
  · cases h; exact lv_lushr hx hb hd rfl (k _ hl)
  · cases h; exact W.lcmp hx hb hd (k _ hl)
  · cases h; exact lv_i2l hx hb hd rfl (k _ hl)
  · cases h; exact lv_l2i hx hb hd rfl (k _ hl)
  · cases h; exact lv_i2b hx hb hd rfl (k _ hl)
  · split at h
    · rename_i hv; cases h; exact lv_dup hx hb hd ((am_cv_cat ad _).trans hv) (k _ hl)
    · cases h
  · split at h
    · rename_i hv; cases h; exact lv_pop hx hb hd ((am_cv_cat ad _).trans hv) (k _ hl)
    · cases h
  · split at h
    · rename_i hv; cases h; exact lv_dup2_11 hx hb hd ((am_cv_cat ad _).trans hv.1) ((am_cv_cat ad _).trans hv.2) (k _ hl)
    · cases h
  · obtain ⟨t, ht, e⟩ := Option.map_eq_some_iff.mp h; cases e; exact lv_if_ne hx hb hd (am_tgt_of ht) (fun cc9 => by have k9 := k _ hl; rw [if_neg cc9] at k9; exact k9) (fun cc9 => by have k9 := k _ hl; rw [if_pos cc9] at k9; exact k9)
  · obtain ⟨t, ht, e⟩ := Option.map_eq_some_iff.mp h; cases e; exact lv_icmp_ne hx hb hd (am_tgt_of ht) (fun cc9 => by have k9 := k _ hl; rw [if_neg cc9] at k9; exact k9) (fun cc9 => by have k9 := k _ hl; rw [if_pos cc9] at k9; exact k9)
  · obtain ⟨t, ht, e⟩ := Option.map_eq_some_iff.mp h; cases e; exact lv_if_eq hx hb hd (am_tgt_of ht) (fun cc9 => by have k9 := k _ hl; rw [if_pos cc9] at k9; exact k9) (fun cc9 => by have k9 := k _ hl; rw [if_neg cc9] at k9; exact k9)
  · obtain ⟨t, ht, e⟩ := Option.map_eq_some_iff.mp h; cases e; exact lv_if_lt hx hb hd (am_tgt_of ht) (fun cc9 => by have k9 := k _ hl; rw [if_pos cc9] at k9; exact k9) (fun cc9 => by have k9 := k _ hl; rw [if_neg cc9] at k9; exact k9)
  · obtain ⟨t, ht, e⟩ := Option.map_eq_some_iff.mp h; cases e; exact lv_if_ge hx hb hd (am_tgt_of ht) (fun cc9 => by have k9 := k _ hl; rw [if_pos cc9] at k9; exact k9) (fun cc9 => by have k9 := k _ hl; rw [if_neg cc9] at k9; exact k9)
  · obtain ⟨t, ht, e⟩ := Option.map_eq_some_iff.mp h; cases e; exact lv_if_gt hx hb hd (am_tgt_of ht) (fun cc9 => by have k9 := k _ hl; rw [if_pos cc9] at k9; exact k9) (fun cc9 => by have k9 := k _ hl; rw [if_neg cc9] at k9; exact k9)
  · obtain ⟨t, ht, e⟩ := Option.map_eq_some_iff.mp h; cases e; exact lv_if_le hx hb hd (am_tgt_of ht) (fun cc9 => by have k9 := k _ hl; rw [if_pos cc9] at k9; exact k9) (fun cc9 => by have k9 := k _ hl; rw [if_neg cc9] at k9; exact k9)
  · obtain ⟨t, ht, e⟩ := Option.map_eq_some_iff.mp h; cases e; exact lv_icmp_eq hx hb hd (am_tgt_of ht) (fun cc9 => by have k9 := k _ hl; rw [if_pos cc9] at k9; exact k9) (fun cc9 => by have k9 := k _ hl; rw [if_neg cc9] at k9; exact k9)
  · obtain ⟨t, ht, e⟩ := Option.map_eq_some_iff.mp h; cases e; exact lv_icmp_lt hx hb hd (am_tgt_of ht) (fun cc9 => by have k9 := k _ hl; rw [if_pos cc9] at k9; exact k9) (fun cc9 => by have k9 := k _ hl; rw [if_neg cc9] at k9; exact k9)
  · obtain ⟨t, ht, e⟩ := Option.map_eq_some_iff.mp h; cases e; exact lv_icmp_ge hx hb hd (am_tgt_of ht) (fun cc9 => by have k9 := k _ hl; rw [if_pos cc9] at k9; exact k9) (fun cc9 => by have k9 := k _ hl; rw [if_neg cc9] at k9; exact k9)
  · obtain ⟨t, ht, e⟩ := Option.map_eq_some_iff.mp h; cases e; exact lv_icmp_gt hx hb hd (am_tgt_of ht) (fun cc9 => by have k9 := k _ hl; rw [if_pos cc9] at k9; exact k9) (fun cc9 => by have k9 := k _ hl; rw [if_neg cc9] at k9; exact k9)
  · obtain ⟨t, ht, e⟩ := Option.map_eq_some_iff.mp h; cases e; exact lv_icmp_le hx hb hd (am_tgt_of ht) (fun cc9 => by have k9 := k _ hl; rw [if_pos cc9] at k9; exact k9) (fun cc9 => by have k9 := k _ hl; rw [if_neg cc9] at k9; exact k9)
  · obtain ⟨t, ht, e⟩ := Option.map_eq_some_iff.mp h; cases e; exact lv_goto hx hb hd (am_tgt_of ht) (k _ hl)
  · split at h
    · rename_i hc; obtain ⟨t, ht, e⟩ := Option.map_eq_some_iff.mp h; cases e; exact lv_tableOut hx hb hd hc (am_tgt_of ht) (k _ hl)
    · rename_i hc
      split at h
      · rename_i off ho; obtain ⟨t, ht, e⟩ := Option.map_eq_some_iff.mp h; cases e; exact lv_tableIn hx hb hd (fun q => hc (Or.inl q)) (fun q => hc (Or.inr q)) (by rw [← Array.getElem?_toList]; exact ho) (am_tgt_of ht) (k _ hl)
      · cases h
  · split at h
    · rename_i hc; obtain ⟨t, ht, e⟩ := Option.map_eq_some_iff.mp h; cases e; exact lv_lookup hx hb hd hc rfl (am_tgt_of ht) (k _ hl)
    · cases h
  · cases h
end AMP
end
section
/-! THE STORE ON THE JVM's HEAP: cell 0 is the law's script (at b), cell k + 1 is the k-th cell made since the heap Hb -/
def am_ad (b base : Nat) : Nat → Nat
  | 0 => b
  | k + 1 => base + k
theorem am_ad_inj {b base : Nat} (hb : b < base) : ∀ {i j : Nat}, am_ad b base i = am_ad b base j → i = j
  | 0, 0, _ => rfl
  | 0, j + 1, h => by
    have h : b = base + j := h
    omega
  | i + 1, 0, h => by
    have h : base + i = b := h
    omega
  | i + 1, j + 1, h => by
    have h : base + i = base + j := h
    omega
/-- what a cell is on the heap -/
def am_at (D : va_G) (cl : List vw_C) (ad : Nat → Nat) (s : State) (a : Nat) (x : am_E) (H : Heap) : Prop := match x with
  | .inl (ty, n, d, u) => ∃ cA : ClassId, (ArrOfT s cA ty ∧ va_RA s cA ty) ∧ H[a]? = some (arrV cA n (fun j => am_cv ad (am_fn d u j)))
  | .inr (ci, fs) => ∃ r : vw_C, cl[ci]? = some r ∧ fs.length = r.2.2 ∧ t_OB a (D.1 ci) r.2.2 (D.2 ci) H (fun k => am_cv ad (vp_V fs k))
theorem am_at.kept {D : va_G} {cl : List vw_C} {ad : Nat → Nat} {s : State} {a : Nat} {x : am_E} {H H1 : Heap} (h : am_at D cl ad s a x H) (e : H1[a]? = H[a]?) : am_at D cl ad s a x H1 := by
  cases x with
  | inl q =>
    obtain ⟨ty, n, d, u⟩ := q
    obtain ⟨cA, h1, h2⟩ := h
    exact ⟨cA, h1, by rw [e]; exact h2⟩
  | inr q =>
    obtain ⟨ci, fs⟩ := q
    obtain ⟨r, h1, h2, h3⟩ := h
    exact ⟨r, h1, h2, h3.kept e⟩
theorem am_at.moved {D : va_G} {cl : List vw_C} {ad : Nat → Nat} {s t : State} {a : Nat} {x : am_E} {H : Heap} (hvm : s.vm.Alike t.vm) (h : am_at D cl ad s a x H) : am_at D cl ad t a x H := by
  cases x with
  | inl q =>
    obtain ⟨ty, n, d, u⟩ := q
    obtain ⟨cA, h1, h2⟩ := h
    exact ⟨cA, ⟨arrOfT_moved hvm h1.1, h1.2.moved hvm⟩, h2⟩
  | inr q =>
    obtain ⟨ci, fs⟩ := q
    exact h
/-- the store S on the heap H: what was there stays; the script; the cells made -/
def am_R (D : va_G) (cl : List vw_C) (b : Nat) (Hb : Heap) (S : am_S) (s : State) (H : Heap) : Prop :=
  b < Hb.size ∧ H.size = Hb.size + S.2.1 ∧ (∀ q : Nat, q < Hb.size → H[q]? = Hb[q]?) ∧
  (∃ (L : Nat) (xs : Nat → Int32), (S.1 = (0, none) ∨ ∃ u, S.1 = (L, some (.inl (.int, L, .int 0, u))) ∧ ∀ j, j < L → am_fn (.int 0) u j = .int (xs j)) ∧ va_X b L xs s H) ∧
  ∀ (k z : Nat) (x : am_E), am_nth S (k + 1) = some (z, some x) → am_at D cl (am_ad b Hb.size) s (Hb.size + k) x H
theorem am_R.moved {D : va_G} {cl : List vw_C} {b : Nat} {Hb : Heap} {S : am_S} {s t : State} {H : Heap} (hvm : s.vm.Alike t.vm) (h : am_R D cl b Hb S s H) : am_R D cl b Hb S t H := by
  obtain ⟨h1, h2, h3, ⟨L, xs, h4, h5⟩, h6⟩ := h
  exact ⟨h1, h2, h3, ⟨L, xs, h4, h5.moved hvm⟩, fun k z x hk => (h6 k z x hk).moved hvm⟩
/-- an array is read -/
theorem am_R.arr {D : va_G} {cl : List vw_C} {b : Nat} {Hb : Heap} {S : am_S} {s : State} {H : Heap} (h : am_R D cl b Hb S s H) {k z n : Nat} {ty : FieldType} {d : Value} {u : List (Nat × Value)} (hk : am_nth S k = some (z, some (.inl (ty, n, d, u)))) :
    ∃ cell : Cell, H[am_ad b Hb.size k]? = some cell ∧ s.isArrayOf cell ty ∧ cell.vm ≠ .unknown ∧ cell.slots.size = n ∧ ∀ j : Nat, j < n → cell.slots[j]? = some (am_cv (am_ad b Hb.size) (am_fn d u j)) := by
  obtain ⟨h1, h2, h3, ⟨L, xs, h4, scr, q1, q2, q3, q4, q5⟩, h6⟩ := h
  cases k with
  | zero =>
    have hk : some S.1 = some (z, some (.inl (ty, n, d, u))) := hk
    rcases h4 with h4 | ⟨u', h4, h7⟩
    · rw [h4] at hk
      cases hk
    · rw [h4] at hk
      cases hk
      exact ⟨scr, q1, q2, q3, q4, fun j hj => by rw [q5 j hj, h7 j hj]; rfl⟩
  | succ k =>
    obtain ⟨cA, ⟨e1, -⟩, e2⟩ := h6 k z _ hk
    exact ⟨_, e2, e1 n _, (fun q => by cases q), arrV_size _ _ _, (fun j hj => arrV_read _ _ hj)⟩
/-- one cell that was made is written -/
theorem am_R.put {D : va_G} {cl : List vw_C} {b : Nat} {Hb : Heap} {S : am_S} {s : State} {H H1 : Heap} (h : am_R D cl b Hb S s H) {k z : Nat} {x0 x : am_E} (hk : am_nth S (k + 1) = some (z, some x0)) (hx : am_at D cl (am_ad b Hb.size) s (Hb.size + k) x H1) (hz : H1.size = H.size) (ho : ∀ q : Nat, q ≠ Hb.size + k → H1[q]? = H[q]?) :
    am_R D cl b Hb (am_set S (k + 1) (z, some x)) s H1 := by
  obtain ⟨h1, h2, h3, ⟨L, xs, h4, h5⟩, h6⟩ := h
  refine ⟨h1, by rw [hz]; exact h2, fun q hq => (ho q (by omega)).trans (h3 q hq), ⟨L, xs, h4, h5.kept (ho b (by omega))⟩, fun j z' y hj => ?_⟩
  rw [am_nth_set _ hk] at hj
  by_cases e : j = k
  · subst e
    rw [if_pos rfl] at hj
    cases hj
    exact hx
  · rw [if_neg e] at hj
    exact (h6 j z' y hj).kept (ho _ (by omega))
/-- a cell is made -/
theorem am_R.new {D : va_G} {cl : List vw_C} {b : Nat} {Hb : Heap} {S : am_S} {s : State} {H H1 : Heap} (h : am_R D cl b Hb S s H) {z : Nat} {x : Option am_E} (hx : ∀ y, x = some y → am_at D cl (am_ad b Hb.size) s H.size y H1) (hz : H1.size = H.size + 1) (ho : ∀ q : Nat, q < H.size → H1[q]? = H[q]?) :
    am_R D cl b Hb (am_add S (z, x)) s H1 ∧ am_ad b Hb.size (am_len S) = H.size := by
  obtain ⟨h1, h2, h3, ⟨L, xs, h4, h5⟩, h6⟩ := h
  refine ⟨⟨h1, by show H1.size = Hb.size + (S.2.1 + 1); omega, fun q hq => (ho q (by omega)).trans (h3 q hq), ⟨L, xs, h4, h5.kept (ho b (by omega))⟩, fun j z' y hj => ?_⟩, ?_⟩
  · rw [am_nth_add] at hj
    by_cases e : j = S.2.1
    · rw [if_pos e] at hj
      cases hj
      have e3 : Hb.size + j = H.size := by omega
      rw [e3]
      exact hx _ rfl
    · rw [if_neg e] at hj
      have := (am_nth_lt hj).1
      exact (h6 j z' y hj).kept (ho _ (by omega))
  · show Hb.size + S.2.1 = H.size
    omega
theorem am_vpV_cv (ad : Nat → Nat) (fs : List Value) (k : Nat) (v : Value) (h : fs[k]? = some v) : am_cv ad (vp_V fs k) = am_cv ad v := by
  have : vp_V fs k = v := by
    unfold vp_V
    rw [List.getD_eq_getElem?_getD, h]
    rfl
  rw [this]
end
section
/-! the machine's steps that read or write the store -/
def am_getf (S : am_S) (a ci k : Nat) : Option Value := match am_nth S a with
  | some (_, some (.inr (cj, fs))) => if cj = ci then fs[k]? else none
  | _ => none
/-- what may be laid into a field of a type -/
def am_okv : FieldType → Value → Bool
  | .int, .int _ => true
  | .boolean, .int x => x == 0 || x == 1
  | .long, .long _ => true
  | .object _, .ref _ => true
  | .array _, .ref _ => true
  | _, _ => false
theorem am_okv_of {ad : Nat → Nat} {ty : FieldType} {v : Value} (h : am_okv ty v = true) : narrow ty (am_cv ad v) = am_cv ad v ∧ fits ty (am_cv ad v) = true := by
  unfold am_okv at h
  split at h
  · exact ⟨rfl, rfl⟩
  · rename_i x
    simp only [Bool.or_eq_true, beq_iff_eq] at h
    rcases h with h | h
    · subst h
      show narrow .boolean (.int 0) = .int 0 ∧ fits .boolean (.int 0) = true
      decide
    · subst h
      show narrow .boolean (.int 1) = .int 1 ∧ fits .boolean (.int 1) = true
      decide
  · exact ⟨rfl, rfl⟩
  · exact ⟨rfl, rfl⟩
  · exact ⟨rfl, rfl⟩
  · cases h
theorem am_updV_cv (ad : Nat → Nat) {fs : List Value} {k : Nat} (hk : k < fs.length) (v : Value) (j : Nat) : updV (fun q => am_cv ad (vp_V fs q)) k (am_cv ad v) j = am_cv ad (vp_V (fs.set k v) j) := by
  rw [← vp_updV_set hk v j]
  by_cases h : j = k
  · subst h
    simp [updV]
  · simp [updV, h]
/-- an object in the store -/
theorem am_R.obj {D : va_G} {cl : List vw_C} {b : Nat} {Hb : Heap} {S : am_S} {s : State} {H : Heap} (h : am_R D cl b Hb S s H) {a z ci : Nat} {fs : List Value} (ha : am_nth S a = some (z, some (.inr (ci, fs)))) :
    ∃ (j : Nat) (r : vw_C), a = j + 1 ∧ am_nth S (j + 1) = some (z, some (.inr (ci, fs))) ∧ cl[ci]? = some r ∧ fs.length = r.2.2 ∧ t_OB (Hb.size + j) (D.1 ci) r.2.2 (D.2 ci) H (fun k => am_cv (am_ad b Hb.size) (vp_V fs k)) := by
  obtain ⟨h1, h2, h3, ⟨L, xs, h4, h5⟩, h6⟩ := h
  cases a with
  | zero =>
    have ha : some S.1 = some (z, some (.inr (ci, fs))) := ha
    rcases h4 with h4 | ⟨u', h4, h7⟩
    · rw [h4] at ha
      cases ha
    · rw [h4] at ha
      cases ha
  | succ j =>
    obtain ⟨r, e1, e2, e3⟩ := h6 j z _ ha
    exact ⟨j, r, rfl, ha, e1, e2, e3⟩
/-- what the tables say of a class: its words are there; its fields' types; its fields' names differ -/
def am_Cls (Ts : List Cond) (cl : List vw_C) (tyL : List (List FieldType)) : Prop := ∀ (ci : Nat) (r : vw_C), cl[ci]? = some r → (∀ w ∈ u_ws r.1 r.2.1 r.2.2, w ∈ Ts) ∧ (∃ tys : List FieldType, tyL[ci]? = some tys ∧ tys.length = r.2.2 ∧ ∀ k, k < r.2.2 → parseFieldDescriptor (r.2.1 k).2.2.1 = some (tys.getD k .int)) ∧ (∀ a, a < r.2.2 → ∀ b, b < r.2.2 → a ≠ b → (r.2.1 a).2.1 ≠ (r.2.1 b).2.1) ∧ Cond.instantiable r.1 r.2.2 ∈ Ts ∧ Cond.initialized r.1 ∈ Ts
section AMH
variable {p : Program} {l0 : Launch} {e : Env} {R : Room} {s : State} {m : MethodId} {args : Array Value} {below : List Frame} {meth : Method} {c : Code} {H : Heap} {locs : List Loc} {cells slots : Nat} {Q : State → Prop}
variable {cc : ByteArray} {pc : Nat} {ls : Array Slot} {rest : List Value} {D : va_G} {cl : List vw_C} {tyL : List (List FieldType)} {b : Nat} {Hb : Heap} {S : am_S} {own : String} {Ts : List Cond}
set_option maxHeartbeats 1000000 in
theorem am_get_ok (hx : p.tables.exec = Jvm.exec) (hb : c.code = cc) (hts : ∀ w ∈ Ts, w.before args s = true) (hC : am_Cls Ts cl tyL) (hown : s.vm.findClass own = some m.cls) (hK : va_K D cl [] s) (hR : am_R D cl b Hb S s H) {r : vw_C} {i ci k a : Nat} (hc : cl[ci]? = some r) (hk : k < r.2.2) (hlink : Cond.fieldLink own i (r.2.1 k).1 (r.2.1 k).2.1 (r.2.1 k).2.2.1 ∈ Ts) {v : Value} (hv : am_getf S a ci k = some v) (hd : decode cc pc = .ok (.getfield i, 3))
    (kk : W p l0 e R s m args below meth c H locs cells slots Q (F0 m (pc + 3) ls (am_cv (am_ad b Hb.size) v :: rest))) : W p l0 e R s m args below meth c H locs cells slots Q (F0 m pc ls (.ref (am_ad b Hb.size a) :: rest)) := by
  unfold am_getf at hv
  split at hv
  · rename_i z cj fs hS
    split at hv
    · rename_i hci
      subst hci
      obtain ⟨j, r', rfl, hS2, h1, h2, cell, q1, q2, q3, q4⟩ := hR.obj hS
      have hr : r' = r := Option.some.inj (h1.symm.trans hc)
      subst hr
      obtain ⟨hin, -⟩ := hC _ _ hc
      obtain ⟨hSl, hfc, kC, hkC, hkind⟩ := hK.1 _ _ hc
      obtain ⟨cf, kf, fi, f, hi, hsl⟩ := hSl k hk
      refine W.getf hx hb hown (hts _ hlink) hi (u_facts hfc hkC (u_lays hts hin hk) hi).1 q1 (by rw [q3]; exact fun h => by cases h) (v := am_cv (am_ad b Hb.size) v) ?_ rfl rfl hd kk
      rw [hsl, q4 k hk]
      exact congrArg some (am_vpV_cv _ _ _ _ hv)
    · cases hv
  · cases hv
set_option maxHeartbeats 1000000 in
theorem am_put_ok (hx : p.tables.exec = Jvm.exec) (hb : c.code = cc) (hts : ∀ w ∈ Ts, w.before args s = true) (hC : am_Cls Ts cl tyL) (hown : s.vm.findClass own = some m.cls) (hK : va_K D cl [] s) (hR : am_R D cl b Hb S s H) (hL : ∀ q ∈ locs, Hb.size ≤ q.base) {r : vw_C} {i ci k a : Nat} {tys : List FieldType} (hc : cl[ci]? = some r) (hk : k < r.2.2) (hty : tyL[ci]? = some tys) (hlink : Cond.fieldLink own i (r.2.1 k).1 (r.2.1 k).2.1 (r.2.1 k).2.2.1 ∈ Ts) (hfin : (r.2.1 k).2.2.2 = false ∨ (meth.name = "<init>" ∧ (r.2.1 k).1 = own)) {v : Value} (hv : am_okv (tys.getD k .int) v = true) {z : Nat} {fs : List Value} (hS : am_nth S a = some (z, some (.inr (ci, fs)))) (hd : decode cc pc = .ok (.putfield i, 3))
    (kk : ∀ (H1 : Heap) (locs1 : List Loc), am_R D cl b Hb (am_set S a (z, some (.inr (ci, fs.set k v)))) s H1 → (∀ q ∈ locs1, Hb.size ≤ q.base) → W p l0 e R s m args below meth c H1 locs1 cells slots Q (F0 m (pc + 3) ls rest)) : W p l0 e R s m args below meth c H locs cells slots Q (F0 m pc ls (am_cv (am_ad b Hb.size) v :: .ref (am_ad b Hb.size a) :: rest)) := by
  obtain ⟨j, r', rfl, hS2, h1, h2, cell, q1, q2, q3, q4⟩ := hR.obj hS
  have hr : r' = r := Option.some.inj (h1.symm.trans hc)
  subst hr
  obtain ⟨hin, ⟨tys', hty', htl, htd⟩, hnm, -⟩ := hC _ _ hc
  have ht : tys' = tys := Option.some.inj (hty'.symm.trans hty)
  subst ht
  have hap := va_apart (own := own) (ty := fun k => tys'.getD k .int) hts hin htd hnm hK hc
  obtain ⟨hSl, hfc, kC, hkC, hkind⟩ := hK.1 _ _ hc
  obtain ⟨cf, kf, fi, f, hi, hsl⟩ := hSl k hk
  have hst := (u_facts hfc hkC (u_lays hts hin hk) hi).1
  obtain ⟨hn, hfit⟩ := am_okv_of (ad := am_ad b Hb.size) hv
  have hlt : f.slot < cell.slots.size := by rw [hsl]; exact k2_hasslot (q4 k hk)
  have go : ∀ H' : Heap, H'[Hb.size + j]? = some (cell.setSlot f.slot (am_cv (am_ad b Hb.size) v)) → H'.size = H.size → (∀ q, q ≠ Hb.size + j → H'[q]? = H[q]?) → W p l0 e R s m args below meth c H' (locs ++ [⟨Hb.size + j, f.slot⟩]) cells slots Q (F0 m (pc + 3) ls rest) := by
    intro H' e1 e2 e3
    refine kk H' _ (hR.put hS2 ⟨r', hc, by rw [List.length_set]; exact h2, ?_⟩ e2 e3) ?_
    · refine ⟨_, e1, q2, q3, fun k' hk' => ?_⟩
      rw [hsl]
      have h9 := t_set q4 hap hk (am_cv (am_ad b Hb.size) v) k' hk'
      rw [h9, am_updV_cv (am_ad b Hb.size) (show k < fs.length by rw [h2]; exact hk) v k']
    · intro q hq
      rcases List.mem_append.mp hq with h | h
      · exact hL q h
      · rw [List.mem_singleton.mp h]
        exact Nat.le_add_right _ _
  rcases hfin with hfin | ⟨hin2, hdecl⟩
  · by_cases hF : (r'.2.1 k).2.2.2 = true
    · rw [hF] at hfin; cases hfin
    · have hlay := hts _ (hin _ (u_in_lay hk))
      unfold u_lay at hlay
      rw [if_neg hF] at hlay
      have h6 := u_store hfc hkC hkind hlay hi (htd k hk) hn hfit
      exact W.putK hx hb (f := f) ⟨hown, hts _ hlink, ⟨_, _, _, hi⟩, hst⟩ (by rw [q2]; exact h6) q1 q3 hlt rfl rfl hd go
  · by_cases hF : (r'.2.1 k).2.2.2 = true
    · have hlay := hts _ (hin _ (u_in_lay hk))
      unfold u_lay at hlay
      rw [if_pos hF] at hlay
      have hcf : m.cls = cf := by
        obtain ⟨_, _, c', _, _, _, -, -, hf', -, -, -, hown2, -⟩ := Cond.laysFinal_spec hlay
        have e1 : c' = cf := by have := hi.symm.trans hf'; simp at this; exact this.1.symm
        rw [hdecl] at hown2
        rw [← e1]; exact Option.some.inj (hown.symm.trans hown2)
      have h6 := u_fits hfc hkC hkind (Or.inr hlay) hi (htd k hk) hn hfit
      exact W.putFinK hx hb hown (hts _ hlink) hi hst hcf hin2 (by rw [q2]; exact h6) q1 q3 hlt rfl rfl hd go
    · have hlay := hts _ (hin _ (u_in_lay hk))
      unfold u_lay at hlay
      rw [if_neg hF] at hlay
      have h6 := u_store hfc hkC hkind hlay hi (htd k hk) hn hfit
      exact W.putK hx hb (f := f) ⟨hown, hts _ hlink, ⟨_, _, _, hi⟩, hst⟩ (by rw [q2]; exact h6) q1 q3 hlt rfl rfl hd go
end AMH
end
section
/-! cells that are made; arrays -/
theorem am_cv_def (ad : Nat → Nat) (ty : FieldType) : am_cv ad (defaultValue ty) = defaultValue ty := by cases ty <;> rfl
theorem am_updA_cv (ad : Nat → Nat) (f : Nat → Value) (k : Nat) (v : Value) : updV (fun j => am_cv ad (f j)) k (am_cv ad v) = fun j => am_cv ad (updV f k v j) := by
  funext j
  by_cases h : j = k
  · simp [updV, h]
  · simp [updV, h]
theorem am_arr_fits {n : Nat} {i : Int32} {cell : Cell} (h : ¬ (i < 0 ∨ n ≤ i.toNatClampNeg)) (hn : cell.slots.size = n) : ¬ (i < 0 ∨ cell.slots.size ≤ i.toNatClampNeg) := by rw [hn]; exact h
section AMN
variable {p : Program} {l0 : Launch} {e : Env} {R : Room} {s : State} {m : MethodId} {args : Array Value} {below : List Frame} {meth : Method} {c : Code} {H : Heap} {locs : List Loc} {cells slots : Nat} {Q : State → Prop}
variable {cc : ByteArray} {pc : Nat} {ls : Array Slot} {rest : List Value} {D : va_G} {cl : List vw_C} {tyL : List (List FieldType)} {b : Nat} {Hb : Heap} {S : am_S} {own : String} {Ts : List Cond}
set_option maxHeartbeats 1000000 in
theorem am_new_ok (hx : p.tables.exec = Jvm.exec) (hb : c.code = cc) (hts : ∀ w ∈ Ts, w.before args s = true) (hC : am_Cls Ts cl tyL) (hown : s.vm.findClass own = some m.cls) (hK : va_K D cl [] s) (hR : am_R D cl b Hb S s H) {r : vw_C} {i ci : Nat} {tys : List FieldType} (hc : cl[ci]? = some r) (hty : tyL[ci]? = some tys) (hlink : Cond.classLink own i r.1 ∈ Ts) (hcells : cells + 1 ≤ R.cells) (hslots : slots + tys.length ≤ R.slots) (hd : decode cc pc = .ok (.new i, 3))
    (kk : ∀ H1 : Heap, am_R D cl b Hb (am_add S (tys.length, some (.inr (ci, tys.map defaultValue)))) s H1 → W p l0 e R s m args below meth c H1 locs (cells + 1) (slots + tys.length) Q (F0 m (pc + 3) ls (.ref (am_ad b Hb.size (am_len S)) :: rest))) : W p l0 e R s m args below meth c H locs cells slots Q (F0 m pc ls rest) := by
  obtain ⟨hin, ⟨tys', hty', htl, htd⟩, hnm, hins, hini⟩ := hC _ _ hc
  have ht : tys' = tys := Option.some.inj (hty'.symm.trans hty)
  subst ht
  have hKn := hK.1 ci _ hc
  rw [htl] at kk hslots
  refine W.newcK hx hb hown (hts _ hlink) (hts _ hins) (hts _ hini) rfl hd hcells hslots hKn.2.1 rfl fun H1 kC hkC e1 z1 o1 => ?_
  obtain ⟨h1, h2⟩ := hR.new (z := r.2.2) (x := some (.inr (ci, tys'.map defaultValue))) (H1 := H1) (fun y hy => by
    cases hy
    refine ⟨r, hc, by rw [List.length_map]; exact htl, (u_born (fun k => tys'.getD k .int) hts hin hKn hkC e1 htd).to fun k hk => ?_⟩
    have hk' : k < tys'.length := by omega
    show defaultValue (tys'.getD k .int) = am_cv _ (vp_V (tys'.map defaultValue) k)
    rw [am_vpV_cv _ _ k (defaultValue (tys'.getD k .int)) (by simp [hk']), am_cv_def]) z1 o1
  have h3 := kk H1 h1
  rw [h2] at h3
  exact h3
set_option maxHeartbeats 1000000 in
theorem am_newa_ok (hx : p.tables.exec = Jvm.exec) (hb : c.code = cc) (hts : ∀ w ∈ Ts, w.before args s = true) (hR : am_R D cl b Hb S s H) {at' : ArrayType} (hlink : Cond.arrayClass (newarray.typeOf at') ∈ Ts) {n : Int32} (hn : ¬ n < 0) (hbytes : n.toNatClampNeg * componentBytes (newarray.typeOf at') ≤ 536870912) (hcells : cells + 1 ≤ R.cells) (hslots : slots + n.toNatClampNeg ≤ R.slots) (hd : decode cc pc = .ok (.newarray at', 2))
    (kk : ∀ H1 : Heap, am_R D cl b Hb (am_add S (n.toNatClampNeg, some (.inl (newarray.typeOf at', n.toNatClampNeg, defaultValue (newarray.typeOf at'), [])))) s H1 → W p l0 e R s m args below meth c H1 locs (cells + 1) (slots + n.toNatClampNeg) Q (F0 m (pc + 2) ls (.ref (am_ad b Hb.size (am_len S)) :: rest))) : W p l0 e R s m args below meth c H locs cells slots Q (F0 m pc ls (.int n :: rest)) := by
  refine va_newaK hx hb (hts _ hlink) rfl hd rfl hn rfl hbytes hcells hslots rfl fun H1 cA e1 z1 o1 hAr hNm => ?_
  obtain ⟨h1, h2⟩ := hR.new (z := n.toNatClampNeg) (x := some (.inl (newarray.typeOf at', n.toNatClampNeg, defaultValue (newarray.typeOf at'), []))) (H1 := H1) (fun y hy => by
    cases hy
    refine ⟨cA, ⟨hAr, by cases at' <;> exact hNm⟩, ?_⟩
    rw [e1]
    congr 2
    funext j
    exact (am_cv_def _ _).symm) z1 o1
  have h3 := kk H1 h1
  rw [h2] at h3
  exact h3
set_option maxHeartbeats 1000000 in
theorem am_newq_ok (hx : p.tables.exec = Jvm.exec) (hb : c.code = cc) (hts : ∀ w ∈ Ts, w.before args s = true) (hown : s.vm.findClass own = some m.cls) (hR : am_R D cl b Hb S s H) {C : String} {i : Nat} (hlink : Cond.classLink own i C ∈ Ts) (hover : va_AO C s) {n : Int32} (hn : ¬ n < 0) (hbytes : n.toNatClampNeg * 4 ≤ 536870912) (hcells : cells + 1 ≤ R.cells) (hslots : slots + n.toNatClampNeg ≤ R.slots) (hd : decode cc pc = .ok (.anewarray i, 3))
    (kk : ∀ H1 : Heap, am_R D cl b Hb (am_add S (n.toNatClampNeg, some (.inl (.object C, n.toNatClampNeg, .null, [])))) s H1 → W p l0 e R s m args below meth c H1 locs (cells + 1) (slots + n.toNatClampNeg) Q (F0 m (pc + 3) ls (.ref (am_ad b Hb.size (am_len S)) :: rest))) : W p l0 e R s m args below meth c H locs cells slots Q (F0 m pc ls (.int n :: rest)) := by
  refine W.anew hx hb hown (hts _ hlink) (va_AO.use hover) rfl hd rfl hn hbytes hcells hslots fun cA kA comp f1 f2 f3 f4 => ?_
  generalize hH1 : H.push ({ cls := cA, slots := Array.replicate n.toNatClampNeg .null, vm := .none } : Cell) = H1
  have z1 : H1.size = H.size + 1 := by rw [← hH1, Array.size_push]
  have e1 : H1[H.size]? = some (arrV cA n.toNatClampNeg (fun _ => .null)) := by rw [← hH1, Array.getElem?_push_size, ← arrV_new]
  have o1 : ∀ q : Nat, q < H.size → H1[q]? = H[q]? := fun q hq => by rw [← hH1, Array.getElem?_push, if_neg (Nat.ne_of_lt hq)]
  have hAr : ArrOfT s cA (.object C) := fun N z => ⟨(fun k h => by cases h), kA, f2, comp, f3⟩
  obtain ⟨h1, h2⟩ := hR.new (z := n.toNatClampNeg) (x := some (.inl (.object C, n.toNatClampNeg, .null, []))) (H1 := H1) (fun y hy => by
    cases hy
    exact ⟨cA, ⟨hAr, kA, comp, f2, f3, f4, f1⟩, e1⟩) z1 o1
  have h3 := kk H1 h1
  rw [h2] at h3
  exact h3
/-- what am_geta gives is on the heap -/
theorem am_geta_cell (hR : am_R D cl b Hb S s H) {a : Nat} {i : Int32} {ty : FieldType} {v : Value} (h : am_geta S a i ty = some v) : ∃ cell : Cell, H[am_ad b Hb.size a]? = some cell ∧ s.isArrayOf cell ty ∧ cell.vm ≠ .unknown ∧ ¬ (i < 0 ∨ cell.slots.size ≤ i.toNatClampNeg) ∧ cell.slots[i.toNatClampNeg]? = some (am_cv (am_ad b Hb.size) v) := by
  unfold am_geta at h
  split at h
  · rename_i z t n dv u hS
    split at h
    · rename_i hc
      obtain ⟨rfl, hc⟩ := hc
      cases h
      obtain ⟨cell, q1, q2, q3, q4, q5⟩ := hR.arr hS
      exact ⟨cell, q1, q2, q3, am_arr_fits hc q4, q5 _ (Nat.not_le.mp fun q => hc (Or.inr q))⟩
    · cases h
  · cases h
theorem am_iald_ok (hx : p.tables.exec = Jvm.exec) (hb : c.code = cc) (hR : am_R D cl b Hb S s H) {a : Nat} {i : Int32} {v : Value} (h : am_geta S a i .int = some v) (hd : decode cc pc = .ok (.iaload, 1)) (kk : W p l0 e R s m args below meth c H locs cells slots Q (F0 m (pc + 1) ls (am_cv (am_ad b Hb.size) v :: rest))) : W p l0 e R s m args below meth c H locs cells slots Q (F0 m pc ls (.int i :: .ref (am_ad b Hb.size a) :: rest)) := by
  obtain ⟨cell, q1, q2, q3, q4, q5⟩ := am_geta_cell hR h
  exact W.iald hx hb q1 q2 q3 q4 q5 rfl rfl hd kk
theorem am_lald_ok (hx : p.tables.exec = Jvm.exec) (hb : c.code = cc) (hR : am_R D cl b Hb S s H) {a : Nat} {i : Int32} {v : Value} (h : am_geta S a i .long = some v) (hd : decode cc pc = .ok (.laload, 1)) (kk : W p l0 e R s m args below meth c H locs cells slots Q (F0 m (pc + 1) ls (am_cv (am_ad b Hb.size) v :: rest))) : W p l0 e R s m args below meth c H locs cells slots Q (F0 m pc ls (.int i :: .ref (am_ad b Hb.size a) :: rest)) := by
  obtain ⟨cell, q1, q2, q3, q4, q5⟩ := am_geta_cell hR h
  exact W.lald hx hb q1 q2 q3 q4 q5 rfl rfl hd kk
theorem am_bald_ok (hx : p.tables.exec = Jvm.exec) (hb : c.code = cc) (hR : am_R D cl b Hb S s H) {a : Nat} {i : Int32} {v : Value} (h : am_geta S a i .byte = some v) (hd : decode cc pc = .ok (.baload, 1)) (kk : W p l0 e R s m args below meth c H locs cells slots Q (F0 m (pc + 1) ls (am_cv (am_ad b Hb.size) v :: rest))) : W p l0 e R s m args below meth c H locs cells slots Q (F0 m pc ls (.int i :: .ref (am_ad b Hb.size a) :: rest)) := by
  obtain ⟨cell, q1, q2, q3, q4, q5⟩ := am_geta_cell hR h
  exact W.bald hx hb q1 q2 q3 q4 q5 rfl rfl hd kk
theorem am_zald_ok (hx : p.tables.exec = Jvm.exec) (hb : c.code = cc) (hR : am_R D cl b Hb S s H) {a : Nat} {i : Int32} {v : Value} (h : am_geta S a i .boolean = some v) (hd : decode cc pc = .ok (.baload, 1)) (kk : W p l0 e R s m args below meth c H locs cells slots Q (F0 m (pc + 1) ls (am_cv (am_ad b Hb.size) v :: rest))) : W p l0 e R s m args below meth c H locs cells slots Q (F0 m pc ls (.int i :: .ref (am_ad b Hb.size a) :: rest)) := by
  obtain ⟨cell, q1, q2, q3, q4, q5⟩ := am_geta_cell hR h
  exact W.zald hx hb q1 q2 q3 q4 q5 rfl rfl hd kk
theorem am_aald_ok (hx : p.tables.exec = Jvm.exec) (hb : c.code = cc) (hR : am_R D cl b Hb S s H) {a : Nat} {i : Int32} {C : String} {v : Value} (h : am_geta S a i (.object C) = some v) (hd : decode cc pc = .ok (.aaload, 1)) (kk : W p l0 e R s m args below meth c H locs cells slots Q (F0 m (pc + 1) ls (am_cv (am_ad b Hb.size) v :: rest))) : W p l0 e R s m args below meth c H locs cells slots Q (F0 m pc ls (.int i :: .ref (am_ad b Hb.size a) :: rest)) := by
  obtain ⟨cell, q1, q2, q3, q4, q5⟩ := am_geta_cell hR h
  exact W.aald hx hb q1 q2 rfl q3 q4 q5 rfl rfl hd kk
theorem am_alen_ok (hx : p.tables.exec = Jvm.exec) (hb : c.code = cc) (hR : am_R D cl b Hb S s H) {a z n : Nat} {ty : FieldType} {dv : Value} {u : List (Nat × Value)} (hS : am_nth S a = some (z, some (.inl (ty, n, dv, u)))) (hd : decode cc pc = .ok (.arraylength, 1)) (kk : W p l0 e R s m args below meth c H locs cells slots Q (F0 m (pc + 1) ls (.int (Int32.ofNat n) :: rest))) : W p l0 e R s m args below meth c H locs cells slots Q (F0 m pc ls (.ref (am_ad b Hb.size a) :: rest)) := by
  obtain ⟨cell, q1, q2, q3, q4, q5⟩ := hR.arr hS
  exact W.alen hx hb q1 q2 (by rw [q4]) rfl rfl hd kk
theorem am_locs_put {locs : List Loc} {Hb : Heap} {j k : Nat} (hL : ∀ q ∈ locs, Hb.size ≤ q.base) : ∀ q ∈ locs ++ [(⟨Hb.size + j, k⟩ : Loc)], Hb.size ≤ q.base := by
  intro q hq
  rcases List.mem_append.mp hq with h | h
  · exact hL q h
  · rw [List.mem_singleton.mp h]
    exact Nat.le_add_right _ _
/-- an array's place is written: what is left of it -/
theorem am_arr_put {H1 : Heap} (hR : am_R D cl b Hb S s H) {j z n : Nat} {ty : FieldType} {dv : Value} {u : List (Nat × Value)} {cA : ClassId} {k : Nat} {v : Value} (hS : am_nth S (j + 1) = some (z, some (.inl (ty, n, dv, u)))) (hA : ArrOfT s cA ty ∧ va_RA s cA ty) (e1 : H1[Hb.size + j]? = some ((arrV cA n (fun q => am_cv (am_ad b Hb.size) (am_fn dv u q))).setSlot k (am_cv (am_ad b Hb.size) v))) (z1 : H1.size = H.size) (o1 : ∀ q, q ≠ Hb.size + j → H1[q]? = H[q]?) : am_R D cl b Hb (am_set S (j + 1) (z, some (.inl (ty, n, dv, (k, v) :: u)))) s H1 := by
  refine hR.put hS ⟨cA, hA, ?_⟩ z1 o1
  rw [e1, arrV_store, am_updA_cv, am_fn_cons]
end AMN
end
section
/-! arrays are written; System.arraycopy of ints -/
theorem am_seta_of {S S' : am_S} {a : Nat} {i : Int32} {ty : FieldType} {v : Value} (h : am_seta S a i ty v = some S') : ∃ (j z n : Nat) (dv : Value) (u : List (Nat × Value)), a = j + 1 ∧ am_nth S (j + 1) = some (z, some (.inl (ty, n, dv, u))) ∧ ¬ (i < 0 ∨ n ≤ i.toNatClampNeg) ∧ S' = am_set S (j + 1) (z, some (.inl (ty, n, dv, (i.toNatClampNeg, v) :: u))) := by
  unfold am_seta at h
  split at h
  · cases h
  · rename_i a' z t n dv u hS
    split at h
    · rename_i hc
      obtain ⟨rfl, hc⟩ := hc
      cases h
      exact ⟨a', z, n, dv, u, rfl, hS, hc, rfl⟩
    · cases h
  · cases h
theorem am_R.made {D : va_G} {cl : List vw_C} {b : Nat} {Hb : Heap} {S : am_S} {s : State} {H : Heap} (h : am_R D cl b Hb S s H) {j z n : Nat} {ty : FieldType} {dv : Value} {u : List (Nat × Value)} (hS : am_nth S (j + 1) = some (z, some (.inl (ty, n, dv, u)))) : ∃ cA : ClassId, (ArrOfT s cA ty ∧ va_RA s cA ty) ∧ H[Hb.size + j]? = some (arrV cA n (fun q => am_cv (am_ad b Hb.size) (am_fn dv u q))) := h.2.2.2.2 j z _ hS
/-- n places of f from sp on, laid from dp on -/
def am_cpy (f : Nat → Value) (sp dp n : Nat) (u : List (Nat × Value)) : List (Nat × Value) := (List.range n).map (fun q => (dp + q, f (sp + q))) ++ u
theorem am_find_app {α : Type} (k : Nat) : ∀ (a b : List (Nat × α)), am_find k (a ++ b) = match am_find k a with | some v => some v | none => am_find k b
  | [], b => rfl
  | q :: a, b => by
    rw [List.cons_append, am_find_cons, am_find_cons]
    by_cases h : q.1 = k
    · rw [if_pos h, if_pos h]
    · rw [if_neg h, if_neg h]
      exact am_find_app k a b
theorem am_find_rng (f : Nat → Value) (k : Nat) : ∀ (l : List Nat) (sp dp : Nat), l.Nodup → am_find k (l.map (fun q => (dp + q, f (sp + q)))) = if dp ≤ k ∧ (k - dp) ∈ l then some (f (sp + (k - dp))) else none
  | [], sp, dp, _ => by
    rw [if_neg (fun h => by cases h.2)]
    rfl
  | q :: l, sp, dp, hn => by
    have hn := List.nodup_cons.mp hn
    rw [List.map_cons, am_find_cons, am_find_rng f k l sp dp hn.2]
    show (if dp + q = k then some (f (sp + q)) else _) = _
    by_cases h : dp + q = k
    · have e : k - dp = q := by omega
      rw [if_pos h, if_pos ⟨by omega, by rw [e]; exact List.mem_cons_self⟩, e]
    · rw [if_neg h]
      by_cases h2 : dp ≤ k ∧ (k - dp) ∈ l
      · rw [if_pos h2, if_pos ⟨h2.1, List.mem_cons_of_mem _ h2.2⟩]
      · rw [if_neg h2, if_neg (fun h3 => by
          rcases List.mem_cons.mp h3.2 with q1 | q1
          · omega
          · exact h2 ⟨h3.1, q1⟩)]
theorem am_cpy_fn (f : Nat → Value) (sp dp n : Nat) (dg : Value) (ug : List (Nat × Value)) : am_fn dg (am_cpy f sp dp n ug) = va_cpy f (am_fn dg ug) sp dp n := by
  funext k
  unfold am_cpy va_cpy
  show (match am_find k ((List.range n).map (fun q => (dp + q, f (sp + q))) ++ ug) with | some v => v | none => dg) = _
  rw [am_find_app, am_find_rng f k _ sp dp List.nodup_range]
  by_cases h : dp ≤ k ∧ k < dp + n
  · rw [if_pos ⟨h.1, List.mem_range.mpr (by omega)⟩, if_pos h]
  · rw [if_neg (fun q => h ⟨q.1, by have := List.mem_range.mp q.2; omega⟩), if_neg h]
    rfl
section AMA
variable {p : Program} {l0 : Launch} {e : Env} {R : Room} {s : State} {m : MethodId} {args : Array Value} {below : List Frame} {meth : Method} {c : Code} {H : Heap} {locs : List Loc} {cells slots : Nat} {Q : State → Prop}
variable {cc : ByteArray} {pc : Nat} {ls : Array Slot} {rest : List Value} {D : va_G} {cl : List vw_C} {tyL : List (List FieldType)} {b : Nat} {Hb : Heap} {S : am_S} {own : String} {Ts : List Cond}

theorem am_iast_ok (hx : p.tables.exec = Jvm.exec) (hb : c.code = cc) (hR : am_R D cl b Hb S s H) (hL : ∀ q ∈ locs, Hb.size ≤ q.base) {a : Nat} {i : Int32} {x : Int32} {S' : am_S} (h : am_seta S a i .int (.int x) = some S') (hd : decode cc pc = .ok (.iastore, 1)) (kk : ∀ (H1 : Heap) (locs1 : List Loc), am_R D cl b Hb S' s H1 → (∀ q ∈ locs1, Hb.size ≤ q.base) → W p l0 e R s m args below meth c H1 locs1 cells slots Q (F0 m (pc + 1) ls rest)) : W p l0 e R s m args below meth c H locs cells slots Q (F0 m pc ls (.int x :: .int i :: .ref (am_ad b Hb.size a) :: rest)) := by
  obtain ⟨j, z, n, dv, u, rfl, hS, hc, rfl⟩ := am_seta_of h
  obtain ⟨cA, hA, hcell⟩ := hR.made hS
  exact W.iast hx hb hcell (hA.1 n _) (fun q => by cases q) (am_arr_fits hc (arrV_size _ _ _)) rfl rfl hd fun H1 e1 z1 o1 => kk H1 _ (am_arr_put hR hS hA e1 z1 o1) (am_locs_put hL)
theorem am_last_ok (hx : p.tables.exec = Jvm.exec) (hb : c.code = cc) (hR : am_R D cl b Hb S s H) (hL : ∀ q ∈ locs, Hb.size ≤ q.base) {a : Nat} {i : Int32} {x : Int64} {S' : am_S} (h : am_seta S a i .long (.long x) = some S') (hd : decode cc pc = .ok (.lastore, 1)) (kk : ∀ (H1 : Heap) (locs1 : List Loc), am_R D cl b Hb S' s H1 → (∀ q ∈ locs1, Hb.size ≤ q.base) → W p l0 e R s m args below meth c H1 locs1 cells slots Q (F0 m (pc + 1) ls rest)) : W p l0 e R s m args below meth c H locs cells slots Q (F0 m pc ls (.long x :: .int i :: .ref (am_ad b Hb.size a) :: rest)) := by
  obtain ⟨j, z, n, dv, u, rfl, hS, hc, rfl⟩ := am_seta_of h
  obtain ⟨cA, hA, hcell⟩ := hR.made hS
  exact W.last hx hb hcell (hA.1 n _) (fun q => by cases q) (am_arr_fits hc (arrV_size _ _ _)) rfl rfl hd fun H1 e1 z1 o1 => kk H1 _ (am_arr_put hR hS hA e1 z1 o1) (am_locs_put hL)
theorem am_bast_ok (hx : p.tables.exec = Jvm.exec) (hb : c.code = cc) (hR : am_R D cl b Hb S s H) (hL : ∀ q ∈ locs, Hb.size ≤ q.base) {a : Nat} {i : Int32} {x : Int32} {S' : am_S} (h : am_seta S a i .byte (narrow .byte (.int x)) = some S') (hd : decode cc pc = .ok (.bastore, 1)) (kk : ∀ (H1 : Heap) (locs1 : List Loc), am_R D cl b Hb S' s H1 → (∀ q ∈ locs1, Hb.size ≤ q.base) → W p l0 e R s m args below meth c H1 locs1 cells slots Q (F0 m (pc + 1) ls rest)) : W p l0 e R s m args below meth c H locs cells slots Q (F0 m pc ls (.int x :: .int i :: .ref (am_ad b Hb.size a) :: rest)) := by
  obtain ⟨j, z, n, dv, u, rfl, hS, hc, rfl⟩ := am_seta_of h
  obtain ⟨cA, hA, hcell⟩ := hR.made hS
  exact W.bast hx hb hcell (hA.1 n _) (fun q => by cases q) (am_arr_fits hc (arrV_size _ _ _)) rfl rfl hd fun H1 e1 z1 o1 => kk H1 _ (am_arr_put hR hS hA e1 z1 o1) (am_locs_put hL)
theorem am_zast_ok (hx : p.tables.exec = Jvm.exec) (hb : c.code = cc) (hR : am_R D cl b Hb S s H) (hL : ∀ q ∈ locs, Hb.size ≤ q.base) {a : Nat} {i : Int32} {x : Int32} {S' : am_S} (h : am_seta S a i .boolean (narrow .boolean (.int x)) = some S') (hd : decode cc pc = .ok (.bastore, 1)) (kk : ∀ (H1 : Heap) (locs1 : List Loc), am_R D cl b Hb S' s H1 → (∀ q ∈ locs1, Hb.size ≤ q.base) → W p l0 e R s m args below meth c H1 locs1 cells slots Q (F0 m (pc + 1) ls rest)) : W p l0 e R s m args below meth c H locs cells slots Q (F0 m pc ls (.int x :: .int i :: .ref (am_ad b Hb.size a) :: rest)) := by
  obtain ⟨j, z, n, dv, u, rfl, hS, hc, rfl⟩ := am_seta_of h
  obtain ⟨cA, hA, hcell⟩ := hR.made hS
  exact W.zast hx hb hcell (hA.1 n _) (fun q => by cases q) (am_arr_fits hc (arrV_size _ _ _)) rfl rfl hd fun H1 e1 z1 o1 => kk H1 _ (am_arr_put hR hS hA e1 z1 o1) (am_locs_put hL)
/-- a reference to an object of the array's class is laid -/
theorem am_aast_ok (hx : p.tables.exec = Jvm.exec) (hb : c.code = cc) (hK : va_K D cl [] s) (hR : am_R D cl b Hb S s H) (hL : ∀ q ∈ locs, Hb.size ≤ q.base) {a v zv ci : Nat} {vs : List Value} {r : vw_C} {i : Int32} {S' : am_S} (hv : am_nth S v = some (zv, some (.inr (ci, vs)))) (hc : cl[ci]? = some r) (h : am_seta S a i (.object r.1) (.ref v) = some S') (hd : decode cc pc = .ok (.aastore, 1)) (kk : ∀ (H1 : Heap) (locs1 : List Loc), am_R D cl b Hb S' s H1 → (∀ q ∈ locs1, Hb.size ≤ q.base) → W p l0 e R s m args below meth c H1 locs1 cells slots Q (F0 m (pc + 1) ls rest)) : W p l0 e R s m args below meth c H locs cells slots Q (F0 m pc ls (.ref (am_ad b Hb.size v) :: .int i :: .ref (am_ad b Hb.size a) :: rest)) := by
  obtain ⟨j, z, n, dv, u, rfl, hS, hin, rfl⟩ := am_seta_of h
  obtain ⟨cA, hA, hcell⟩ := hR.made hS
  obtain ⟨jv, r', rfl, hv2, h1, h2, cellV, g1, g2, g3, -⟩ := hR.obj hv
  have hr : r' = r := Option.some.inj (h1.symm.trans hc)
  subst hr
  have hcls := (hK.1 ci r' hc).2
  obtain ⟨kA, comp, k1, k2, k3, -⟩ := hA.2
  have hcomp : comp = D.1 ci := Option.some.inj (k3.symm.trans hcls.1)
  subst hcomp
  obtain ⟨kC, hkC, -⟩ := hcls.2
  have hlt : i.toNatClampNeg < n := Nat.not_le.mp fun q => hin (Or.inr q)
  refine W.aast hx hb hcell (fun q h => by cases h) (fun h => by cases h) k1 k2 rfl hkC ⟨fun q => hin (Or.inl q), by show _ < (arrV _ _ _).slots.size; rw [arrV_size]; exact hlt⟩ g1 (fun q h => by rw [g3] at h; cases h) (by rw [g2]; exact hkC) (by rw [g2]; exact va_assign hcls) rfl rfl hd fun H1 e1 z1 o1 => ?_
  exact kk H1 _ (am_arr_put (v := .ref (jv + 1)) hR hS hA e1 z1 o1) (am_locs_put hL)
set_option maxHeartbeats 2000000 in
/-- System.arraycopy between two int arrays that were made (or one) -/
theorem am_copy_ok (hx : p.tables.exec = Jvm.exec) (hb : c.code = cc) (hts : ∀ w ∈ Ts, w.before args s = true) (hml : c.maxLocals = ls.size) (hown : s.vm.findClass own = some m.cls) {i : Nat} (hlink : Cond.methodLink own i arraycopyName ∈ Ts) (hnat : Cond.native arraycopyName ∈ Ts) (hstat : Cond.static arraycopyName ∈ Ts) (hini : Cond.initialized "java/lang/System" ∈ Ts) (hR : am_R D cl b Hb S s H) (hL : ∀ q ∈ locs, Hb.size ≤ q.base) {j0 j1 z0 z1 n0 n1 : Nat} {df dg : Value} {uf ug : List (Nat × Value)} (h0 : am_nth S (j0 + 1) = some (z0, some (.inl (.int, n0, df, uf)))) (h1 : am_nth S (j1 + 1) = some (z1, some (.inl (.int, n1, dg, ug)))) {sp dp n : Int32} (hsp : ¬ sp < 0) (hdp : ¬ dp < 0) (hn : ¬ n < 0) (hs : sp.toNatClampNeg + n.toNatClampNeg ≤ n0) (hd1 : dp.toNatClampNeg + n.toNatClampNeg ≤ n1) (hf : ∀ q, q < n.toNatClampNeg → ∃ x : Int32, am_fn df uf (sp.toNatClampNeg + q) = .int x) (hframes : 1 ≤ R.frames) (hlocals : (rest.map fun v => v.category).sum + (nativeFrameWords "java/lang/System" "arraycopy" 5 + 11) ≤ R.locals) (hdg : decode cc pc = .ok (.invokestatic i, 3))
    (kk : ∀ (H1 : Heap) (locs1 : List Loc), am_R D cl b Hb (am_set S (j1 + 1) (z1, some (.inl (.int, n1, dg, am_cpy (am_fn df uf) sp.toNatClampNeg dp.toNatClampNeg n.toNatClampNeg ug)))) s H1 → (∀ q ∈ locs1, Hb.size ≤ q.base) → W p l0 e R s m args below meth c H1 locs1 cells slots Q (F0 m (pc + 3) ls rest)) : W p l0 e R s m args below meth c H locs cells slots Q (F0 m pc ls (.int n :: .int dp :: .ref (Hb.size + j1) :: .int sp :: .ref (Hb.size + j0) :: rest)) := by
  have nn : ∀ z : Int32, ¬ z < 0 → z.toInt = (z.toNatClampNeg : Int) := by
    intro z hz
    have hz0 : (0 : Int) ≤ z.toInt := by
      have := Int32.not_lt.mp hz
      simpa using Int32.le_iff_toInt_le.mp this
    show z.toInt = ((z.toInt.toNat : Nat) : Int)
    omega
  obtain ⟨c0, hA0, hc0⟩ := hR.made h0
  obtain ⟨c1, hA1, hc1⟩ := hR.made h1
  intro T hT X
  obtain ⟨-, k0, hk0, cm0, hkk0⟩ := hA0.1 n0 (fun q => am_cv (am_ad b Hb.size) (am_fn df uf q))
  obtain ⟨-, k1, hk1, cm1, hkk1⟩ := hA1.1 n1 (fun q => am_cv (am_ad b Hb.size) (am_fn dg ug q))
  obtain ⟨vm', X', step⟩ := X.arraycopy hx hown (hts _ hlink) (hts _ hnat) (hts _ hstat) (hts _ hini) (src := Hb.size + j0) (dst := Hb.size + j1) (cs := arrV c0 n0 (fun q => am_cv (am_ad b Hb.size) (am_fn df uf q))) (cd := arrV c1 n1 (fun q => am_cv (am_ad b Hb.size) (am_fn dg ug q))) (srcPos := sp) (destPos := dp) (n := n) (by rw [hT]; exact hc0) (by rw [hT]; exact hc1)
    (fun _ h => by cases h) (fun _ h => by cases h) (fun h => by cases h) (fun h => by cases h) hk0 hk1 hkk0 hkk1 (by decide) hsp hdp hn
    (by rw [nn sp hsp, nn n hn, arrV_size]; omega)
    (by rw [nn dp hdp, nn n hn, arrV_size]; omega)
    (fun vm₁ _ q hq => by
      obtain ⟨x, hx9⟩ := hf q hq
      have e : (arrV c0 n0 (fun q => am_cv (am_ad b Hb.size) (am_fn df uf q))).slots.getD (sp.toNatClampNeg + q) .null = .int x := by
        rw [Array.getD_eq_getD_getElem?, arrV_read _ _ (by omega), hx9]
        rfl
      refine ⟨?_, ?_⟩
      · rw [e]
        rfl
      · rw [e]
        exact trivial)
    (g := F0 m pc ls (.int n :: .int dp :: .ref (Hb.size + j1) :: .int sp :: .ref (Hb.size + j0) :: rest)) rfl (by rw [hml]) (rest := rest) rfl (by rw [hb]; exact hdg) hframes (by show 2 * 0 + _ + _ ≤ _; omega)
  have e1 : copied (arrV c0 n0 (fun q => am_cv (am_ad b Hb.size) (am_fn df uf q))) (arrV c1 n1 (fun q => am_cv (am_ad b Hb.size) (am_fn dg ug q))) sp dp n = arrV c1 n1 (fun q => am_cv (am_ad b Hb.size) (va_cpy (am_fn df uf) (am_fn dg ug) sp.toNatClampNeg dp.toNatClampNeg n.toNatClampNeg q)) := va_copied (fun z => am_cv (am_ad b Hb.size) z) c0 c1 (am_fn df uf) (am_fn dg ug) hs
  rw [e1] at X' step
  have hl : Hb.size + j1 < H.size := (Array.getElem?_eq_some_iff.mp hc1).1
  generalize hnew : arrV c1 n1 (fun q => am_cv (am_ad b Hb.size) (va_cpy (am_fn df uf) (am_fn dg ug) sp.toNatClampNeg dp.toNatClampNeg n.toNatClampNeg q)) = new at X' step
  have hheap : ((T.setVm vm').setCell (Hb.size + j1) new).heap = H.setIfInBounds (Hb.size + j1) new := by rw [← hT]; rfl
  have oq : ∀ q : Nat, q ≠ Hb.size + j1 → (H.setIfInBounds (Hb.size + j1) new)[q]? = H[q]? := fun q hq => by simp [Array.getElem?_setIfInBounds, Ne.symm hq]
  obtain ⟨t, a1, b1⟩ := kk _ _ (hR.put h1 (x := .inl (.int, n1, dg, am_cpy (am_fn df uf) sp.toNatClampNeg dp.toNatClampNeg n.toNatClampNeg ug)) ⟨c1, hA1, show (H.setIfInBounds (Hb.size + j1) new)[Hb.size + j1]? = some _ by rw [am_cpy_fn, hnew]; simp [Array.getElem?_setIfInBounds, hl]⟩ (by simp) oq) (fun q hq => by
      rcases List.mem_append.mp hq with h | h
      · exact hL q h
      · obtain ⟨z, -, hz⟩ := List.mem_map.mp h
        rw [← hz]
        exact Nat.le_add_right _ _) _ hheap X'
  exact ⟨t, step t a1, b1⟩
end AMA
end
section
/-! all steps on the store, in one -/
def am_heap (cl : List vw_C) (tyL : List (List FieldType)) (T : am_T) (ins : Instr) (len pc : Nat) (st : List Value) (S : am_S) : Option (Nat × List Value × am_S × Nat × Nat) := match ins, len, st with
  | .getfield i, 3, .ref a :: st => match am_find i T.1 with
    | some (ci, k) => (am_getf S a ci k).map fun v => (pc + 3, v :: st, S, 0, 0)
    | none => none
  | .putfield i, 3, v :: .ref a :: st => match am_find i T.2.1 with
    | some (ci, k) => (match am_nth S a with
      | some (z, some (.inr (cj, fs))) => (match tyL[ci]? with
        | some tys => if cj = ci ∧ am_okv (tys.getD k .int) v = true then some (pc + 3, st, am_set S a (z, some (.inr (cj, fs.set k v))), 0, 0) else none
        | none => none)
      | _ => none)
    | none => none
  | .new i, 3, st => match am_find i T.2.2.1 with
    | some ci => (tyL[ci]?).map fun tys => (pc + 3, .ref (am_len S) :: st, am_add S (tys.length, some (.inr (ci, tys.map defaultValue))), 1, tys.length)
    | none => none
  | .newarray t, 2, .int n :: st => if n < 0 ∨ 536870912 < n.toNatClampNeg * componentBytes (newarray.typeOf t) then none else if t = .int ∨ t = .long ∨ t = .byte ∨ t = .boolean then some (pc + 2, .ref (am_len S) :: st, am_add S (n.toNatClampNeg, some (.inl (newarray.typeOf t, n.toNatClampNeg, defaultValue (newarray.typeOf t), []))), 1, n.toNatClampNeg) else none
  | .anewarray i, 3, .int n :: st => match am_find i T.2.2.2.1 with
    | some C => if n < 0 ∨ 536870912 < n.toNatClampNeg * 4 then none else some (pc + 3, .ref (am_len S) :: st, am_add S (n.toNatClampNeg, some (.inl (.object C, n.toNatClampNeg, .null, []))), 1, n.toNatClampNeg)
    | none => none
  | .iaload, 1, .int i :: .ref a :: st => (am_geta S a i .int).map fun v => (pc + 1, v :: st, S, 0, 0)
  | .laload, 1, .int i :: .ref a :: st => (am_geta S a i .long).map fun v => (pc + 1, v :: st, S, 0, 0)
  | .baload, 1, .int i :: .ref a :: st => match am_geta S a i .byte with
    | some v => some (pc + 1, v :: st, S, 0, 0)
    | none => (am_geta S a i .boolean).map fun v => (pc + 1, v :: st, S, 0, 0)
  | .aaload, 1, .int i :: .ref a :: st => match am_nth S a with
    | some (_, some (.inl (.object C, _, _, _))) => (am_geta S a i (.object C)).map fun v => (pc + 1, v :: st, S, 0, 0)
    | _ => none
  | .arraylength, 1, .ref a :: st => match am_nth S a with
    | some (_, some (.inl (_, n, _, _))) => some (pc + 1, .int (Int32.ofNat n) :: st, S, 0, 0)
    | _ => none
  | .iastore, 1, .int x :: .int i :: .ref a :: st => (am_seta S a i .int (.int x)).map fun S' => (pc + 1, st, S', 0, 0)
  | .lastore, 1, .long x :: .int i :: .ref a :: st => (am_seta S a i .long (.long x)).map fun S' => (pc + 1, st, S', 0, 0)
  | .bastore, 1, .int x :: .int i :: .ref a :: st => match am_seta S a i .byte (narrow .byte (.int x)) with
    | some S' => some (pc + 1, st, S', 0, 0)
    | none => (am_seta S a i .boolean (narrow .boolean (.int x))).map fun S' => (pc + 1, st, S', 0, 0)
  | .aastore, 1, .ref v :: .int i :: .ref a :: st => match am_nth S v with
    | some (_, some (.inr (ci, _))) => (match cl[ci]? with
      | some r => (am_seta S a i (.object r.1) (.ref v)).map fun S' => (pc + 1, st, S', 0, 0)
      | none => none)
    | _ => none
  | .ldc i, 2, st => match am_find i T.2.2.2.2.1 with
    | some (.int x) => some (pc + 2, .int x :: st, S, 0, 0)
    | _ => none
  | .ldc2_w i, 3, st => match am_find i T.2.2.2.2.1 with
    | some (.long x) => some (pc + 3, .long x :: st, S, 0, 0)
    | _ => none
  | _, _, _ => none
/-- a number of the class file -/
def am_cst (own : String) (i : Nat) (v : Value) : Cond := match v with
  | .int x => .constant own i x
  | .long x => .constantLong own i x
  | _ => .constant own i 0
/-- what the tables say of a method's entries (but its calls) -/
def am_Tok (Ts : List Cond) (cl : List vw_C) (AO : List String) (own name : String) (T : am_T) : Prop :=
  (∀ q ∈ T.1, ∃ r : vw_C, cl[q.2.1]? = some r ∧ q.2.2 < r.2.2 ∧ Cond.fieldLink own q.1 (r.2.1 q.2.2).1 (r.2.1 q.2.2).2.1 (r.2.1 q.2.2).2.2.1 ∈ Ts) ∧
  (∀ q ∈ T.2.1, ∃ r : vw_C, cl[q.2.1]? = some r ∧ q.2.2 < r.2.2 ∧ Cond.fieldLink own q.1 (r.2.1 q.2.2).1 (r.2.1 q.2.2).2.1 (r.2.1 q.2.2).2.2.1 ∈ Ts ∧ ((r.2.1 q.2.2).2.2.2 = false ∨ (name = "<init>" ∧ (r.2.1 q.2.2).1 = own))) ∧
  (∀ q ∈ T.2.2.1, ∃ r : vw_C, cl[q.2]? = some r ∧ Cond.classLink own q.1 r.1 ∈ Ts) ∧
  (∀ q ∈ T.2.2.2.1, Cond.classLink own q.1 q.2 ∈ Ts ∧ q.2 ∈ AO) ∧
  (∀ q ∈ T.2.2.2.2.1, am_cst own q.1 q.2 ∈ Ts)
section AMG
variable {p : Program} {l0 : Launch} {e : Env} {R : Room} {s : State} {m : MethodId} {args : Array Value} {below : List Frame} {meth : Method} {c : Code} {H : Heap} {locs : List Loc} {cells slots : Nat} {Q : State → Prop}
variable {cc : ByteArray} {pc : Nat} {ls : Array Slot} {D : va_G} {cl : List vw_C} {tyL : List (List FieldType)} {b : Nat} {Hb : Heap} {S : am_S} {own name : String} {Ts : List Cond} {AO : List String} {T : am_T}
set_option maxHeartbeats 4000000 in
set_option maxRecDepth 100000 in
theorem am_heap_ok (hx : p.tables.exec = Jvm.exec) (hb : c.code = cc) (hts : ∀ w ∈ Ts, w.before args s = true) (hC : am_Cls Ts cl tyL) (hown : s.vm.findClass own = some m.cls) (hnm : meth.name = name) (hT : am_Tok Ts cl AO own name T) (hAr : ∀ t : ArrayType, (t = .int ∨ t = .long ∨ t = .byte ∨ t = .boolean) → Cond.arrayClass (newarray.typeOf t) ∈ Ts) (hO : ∀ C ∈ AO, va_AO C s) (hK : va_K D cl [] s) (hR : am_R D cl b Hb S s H) (hL : ∀ q ∈ locs, Hb.size ≤ q.base) {ins : Instr} {len pc' dc ds : Nat} {st st' : List Value} {S' : am_S} (hd : decode cc pc = .ok (ins, len)) (h : am_heap cl tyL T ins len pc st S = some (pc', st', S', dc, ds)) (hcs : cells + dc ≤ R.cells) (hss : slots + ds ≤ R.slots)
    (kk : ∀ (H1 : Heap) (locs1 : List Loc), am_R D cl b Hb S' s H1 → (∀ q ∈ locs1, Hb.size ≤ q.base) → W p l0 e R s m args below meth c H1 locs1 (cells + dc) (slots + ds) Q (F0 m pc' ls (st'.map (am_cv (am_ad b Hb.size))))) : W p l0 e R s m args below meth c H locs cells slots Q (F0 m pc ls (st.map (am_cv (am_ad b Hb.size)))) := by
  unfold am_heap at h
  split at h
  · split at h
    · rename_i ci k hi
      obtain ⟨v, hv, e9⟩ := Option.map_eq_some_iff.mp h; cases e9
      obtain ⟨r, h1, h2, h3⟩ := hT.1 _ (am_find_mem hi)
      exact am_get_ok hx hb hts hC hown hK hR h1 h2 h3 hv hd (kk _ _ hR hL)
    · cases h
  · split at h
    · rename_i ci k hi
      split at h
      · rename_i z cj fs hS
        split at h
        · rename_i tys hty
          split at h
          · rename_i hc
            obtain ⟨rfl, hok⟩ := hc
            cases h
            obtain ⟨r, h1, h2, h3, h4⟩ := hT.2.1 _ (am_find_mem hi)
            exact am_put_ok hx hb hts hC hown hK hR hL h1 h2 hty h3 (h4.imp id (fun q => ⟨hnm.trans q.1, q.2⟩)) hok hS hd kk
          · cases h
        · cases h
      · cases h
    · cases h
  · split at h
    · rename_i ci hi
      obtain ⟨tys, hty, e9⟩ := Option.map_eq_some_iff.mp h; cases e9
      obtain ⟨r, h1, h2⟩ := hT.2.2.1 _ (am_find_mem hi)
      exact am_new_ok hx hb hts hC hown hK hR h1 hty h2 hcs hss hd (fun H1 q => kk _ _ q hL)
    · cases h
  · split at h
    · cases h
    · rename_i hc
      split at h
      · rename_i ht
        cases h
        exact am_newa_ok hx hb hts hR (hAr _ ht) (fun q => hc (Or.inl q)) (Nat.not_lt.mp fun q => hc (Or.inr q)) hcs hss hd (fun H1 q => kk _ _ q hL)
      · cases h
  · split at h
    · rename_i C hi
      split at h
      · cases h
      · rename_i hc
        cases h
        obtain ⟨h1, h2⟩ := hT.2.2.2.1 _ (am_find_mem hi)
        exact am_newq_ok hx hb hts hown hR h1 (hO _ h2) (fun q => hc (Or.inl q)) (Nat.not_lt.mp fun q => hc (Or.inr q)) hcs hss hd (fun H1 q => kk _ _ q hL)
    · cases h
  · obtain ⟨v, hv, e9⟩ := Option.map_eq_some_iff.mp h; cases e9
    exact am_iald_ok hx hb hR hv hd (kk _ _ hR hL)
  · obtain ⟨v, hv, e9⟩ := Option.map_eq_some_iff.mp h; cases e9
    exact am_lald_ok hx hb hR hv hd (kk _ _ hR hL)
  · split at h
    · rename_i v hv
      cases h
      exact am_bald_ok hx hb hR hv hd (kk _ _ hR hL)
    · obtain ⟨v, hv, e9⟩ := Option.map_eq_some_iff.mp h; cases e9
      exact am_zald_ok hx hb hR hv hd (kk _ _ hR hL)
  · split at h
    · obtain ⟨v, hv, e9⟩ := Option.map_eq_some_iff.mp h; cases e9
      exact am_aald_ok hx hb hR hv hd (kk _ _ hR hL)
    · cases h
  · split at h
    · rename_i hS
      cases h
      exact am_alen_ok hx hb hR hS hd (kk _ _ hR hL)
    · cases h
  · obtain ⟨v, hv, e9⟩ := Option.map_eq_some_iff.mp h; cases e9
    exact am_iast_ok hx hb hR hL hv hd kk
  · obtain ⟨v, hv, e9⟩ := Option.map_eq_some_iff.mp h; cases e9
    exact am_last_ok hx hb hR hL hv hd kk
  · split at h
    · rename_i v hv
      cases h
      exact am_bast_ok hx hb hR hL hv hd kk
    · obtain ⟨v, hv, e9⟩ := Option.map_eq_some_iff.mp h; cases e9
      exact am_zast_ok hx hb hR hL hv hd kk
  · split at h
    · rename_i hS
      split at h
      · rename_i r hr
        obtain ⟨v, hv, e9⟩ := Option.map_eq_some_iff.mp h; cases e9
        exact am_aast_ok hx hb hK hR hL hS hr hv hd kk
      · cases h
    · cases h
  · split at h
    · rename_i x hi
      cases h
      exact lv_ldc hx hb hown (hts _ (hT.2.2.2.2 _ (am_find_mem hi))) hd (kk _ _ hR hL)
    · cases h
  · split at h
    · rename_i x hi
      cases h
      exact lv_ldc2 hx hb hown (hts _ (hT.2.2.2.2 _ (am_find_mem hi))) hd (kk _ _ hR hL)
    · cases h
  · cases h
end AMG
end
section
/-! runs of the small machine: calls, answers -/
def am_ret (ret : Option FieldType) (ins : Instr) (len : Nat) (st : List Value) : Option (Option Value) := match ins, len, st with
  | .ireturn, 1, [.int x] => (match ret with
    | some .int => some (some (.int x))
    | some .boolean => if x = 0 ∨ x = 1 then some (some (.int x)) else none
    | _ => none)
  | .lreturn, 1, [.long x] => (match ret with
    | some .long => some (some (.long x))
    | _ => none)
  | .areturn, 1, [.ref a] => (match ret with
    | some (.object _) => some (some (.ref a))
    | _ => none)
  | .return_, 1, [] => (match ret with
    | none => some none
    | _ => none)
  | _, _, _ => none
/-- how many words a stack takes -/
def am_words (st : List Value) : Nat := (st.map fun v => v.category).sum
/-- the JDK's own methods that are called: 0 Object(), 1 max, 2 min, 3 arraycopy -/
def am_lib (j : Nat) (ins : Instr) (st : List Value) (S : am_S) : Option (List Value × am_S) := match j, ins, st with
  | 0, .invokespecial _, .ref _ :: st => if am_words st ≤ 8 then some (st, S) else none
  | 1, .invokestatic _, .int y :: .int x :: st => if am_words st ≤ 8 then some (.int (if x < y then y else x) :: st, S) else none
  | 2, .invokestatic _, .int y :: .int x :: st => if am_words st ≤ 8 then some (.int (if y < x then y else x) :: st, S) else none
  | 3, .invokestatic _, .int n :: .int dp :: .ref (j1 + 1) :: .int sp :: .ref (j0 + 1) :: st => (match am_nth S (j0 + 1), am_nth S (j1 + 1) with
    | some (_, some (.inl (.int, n0, df, uf))), some (z1, some (.inl (.int, n1, dg, ug))) => if am_words st ≤ 8 ∧ ¬ sp < 0 ∧ ¬ dp < 0 ∧ ¬ n < 0 ∧ sp.toNatClampNeg + n.toNatClampNeg ≤ n0 ∧ dp.toNatClampNeg + n.toNatClampNeg ≤ n1 ∧ (List.range n.toNatClampNeg).all (fun q => match am_fn df uf (sp.toNatClampNeg + q) with | .int _ => true | _ => false) = true then some (st, am_set S (j1 + 1) (z1, some (.inl (.int, n1, dg, am_cpy (am_fn df uf) sp.toNatClampNeg dp.toNatClampNeg n.toNatClampNeg ug)))) else none
    | _, _ => none)
  | _, _, _ => none
/-- a call of one of the methods in P: which, its arguments, the stack below -/
def am_own (P : List am_M) (j : Nat) (ins : Instr) (st : List Value) (S : am_S) : Option (am_M × List Value × List Value) := match P[j]? with
  | none => none
  | some M => if st.length < M.2.2.2.2.2.2.1 then none else (match ins, st.drop M.2.2.2.2.2.2.1 with
    | .invokestatic _, rest => if M.2.2.2.2.2.2.2 = 1000 ∧ am_words rest ≤ 8 ∧ am_words (st.take M.2.2.2.2.2.2.1).reverse ≤ M.2.2.1 then some (M, (st.take M.2.2.2.2.2.2.1).reverse, rest) else none
    | .invokespecial _, .ref b :: rest => if M.2.2.2.2.2.2.2 = 2000 ∧ am_words rest ≤ 8 ∧ am_words (st.take M.2.2.2.2.2.2.1).reverse + 1 ≤ M.2.2.1 then some (M, .ref b :: (st.take M.2.2.2.2.2.2.1).reverse, rest) else none
    | .invokevirtual _, .ref b :: rest => (match am_nth S b with
      | some (_, some (.inr (ci, _))) => if ci = M.2.2.2.2.2.2.2 ∧ am_words rest ≤ 8 ∧ am_words (st.take M.2.2.2.2.2.2.1).reverse + 1 ≤ M.2.2.1 then some (M, .ref b :: (st.take M.2.2.2.2.2.2.1).reverse, rest) else none
      | _ => none)
    | _, _ => none)
def am_cix (ins : Instr) (len : Nat) : Option Nat := match ins, len with
  | .invokestatic i, 3 => some i
  | .invokespecial i, 3 => some i
  | .invokevirtual i, 3 => some i
  | _, _ => none
/-- a run: fuel, depth, method, place, locals, stack, store: the answer, the store, how many cells and slots are new -/
def am_run (P : List am_M) (cl : List vw_C) (tyL : List (List FieldType)) : Nat → Nat → am_M → Nat → am_L → List Value → am_S → Option (Option Value × am_S × Nat × Nat)
  | 0, _, _, _, _, _, _ => none
  | f + 1, d, M, pc, l, st, S => match am_find pc M.2.2.2.2.2.1 with
    | none => none
    | some (ins, len) => match am_pure M.2.2.1 ins len pc l st with
      | some (pc', l', st') => am_run P cl tyL f d M pc' l' st' S
      | none => match am_heap cl tyL M.2.2.2.2.1 ins len pc st S with
        | some (pc', st', S', dc, ds) => (am_run P cl tyL f d M pc' l st' S').map fun q => (q.1, q.2.1, dc + q.2.2.1, ds + q.2.2.2)
        | none => match am_ret M.2.2.2.1 ins len st with
          | some r => some (r, S, 0, 0)
          | none => match d with
            | 0 => none
            | d' + 1 => match am_cix ins len with
              | none => none
              | some i => match am_find i M.2.2.2.2.1.2.2.2.2.2 with
                | none => none
                | some j => if j < 4 then (match am_lib j ins st S with
                    | some (st', S') => am_run P cl tyL f (d' + 1) M (pc + 3) l st' S'
                    | none => none)
                  else match am_own P (j - 4) ins st S with
                    | none => none
                    | some (M', as, rest) => match am_run P cl tyL f d' M' 0 (lv_args 0 as) [] S with
                      | none => none
                      | some (r, S1, c1, n1) => (am_run P cl tyL f (d' + 1) M (pc + 3) l (r.toList ++ rest) S1).map fun q => (q.1, q.2.1, c1 + q.2.2.1, n1 + q.2.2.2)
theorem am_words_cv (ad : Nat → Nat) (st : List Value) : ((st.map (am_cv ad)).map fun v => v.category).sum = am_words st := by
  unfold am_words
  rw [List.map_map]
  congr 1
  apply List.map_congr_left
  intro v _
  exact am_cv_cat ad v
theorem am_args_cv (ad : Nat → Nat) : ∀ (vs : List Value) (i : Nat), lv_args i (vs.map (am_cv ad)) = am_cl ad (lv_args i vs)
  | [], _ => rfl
  | v :: vs, i => by
    show (i, am_cv ad v) :: lv_args (if (am_cv ad v).category = 2 then i + 2 else i + 1) (vs.map (am_cv ad)) = (i, am_cv ad v) :: am_cl ad (lv_args _ vs)
    rw [am_cv_cat, am_args_cv ad vs]
end
section
/-! WHAT A RUN OF THE SMALL MACHINE IS ON THE JVM's MACHINE -/
/-- names of classes whose arrays are made, links of nest mates: what the tables say of them -/
abbrev am_NL : Type := List (String × Nat × MethodName × String)
def am_Kx (D : va_G) (cl : List vw_C) (AO : List String) (NL : am_NL) (s : State) : Prop := va_K D cl [] s ∧ (∀ C ∈ AO, va_AO C s) ∧ ∀ q ∈ NL, va_Nw (.methodLinkNest q.1 q.2.1 q.2.2.1 q.2.2.2) s
theorem am_Kx.warm {D : va_G} {cl : List vw_C} {AO : List String} {NL : am_NL} {s U : State} (hW : s.WarmedH U.vm) (h : am_Kx D cl AO NL s) : am_Kx D cl AO NL U := ⟨va_K.moved hW.alike h.1, fun C hC => va_AO.moved hW.alike (h.2.1 C hC), fun q hq => va_Nw.warmM hW (h.2.2 q hq)⟩
/-- what the tables say of a method's body -/
def am_Body (Ts : List Cond) (P : List am_M) (cl : List vw_C) (AO : List String) (NL : am_NL) (M : am_M) : Prop :=
  am_Tok Ts cl AO M.1.cls M.1.name M.2.2.2.2.1 ∧ (∀ q ∈ M.2.2.2.2.2.1, decode M.2.1 q.1 = .ok (q.2.1, q.2.2)) ∧
  (∀ q ∈ M.2.2.2.2.1.2.2.2.2.2, (q.2 = 0 → Cond.methodLink M.1.cls q.1 Lib.objectInit ∈ Ts) ∧ (q.2 = 1 → Cond.methodLink M.1.cls q.1 Lib.Math.max.name ∈ Ts) ∧ (q.2 = 2 → Cond.methodLink M.1.cls q.1 Lib.Math.min.name ∈ Ts) ∧ (q.2 = 3 → Cond.methodLink M.1.cls q.1 arraycopyName ∈ Ts) ∧
    (∀ M', 4 ≤ q.2 → P[q.2 - 4]? = some M' → Cond.methodLink M.1.cls q.1 M'.1 ∈ Ts ∨ ∃ host, (M.1.cls, q.1, M'.1, host) ∈ NL ∧ M'.2.2.2.2.2.2.2 = 2000))
/-- .. and of it as one that is called -/
def am_Call (Ts : List Cond) (cl : List vw_C) (KL : Nat) (M : am_M) : Prop :=
  plainName M.1.cls = true ∧ Cond.code M.1 M.2.1 M.2.2.1 M.2.2.2.1 ∈ Ts ∧ Cond.initialized M.1.cls ∈ Ts ∧ (M.1.cls ≠ "java/lang/invoke/MethodHandle" ∧ M.1.cls ≠ "java/lang/invoke/VarHandle") ∧
  (parseMethodDescriptor M.1.desc).map (fun d => d.parameters.length) = some M.2.2.2.2.2.2.1 ∧ 19 + M.2.2.1 ≤ KL ∧
  (M.2.2.2.2.2.2.2 = 1000 → Cond.static M.1 ∈ Ts) ∧ (M.2.2.2.2.2.2.2 = 2000 → M.1.name = "<init>" ∧ Cond.instanceMethod M.1 ∈ Ts ∧ M.2.2.2.1 = none) ∧
  (∀ r : vw_C, cl[M.2.2.2.2.2.2.2]? = some r → r.1 = M.1.cls ∧ Cond.instanceMethod M.1 ∈ Ts ∧ Cond.selects M.1.cls M.1 M.1 ∈ Ts)
/-- the tables, whole -/
def am_Fix (Ts : List Cond) (P : List am_M) (cl : List vw_C) (tyL : List (List FieldType)) (AO : List String) (NL : am_NL) (KL : Nat) : Prop :=
  am_Cls Ts cl tyL ∧ (∀ t : ArrayType, (t = .int ∨ t = .long ∨ t = .byte ∨ t = .boolean) → Cond.arrayClass (newarray.typeOf t) ∈ Ts) ∧ (∀ w ∈ Ts, goodWord w = true) ∧
  (Cond.instanceMethod Lib.objectInit ∈ Ts ∧ Cond.code Lib.objectInit ⟨#[0xb1]⟩ 1 none ∈ Ts) ∧
  (Cond.static Lib.Math.max.name ∈ Ts ∧ Cond.initialized "java/lang/Math" ∈ Ts ∧ Cond.code Lib.Math.max.name Lib.Math.max.code 2 (some .int) ∈ Ts) ∧
  (Cond.static Lib.Math.min.name ∈ Ts ∧ Cond.code Lib.Math.min.name Lib.Math.min.code 2 (some .int) ∈ Ts) ∧
  (Cond.native arraycopyName ∈ Ts ∧ Cond.static arraycopyName ∈ Ts ∧ Cond.initialized "java/lang/System" ∈ Ts) ∧ (26 ≤ KL ∧ cl.length ≤ 1000) ∧
  ∀ M ∈ P, am_Body Ts P cl AO NL M ∧ am_Call Ts cl KL M
def am_rm (KL d mc ms : Nat) : Room := { frames := d, cells := mc, slots := ms, locals := d * KL }
def am_Pc (D : va_G) (cl : List vw_C) (b : Nat) (Hb : Heap) (AO : List String) (NL : am_NL) (as : List Value) (S : am_S) : Array Value → State → Prop := fun a U => a = (as.map (am_cv (am_ad b Hb.size))).toArray ∧ am_R D cl b Hb S U U.heap ∧ am_Kx D cl AO NL U
def am_Qc (D : va_G) (cl : List vw_C) (b : Nat) (Hb : Heap) (r : Option Value) (S : am_S) : Array Value → State → Outcome → State → Prop := fun _ _ o t => o = .returned (r.map (am_cv (am_ad b Hb.size))) ∧ am_R D cl b Hb S t t.heap
theorem am_sl_len : ∀ vs : List Value, (lg_sl vs).length = am_words vs
  | [] => rfl
  | v :: vs => by
    have h := am_sl_len vs
    unfold lg_sl am_words at *
    rw [List.flatMap_cons, List.length_append, h, List.map_cons, List.sum_cons]
    congr 1
    by_cases hv : v.category = 2
    · rw [if_pos hv, hv]; rfl
    · rw [if_neg hv]
      rcases lv_cat v with q | q
      · rw [q]; rfl
      · exact absurd q hv
section AMZ
variable {p : Program} {l0 : Launch} {e : Env} {R : Room} {s : State} {m : MethodId} {args : Array Value} {below : List Frame} {meth : Method} {c : Code} {H : Heap} {locs : List Loc} {cells slots : Nat} {Q : State → Prop}
variable {cc : ByteArray} {pc : Nat} {ls : Array Slot} {D : va_G} {cl : List vw_C} {tyL : List (List FieldType)} {b : Nat} {Hb : Heap} {S : am_S} {own : String} {Ts : List Cond} {AO : List String} {NL : am_NL} {KL : Nat} {P : List am_M}
/-- a method's end -/
theorem am_end {ad : Nat → Nat} {Qc : Array Value → State → Outcome → State → Prop} {free : Addr → Prop} {ret : Option FieldType} {ins : Instr} {len : Nat} {st : List Value} {r : Option Value} (hx : p.tables.exec = Jvm.exec) (hb : c.code = cc) (hr : meth.sig.returnType = ret) (hlocks : meth.locks = false) (hd : decode cc pc = .ok (ins, len)) (h : am_ret ret ins len st = some r) (hq : ∀ t : State, t.heap = H → s.WarmedH t.vm → Qc args s (.returned (r.map (am_cv ad))) t) (hf : ∀ q ∈ locs, free q.base) : W p l0 e R s m args below meth c H locs cells slots (MQ below Qc args s cells slots free) (F0 m pc ls (st.map (am_cv ad))) := by
  unfold am_ret at h
  split at h
  · split at h
    · cases h
      exact W.iret hx hb hr hq hf hd
    · split at h
      · rename_i x _ hc
        cases h
        exact W.zret (v := x) hx hb hr (by rcases hc with q | q <;> subst q <;> decide) hq hf hd
      · cases h
    · cases h
  · split at h
    · cases h
      exact W.lret hx hb hr hq hf hd
    · cases h
  · split at h
    · rename_i a _ n
      cases h
      exact W.aret (v := .ref (ad a)) hx hb hr (Or.inl ⟨_, rfl⟩) (Or.inr ⟨_, rfl⟩) hq hf hd
    · cases h
  · split at h
    · cases h
      exact W.vret hx hb hr hq hf hd
    · cases h
  · cases h
set_option maxHeartbeats 1000000 in
/-- a call of the JDK's -/
theorem am_lib_ok (hF : am_Fix Ts P cl tyL AO NL KL) (hx : p.tables.exec = Jvm.exec) (hb : c.code = cc) (hml : c.maxLocals = ls.size) (hts : ∀ w ∈ Ts, w.before args s = true) (hown : s.vm.findClass own = some m.cls) {d : Nat} (hRf : d + 1 ≤ R.frames) (hRl : (d + 1) * KL ≤ R.locals) (hcs : cells ≤ R.cells) (hss : slots ≤ R.slots) (hR : am_R D cl b Hb S s H) (hL : ∀ q ∈ locs, Hb.size ≤ q.base) {i j : Nat} (hl0 : j = 0 → Cond.methodLink own i Lib.objectInit ∈ Ts) (hl1 : j = 1 → Cond.methodLink own i Lib.Math.max.name ∈ Ts) (hl2 : j = 2 → Cond.methodLink own i Lib.Math.min.name ∈ Ts) (hl3 : j = 3 → Cond.methodLink own i arraycopyName ∈ Ts) {ins : Instr} {st st' : List Value} {S' : am_S} (hi : am_cix ins 3 = some i) (hd : decode cc pc = .ok (ins, 3)) (h : am_lib j ins st S = some (st', S'))
    (kk : ∀ (H1 : Heap) (locs1 : List Loc), am_R D cl b Hb S' s H1 → (∀ q ∈ locs1, Hb.size ≤ q.base) → W p l0 e R s m args below meth c H1 locs1 cells slots Q (F0 m (pc + 3) ls (st'.map (am_cv (am_ad b Hb.size))))) : W p l0 e R s m args below meth c H locs cells slots Q (F0 m pc ls (st.map (am_cv (am_ad b Hb.size)))) := by
  obtain ⟨-, -, -, hO, hMx, hMn, hCp, ⟨hKL, -⟩, -⟩ := hF
  have hloc : 26 ≤ R.locals := by
    have : KL ≤ (d + 1) * KL := Nat.le_mul_of_pos_left KL (Nat.succ_pos d)
    omega
  unfold am_lib at h
  split at h
  · split at h
    · rename_i hw
      cases h
      cases hi
      exact W.objInit hx hb hown (hts _ (hl0 rfl)) (hts _ hO.1) (hts _ hO.2) rfl hml.symm rfl hd (by omega) (by show 2 * 0 + _ + 12 ≤ _; rw [am_words_cv]; omega) (kk _ _ hR hL)
    · cases h
  · split at h
    · rename_i hw
      cases h
      cases hi
      exact va_mmax hx hb hml hown (hts _ (hl1 rfl)) (hts _ hMx.1) (hts _ hMx.2.1) (hts _ hMx.2.2) (by omega) (by rw [am_words_cv]; omega) hcs hss hd (kk _ _ hR hL)
    · cases h
  · split at h
    · rename_i hw
      cases h
      cases hi
      exact va_mmin hx hb hml hown (hts _ (hl2 rfl)) (hts _ hMn.1) (hts _ hMx.2.1) (hts _ hMn.2) (by omega) (by rw [am_words_cv]; omega) hcs hss hd (kk _ _ hR hL)
    · cases h
  · split at h
    · rename_i h0 h1
      split at h
      · rename_i hc
        obtain ⟨hw, c1, c2, c3, c4, c5, c6⟩ := hc
        cases h
        cases hi
        have hnf : nativeFrameWords "java/lang/System" "arraycopy" 5 = 7 := by decide +kernel
        have hfr : 1 ≤ R.frames := by omega
        refine am_copy_ok hx hb hts hml hown (hl3 rfl) hCp.1 hCp.2.1 hCp.2.2 hR hL h0 h1 c1 c2 c3 c4 c5 (fun q hq => ?_) hfr (by rw [am_words_cv, hnf]; omega) hd kk
        have h9 := List.all_eq_true.mp c6 q (List.mem_range.mpr hq)
        split at h9
        · rename_i x hx9
          exact ⟨x, hx9⟩
        · cases h9
      · cases h
    · cases h
  · cases h
end AMZ
end
section
/-! a call of one of our own methods -/
section AMY
variable {p : Program} {l0 : Launch} {e : Env} {R : Room} {s : State} {m : MethodId} {args : Array Value} {below : List Frame} {meth : Method} {c : Code} {H : Heap} {locs : List Loc} {cells slots : Nat} {Q : State → Prop}
variable {cc : ByteArray} {pc : Nat} {ls : Array Slot} {D : va_G} {cl : List vw_C} {tyL : List (List FieldType)} {b : Nat} {Hb : Heap} {S : am_S} {own : String} {Ts : List Cond} {AO : List String} {NL : am_NL} {KL : Nat} {P : List am_M}
theorem am_back {rest st0 : List Value} {a : Array Value} {r : Option Value} {S1 : am_S} {mc ms : Nat} (hr : va_Run p l0 e R s m args below meth c H locs cells slots mc ms (F0 m pc ls st0) (rest.map (am_cv (am_ad b Hb.size))) (am_Qc D cl b Hb r S1 a) (fun q => Hb.size ≤ q)) (hL : ∀ q ∈ locs, Hb.size ≤ q.base)
    (kk : ∀ (H1 : Heap) (locs1 : List Loc), am_R D cl b Hb S1 s H1 → (∀ q ∈ locs1, Hb.size ≤ q.base) → W p l0 e R s m args below meth c H1 locs1 (cells + mc) (slots + ms) Q (F0 m (pc + 3) ls ((r.toList ++ rest).map (am_cv (am_ad b Hb.size))))) : W p l0 e R s m args below meth c H locs cells slots Q (F0 m pc ls st0) := by
  intro T hT X
  obtain ⟨v, st₀, t, T', L, h0, X', hL', e1, e2, ⟨hv, hR1⟩, st⟩ := hr T hT X
  cases hv
  have hal : t.vm.Alike s.vm := by rw [← e2]; exact X'.warmed.alike.symm
  obtain ⟨t2, a1, b1⟩ := kk T'.heap (locs ++ L) (by rw [e1]; exact hR1.moved hal) (fun q hq => by
    rcases List.mem_append.mp hq with h | h
    · exact hL q h
    · exact hL' q h) T' rfl X'
  refine ⟨t2, st t2 ?_, b1⟩
  have e3 : (r.map (am_cv (am_ad b Hb.size))).toList ++ rest.map (am_cv (am_ad b Hb.size)) = (r.toList ++ rest).map (am_cv (am_ad b Hb.size)) := by
    cases r <;> simp
  rw [e3]
  exact a1
theorem am_Pc_blind {as : List Value} : FrameBlind (am_Pc D cl b Hb AO NL as S) := by
  intro a U g mk h
  obtain ⟨h1, h2, h3, h4, h5⟩ := h
  exact ⟨h1, am_R.moved (t := U.calling g mk a) (Vm.Alike.refl U.vm) h2, va_K.moved (u := U) (U := U.calling g mk a) (Vm.Alike.refl U.vm) h3, fun C hC => va_AO.moved (u := U) (U := U.calling g mk a) (Vm.Alike.refl U.vm) (h4 C hC), fun q hq => va_Nw.same (u := U) (U := U.calling g mk a) rfl rfl (h5 q hq)⟩
theorem am_Pc_at {as : List Value} (hR : am_R D cl b Hb S s H) (hK : am_Kx D cl AO NL s) : ∀ U : State, U.heap = H → s.WarmedH U.vm → am_Pc D cl b Hb AO NL as S (as.map (am_cv (am_ad b Hb.size))).toArray U := by
  intro U hU hW
  exact ⟨rfl, by rw [hU]; exact hR.moved hW.alike, hK.warm hW⟩
set_option maxHeartbeats 2000000 in
theorem am_own_ok (hF : am_Fix Ts P cl tyL AO NL KL) (hx : p.tables.exec = Jvm.exec) (hb : c.code = cc) (hml : c.maxLocals = ls.size) (hts : ∀ w ∈ Ts, w.before args s = true) (hown : s.vm.findClass own = some m.cls) (hK : am_Kx D cl AO NL s) {d c1 n1 : Nat} (hRf : d + 1 ≤ R.frames) (hRl : (d + 1) * KL ≤ R.locals) (hcs : cells + c1 ≤ R.cells) (hss : slots + n1 ≤ R.slots) (hR : am_R D cl b Hb S s H) (hL : ∀ q ∈ locs, Hb.size ≤ q.base) {i j : Nat} (hlink : ∀ M', P[j]? = some M' → Cond.methodLink own i M'.1 ∈ Ts ∨ ∃ host, (own, i, M'.1, host) ∈ NL ∧ M'.2.2.2.2.2.2.2 = 2000) {ins : Instr} {st as rest : List Value} {M' : am_M} {r : Option Value} {S1 : am_S} (hi : am_cix ins 3 = some i) (hd : decode cc pc = .ok (ins, 3)) (h : am_own P j ins st S = some (M', as, rest))
    (hMet : Met l0 M'.1 (Cond.code M'.1 M'.2.1 M'.2.2.1 M'.2.2.2.1 :: Ts) (am_rm KL d c1 n1) (am_Pc D cl b Hb AO NL as S) (am_Qc D cl b Hb r S1) c1 n1 (fun q => Hb.size ≤ q))
    (kk : ∀ (H1 : Heap) (locs1 : List Loc), am_R D cl b Hb S1 s H1 → (∀ q ∈ locs1, Hb.size ≤ q.base) → W p l0 e R s m args below meth c H1 locs1 (cells + c1) (slots + n1) Q (F0 m (pc + 3) ls ((r.toList ++ rest).map (am_cv (am_ad b Hb.size))))) : W p l0 e R s m args below meth c H locs cells slots Q (F0 m pc ls (st.map (am_cv (am_ad b Hb.size)))) := by
  obtain ⟨hC, -, hgood, -, -, -, -, ⟨-, hcl⟩, hP⟩ := hF
  unfold am_own at h
  split at h
  · cases h
  · rename_i M hM
    obtain ⟨-, hpl, hcode, hini, hmh, hpar, hKL, hst0, hsp0, hvi0⟩ := hP M (List.mem_of_getElem? hM)
    have hroom : 8 + (M.2.2.1 + 11) + d * KL ≤ R.locals := by
      have : (d + 1) * KL = d * KL + KL := Nat.succ_mul d KL
      omega
    have hpay : ∀ w ∈ (Cond.code M.1 M.2.1 M.2.2.1 M.2.2.2.1 :: Ts), ∀ (a' : Array Value) (U : State), s.WarmedH U.vm → w.before a' U = true := by
      intro w hw a' U hW
      have hw' : w ∈ Ts := by
        rcases List.mem_cons.mp hw with q | q
        · rw [q]; exact hcode
        · exact q
      exact word_at hW (good_of_word (hgood w hw')) (hts w hw')
    have hlen : ∀ sig, parseMethodDescriptor M.1.desc = some sig → M.2.2.2.2.2.2.1 = sig.parameters.length := by
      intro sig hs
      rw [hs] at hpar
      exact (Option.some.inj hpar).symm
    split at h
    · cases h
    · rename_i hlt
      have htl : ((st.take M.2.2.2.2.2.2.1).reverse.map (am_cv (am_ad b Hb.size))).length = M.2.2.2.2.2.2.1 := by
        rw [List.length_map, List.length_reverse, List.length_take]
        omega
      have hstk : ∀ rs : List Value, st.drop M.2.2.2.2.2.2.1 = rs → st.map (am_cv (am_ad b Hb.size)) = ((st.take M.2.2.2.2.2.2.1).reverse.map (am_cv (am_ad b Hb.size))).reverse ++ rs.map (am_cv (am_ad b Hb.size)) := by
        intro rs hrs
        rw [← List.map_reverse, List.reverse_reverse, ← List.map_append, ← hrs, List.take_append_drop]
      have hB : Cond.methodLink own i M.1 ∈ Ts → CallB R s args own i M.1 M.2.1 M.2.2.1 M.2.2.2.1 (Cond.code M.1 M.2.1 M.2.2.1 M.2.2.2.1 :: Ts) (am_rm KL d c1 n1) c1 n1 M.2.2.2.2.2.2.1 := fun hlk => ⟨rfl, rfl, hRf, hroom, hpay, List.mem_cons_self, hts _ hcode, hts _ hini, hmh, hlen, hts _ hlk⟩
      split at h
      · -- static
        rename_i rs hrs
        split at h
        · rename_i hc
          obtain ⟨hk, hw, -⟩ := hc
          cases h
          cases hi
          have hlk : Cond.methodLink own i M'.1 ∈ Ts := by
            rcases hlink M' hM with q | ⟨_, _, q⟩
            · exact q
            · rw [hk] at q; cases q
          refine am_back (rest := st.drop M'.2.2.2.2.2.2.1) (va_runS (As := (st.take M'.2.2.2.2.2.2.1).reverse.map (am_cv (am_ad b Hb.size))) ⟨hx, hb, hml, hown, hts⟩ hMet ⟨hB hlk, hts _ (hst0 hk)⟩ ⟨am_Pc_blind, am_Pc_at hR hK⟩ rfl htl rfl (hstk _ rfl) (by show 2 * 0 + _ ≤ 8; rw [am_words_cv]; omega) hd ⟨hcs, hss⟩) hL kk
        · cases h
      · -- special
        rename_i b0 rs hrs
        split at h
        · rename_i hc
          obtain ⟨hk, hw, -⟩ := hc
          cases h
          cases hi
          obtain ⟨hn, hinst, hret⟩ := hsp0 hk
          rw [hret] at hMet hB hpay hcode
          rcases hlink M' hM with hlk | ⟨host, hnl, -⟩
          · exact am_back (va_runI (b := am_ad b Hb.size b0) (As := (st.take M'.2.2.2.2.2.2.1).reverse.map (am_cv (am_ad b Hb.size))) ⟨hx, hb, hml, hown, hts⟩ hMet ⟨hB hlk, hn, hts _ hinst⟩ ⟨am_Pc_blind, am_Pc_at hR hK⟩ rfl htl rfl (hstk _ hrs) (by show 2 * 0 + _ ≤ 8; rw [am_words_cv]; omega) hd ⟨hcs, hss⟩) hL kk
          · exact am_back (va_runIN (host := host) (b := am_ad b Hb.size b0) (As := (st.take M'.2.2.2.2.2.2.1).reverse.map (am_cv (am_ad b Hb.size))) ⟨hx, hb, hml, hown, hts⟩ hMet ⟨⟨⟨rfl, rfl, hRf, hroom, hpay, List.mem_cons_self⟩, hts _ hcode, hts _ hini, hmh, hlen, va_Nw.use rfl (hK.2.2 _ hnl)⟩, hn, hts _ hinst⟩ ⟨am_Pc_blind, am_Pc_at hR hK⟩ rfl htl rfl (hstk _ hrs) (by show 2 * 0 + _ ≤ 8; rw [am_words_cv]; omega) hd ⟨hcs, hss⟩) hL kk
        · cases h
      · -- virtual
        rename_i b0 rs hrs
        split at h
        · rename_i z ci fs hS
          split at h
          · rename_i hc
            obtain ⟨hk, hw, -⟩ := hc
            cases h
            cases hi
            subst hk
            obtain ⟨j0, rr, rfl, -, h1, h2, cell, q1, q2, q3, q4⟩ := hR.obj hS
            obtain ⟨hnm, hinst, hsel⟩ := hvi0 rr h1
            have hlk : Cond.methodLink own i M'.1 ∈ Ts := by
              rcases hlink M' hM with q | ⟨_, _, q⟩
              · exact q
              · have h9 := (List.getElem?_eq_some_iff.mp h1).1
                omega
            exact am_back (va_runV (C := M'.1.cls) (b := Hb.size + j0) (As := (st.take M'.2.2.2.2.2.2.1).reverse.map (am_cv (am_ad b Hb.size))) ⟨hx, hb, hml, hown, hts⟩ hMet ⟨hB hlk, hts _ hinst, hts _ hsel⟩ ⟨am_Pc_blind, ⟨cell, q1, by rw [q3]; rfl, by rw [q2, ← hnm]; exact (hK.1.1 _ _ h1).2.1⟩, am_Pc_at hR hK⟩ rfl htl rfl (hstk _ hrs) (by show 2 * 0 + _ ≤ 8; rw [am_words_cv]; omega) hd ⟨hcs, hss⟩) hL kk
          · cases h
        · cases h
      · cases h
end AMY
end
section
/-! THE SMALL MACHINE IS RIGHT: what a run of it comes to, the JVM's machine comes to -/
/-- the machine stands in method M's body -/
def am_In (Ts : List Cond) (D : va_G) (cl : List vw_C) (AO : List String) (NL : am_NL) (M : am_M) (p : Program) (s : State) (m : MethodId) (args : Array Value) (meth : Method) (c : Code) : Prop :=
  p.tables.exec = Jvm.exec ∧ c.code = M.2.1 ∧ c.maxLocals = M.2.2.1 ∧ meth.name = M.1.name ∧ s.vm.findClass M.1.cls = some m.cls ∧ (∀ w ∈ Ts, w.before args s = true) ∧ am_Kx D cl AO NL s
/-- what a run says: from the state at its start the machine comes to Q, if it does so from every state at which the run ends -/
def am_Says (Ts : List Cond) (D : va_G) (cl : List vw_C) (AO : List String) (NL : am_NL) (KL b : Nat) (Hb : Heap) (l0 : Launch) (d : Nat) (M : am_M) (pc : Nat) (lc : am_L) (st : List Value) (S : am_S) (r : Option Value) (S' : am_S) (dc ds : Nat) : Prop :=
  ∀ (p : Program) (e : Env) (R : Room) (s : State) (m : MethodId) (args : Array Value) (below : List Frame) (meth : Method) (c : Code) (H : Heap) (locs : List Loc) (cells slots : Nat) (Q : State → Prop) (ls : Array Slot),
    am_In Ts D cl AO NL M p s m args meth c → d ≤ R.frames → d * KL ≤ R.locals → cells + dc ≤ R.cells → slots + ds ≤ R.slots → am_R D cl b Hb S s H → (∀ q ∈ locs, Hb.size ≤ q.base) → lv_has ls M.2.2.1 (am_cl (am_ad b Hb.size) lc) →
    (∀ (H1 : Heap) (locs1 : List Loc) (ls1 : Array Slot) (pc1 : Nat) (ins : Instr) (len : Nat) (st1 : List Value), decode M.2.1 pc1 = .ok (ins, len) → am_ret M.2.2.2.1 ins len st1 = some r → am_R D cl b Hb S' s H1 → (∀ q ∈ locs1, Hb.size ≤ q.base) → W p l0 e R s m args below meth c H1 locs1 (cells + dc) (slots + ds) Q (F0 m pc1 ls1 (st1.map (am_cv (am_ad b Hb.size))))) →
    W p l0 e R s m args below meth c H locs cells slots Q (F0 m pc ls (st.map (am_cv (am_ad b Hb.size))))
/-- a callee's contract out of what its run says -/
theorem am_met {Ts : List Cond} {P : List am_M} {D : va_G} {cl : List vw_C} {tyL : List (List FieldType)} {AO : List String} {NL : am_NL} {KL b : Nat} {Hb : Heap} {l0 : Launch} {d : Nat} {M : am_M} {as : List Value} {S : am_S} {r : Option Value} {S' : am_S} {dc ds : Nat} (hF : am_Fix Ts P cl tyL AO NL KL) (hM : M ∈ P) (hw : am_words as ≤ M.2.2.1) (h : am_Says Ts D cl AO NL KL b Hb l0 d M 0 (lv_args 0 as) [] S r S' dc ds) :
    Met l0 M.1 (Cond.code M.1 M.2.1 M.2.2.1 M.2.2.2.1 :: Ts) (am_rm KL d dc ds) (am_Pc D cl b Hb AO NL as S) (am_Qc D cl b Hb r S') dc ds (fun q => Hb.size ≤ q) := by
  obtain ⟨-, hpl, hcode, -⟩ := hF.2.2.2.2.2.2.2.2 M hM
  refine Met.ofW (cc := M.2.1) (maxL := M.2.2.1) (ret := M.2.2.2.1) hpl rfl ?_
  intro p e s m args below meth c s₁ B hml hv
  obtain ⟨rfl, hR, hK⟩ := hv
  have hts := atoms_spec (ws := Cond.code M.1 M.2.1 M.2.2.1 M.2.2.2.1 :: Ts) B.pre
  have hlocks := B.notSynchronized
  have hl := lv_entry (as.map (am_cv (am_ad b Hb.size))) (n := M.2.2.1) (by rw [am_sl_len]; unfold am_words at hw ⊢; rw [am_words_cv]; exact hw)
  rw [lg_entry_eq]
  rw [am_args_cv] at hl
  have h0 := h p e (headSpec (Cond.code M.1 M.2.1 M.2.2.1 M.2.2.2.1 :: Ts) (am_rm KL d dc ds)).room s m (as.map (am_cv (am_ad b Hb.size))).toArray below meth c s.heap [] 0 0 (MQ below (am_Qc D cl b Hb r S') (as.map (am_cv (am_ad b Hb.size))).toArray s dc ds (fun q => Hb.size ≤ q)) _
    ⟨B.exec, B.bytes, hml, (name_of_methodNamed B.named B.method).1, findClass_of_methodNamed B.named, fun w hw => hts w (List.mem_cons_of_mem _ hw), hK⟩ (Nat.le_refl _) (Nat.le_refl _) (by rw [Nat.zero_add]; exact Nat.le_refl _) (by rw [Nat.zero_add]; exact Nat.le_refl _) hR (fun q hq => by cases hq) hl
  refine h0 ?_
  intro H1 locs1 ls1 pc1 ins len st1 hd hr hR1 hL1
  rw [Nat.zero_add, Nat.zero_add]
  exact am_end B.exec B.bytes B.returns hlocks hd hr (fun t ht hW => ⟨rfl, by rw [ht]; exact hR1.moved hW.alike⟩) hL1
theorem am_own_mem {P : List am_M} {j : Nat} {ins : Instr} {st as rest : List Value} {S : am_S} {M : am_M} (h : am_own P j ins st S = some (M, as, rest)) : M ∈ P ∧ am_words as ≤ M.2.2.1 := by
  unfold am_own at h
  split at h
  · cases h
  · rename_i M0 hM
    split at h
    · cases h
    · split at h
      · split at h
        · rename_i hc
          cases h
          exact ⟨List.mem_of_getElem? hM, hc.2.2⟩
        · cases h
      · split at h
        · rename_i hc
          cases h
          refine ⟨List.mem_of_getElem? hM, ?_⟩
          have := hc.2.2
          unfold am_words at this ⊢
          rw [List.map_cons, List.sum_cons]
          show 1 + _ ≤ _
          omega
        · cases h
      · split at h
        · split at h
          · rename_i hc
            cases h
            refine ⟨List.mem_of_getElem? hM, ?_⟩
            have := hc.2.2
            unfold am_words at this ⊢
            rw [List.map_cons, List.sum_cons]
            show 1 + _ ≤ _
            omega
          · cases h
        · cases h
      · cases h
set_option maxHeartbeats 4000000 in
theorem am_sound {Ts : List Cond} {P : List am_M} {D : va_G} {cl : List vw_C} {tyL : List (List FieldType)} {AO : List String} {NL : am_NL} {KL b : Nat} {Hb : Heap} {l0 : Launch} (hF : am_Fix Ts P cl tyL AO NL KL) :
    ∀ (f d : Nat) (M : am_M), am_Body Ts P cl AO NL M → ∀ (pc : Nat) (lc : am_L) (st : List Value) (S : am_S) (r : Option Value) (S' : am_S) (dc ds : Nat), am_run P cl tyL f d M pc lc st S = some (r, S', dc, ds) → am_Says Ts D cl AO NL KL b Hb l0 d M pc lc st S r S' dc ds := by
  intro f
  induction f with
  | zero =>
    intro d M hB pc lc st S r S' dc ds h
    cases h
  | succ f ih =>
    intro d M hB pc lc st S r S' dc ds h p e R s m args below meth c H locs cells slots Q ls hIn hRf hRl hcs hss hR hL hl kend
    have hIn0 := hIn
    obtain ⟨hx, hb, hml, hnm, hown, hts, hK⟩ := hIn
    unfold am_run at h
    split at h
    · cases h
    · rename_i ins len hins
      have hd : decode M.2.1 pc = .ok (ins, len) := hB.2.1 (pc, ins, len) (am_find_mem hins)
      split at h
      · rename_i pc' l' st' hp
        exact am_pure_ok hx hb hd hp hl (fun ls' hl' => ih d M hB pc' l' st' S r S' dc ds h p e R s m args below meth c H locs cells slots Q ls' hIn0 hRf hRl hcs hss hR hL hl' kend)
      · split at h
        · rename_i pc' st' S2 d2 n2 hp
          obtain ⟨q, hq, e9⟩ := Option.map_eq_some_iff.mp h
          obtain ⟨q1, q2, q3, q4⟩ := q
          simp only [Prod.mk.injEq] at e9
          obtain ⟨rfl, rfl, rfl, rfl⟩ := e9
          refine am_heap_ok hx hb hts hF.1 hown hnm hB.1 hF.2.1 hK.2.1 hK.1 hR hL hd hp (by omega) (by omega) (fun H1 locs1 hR1 hL1 => ?_)
          refine ih d M hB pc' lc st' S2 q1 q2 q3 q4 hq p e R s m args below meth c H1 locs1 (cells + d2) (slots + n2) Q ls hIn0 hRf hRl (by omega) (by omega) hR1 hL1 hl ?_
          rw [Nat.add_assoc, Nat.add_assoc]
          exact kend
        · split at h
          · rename_i r0 hr
            cases h
            exact kend H locs ls pc ins len st hd hr hR hL
          · split at h
            · cases h
            · rename_i d'
              split at h
              · cases h
              · rename_i i hi
                have hlen : len = 3 := by
                  unfold am_cix at hi
                  split at hi <;> first | rfl | cases hi
                subst hlen
                split at h
                · cases h
                · rename_i j hj
                  obtain ⟨hl0, hl1, hl2, hl3, hl4⟩ := hB.2.2 _ (am_find_mem hj)
                  have hms : c.maxLocals = ls.size := by rw [hml]; exact hl.1.symm
                  split at h
                  · split at h
                    · rename_i st' S2 hlb
                      exact am_lib_ok hF hx hb hms hts hown hRf hRl (by omega) (by omega) hR hL hl0 hl1 hl2 hl3 hi hd hlb (fun H1 locs1 hR1 hL1 => ih (d' + 1) M hB (pc + 3) lc st' S2 r S' dc ds h p e R s m args below meth c H1 locs1 cells slots Q ls hIn0 hRf hRl hcs hss hR1 hL1 hl kend)
                    · cases h
                  · rename_i hj4
                    split at h
                    · cases h
                    · rename_i M' as rest hown2
                      split at h
                      · cases h
                      · rename_i r1 S1 c1 n1 hrun
                        obtain ⟨q, hq, e9⟩ := Option.map_eq_some_iff.mp h
                        obtain ⟨q1, q2, q3, q4⟩ := q
                        simp only [Prod.mk.injEq] at e9
                        obtain ⟨rfl, rfl, rfl, rfl⟩ := e9
                        obtain ⟨hM', hw⟩ := am_own_mem hown2
                        have hsay := ih d' M' (hF.2.2.2.2.2.2.2.2 M' hM').1 0 (lv_args 0 as) [] S r1 S1 c1 n1 hrun
                        refine am_own_ok hF hx hb hms hts hown hK hRf hRl (by omega) (by omega) hR hL (fun M9 h9 => hl4 M9 (by omega) h9) hi hd hown2 (am_met hF hM' hw hsay) (fun H1 locs1 hR1 hL1 => ?_)
                        refine ih (d' + 1) M hB (pc + 3) lc (r1.toList ++ rest) S1 q1 q2 q3 q4 hq p e R s m args below meth c H1 locs1 (cells + c1) (slots + n1) Q ls hIn0 hRf hRl (by omega) (by omega) hR1 hL1 hl ?_
                        rw [Nat.add_assoc, Nat.add_assoc]
                        exact kend
end
section
/-! stretches of one method's body: single steps (calls whole), many of them -/
def am_one (P : List am_M) (cl : List vw_C) (tyL : List (List FieldType)) (f d : Nat) (M : am_M) (pc : Nat) (l : am_L) (st : List Value) (S : am_S) : Option (Nat × am_L × List Value × am_S × Nat × Nat) := match am_find pc M.2.2.2.2.2.1 with
  | none => none
  | some (ins, len) => match am_pure M.2.2.1 ins len pc l st with
    | some (pc', l', st') => some (pc', l', st', S, 0, 0)
    | none => match am_heap cl tyL M.2.2.2.2.1 ins len pc st S with
      | some (pc', st', S', dc, ds) => some (pc', l, st', S', dc, ds)
      | none => match d with
        | 0 => none
        | d' + 1 => match am_cix ins len with
          | none => none
          | some i => match am_find i M.2.2.2.2.1.2.2.2.2.2 with
            | none => none
            | some j => if j < 4 then (match am_lib j ins st S with
                | some (st', S') => some (pc + 3, l, st', S', 0, 0)
                | none => none)
              else match am_own P (j - 4) ins st S with
                | none => none
                | some (M', as, rest) => match am_run P cl tyL f d' M' 0 (lv_args 0 as) [] S with
                  | none => none
                  | some (r, S1, c1, n1) => some (pc + 3, l, r.toList ++ rest, S1, c1, n1)
def am_many (P : List am_M) (cl : List vw_C) (tyL : List (List FieldType)) (f d : Nat) (M : am_M) : Nat → Nat → am_L → List Value → am_S → Option (Nat × am_L × List Value × am_S × Nat × Nat)
  | 0, pc, l, st, S => some (pc, l, st, S, 0, 0)
  | n + 1, pc, l, st, S => match am_one P cl tyL f d M pc l st S with
    | none => none
    | some (pc', l', st', S', dc, ds) => match am_many P cl tyL f d M n pc' l' st' S' with
      | none => none
      | some (pc2, l2, st2, S2, dc2, ds2) => some (pc2, l2, st2, S2, dc + dc2, ds + ds2)
/-- a stretch on the JVM's machine -/
def am_Leads (Ts : List Cond) (D : va_G) (cl : List vw_C) (AO : List String) (NL : am_NL) (KL b : Nat) (Hb : Heap) (l0 : Launch) (d : Nat) (M : am_M) (pc : Nat) (lc : am_L) (st : List Value) (S : am_S) (pc' : Nat) (lc' : am_L) (st' : List Value) (S' : am_S) (dc ds : Nat) : Prop :=
  ∀ (p : Program) (e : Env) (R : Room) (s : State) (m : MethodId) (args : Array Value) (below : List Frame) (meth : Method) (c : Code) (H : Heap) (locs : List Loc) (cells slots : Nat) (Q : State → Prop) (ls : Array Slot),
    am_In Ts D cl AO NL M p s m args meth c → d ≤ R.frames → d * KL ≤ R.locals → cells + dc ≤ R.cells → slots + ds ≤ R.slots → am_R D cl b Hb S s H → (∀ q ∈ locs, Hb.size ≤ q.base) → lv_has ls M.2.2.1 (am_cl (am_ad b Hb.size) lc) →
    (∀ (H1 : Heap) (locs1 : List Loc) (ls1 : Array Slot), am_R D cl b Hb S' s H1 → (∀ q ∈ locs1, Hb.size ≤ q.base) → lv_has ls1 M.2.2.1 (am_cl (am_ad b Hb.size) lc') → W p l0 e R s m args below meth c H1 locs1 (cells + dc) (slots + ds) Q (F0 m pc' ls1 (st'.map (am_cv (am_ad b Hb.size))))) →
    W p l0 e R s m args below meth c H locs cells slots Q (F0 m pc ls (st.map (am_cv (am_ad b Hb.size))))
set_option maxHeartbeats 4000000 in
theorem am_one_ok {Ts : List Cond} {P : List am_M} {D : va_G} {cl : List vw_C} {tyL : List (List FieldType)} {AO : List String} {NL : am_NL} {KL b : Nat} {Hb : Heap} {l0 : Launch} (hF : am_Fix Ts P cl tyL AO NL KL) {f d : Nat} {M : am_M} (hB : am_Body Ts P cl AO NL M) {pc : Nat} {lc : am_L} {st : List Value} {S : am_S} {pc' : Nat} {lc' : am_L} {st' : List Value} {S' : am_S} {dc ds : Nat} (h : am_one P cl tyL f d M pc lc st S = some (pc', lc', st', S', dc, ds)) : am_Leads Ts D cl AO NL KL b Hb l0 d M pc lc st S pc' lc' st' S' dc ds := by
  intro p e R s m args below meth c H locs cells slots Q ls hIn hRf hRl hcs hss hR hL hl kend
  obtain ⟨hx, hb, hml, hnm, hown, hts, hK⟩ := hIn
  unfold am_one at h
  split at h
  · cases h
  · rename_i ins len hins
    have hd : decode M.2.1 pc = .ok (ins, len) := hB.2.1 (pc, ins, len) (am_find_mem hins)
    split at h
    · rename_i pc1 l1 st1 hp
      cases h
      exact am_pure_ok hx hb hd hp hl (fun ls' hl' => kend _ _ _ hR hL hl')
    · split at h
      · rename_i pc1 st1 S1 d1 n1 hp
        cases h
        exact am_heap_ok hx hb hts hF.1 hown hnm hB.1 hF.2.1 hK.2.1 hK.1 hR hL hd hp hcs hss (fun H1 locs1 hR1 hL1 => kend _ _ _ hR1 hL1 hl)
      · split at h
        · cases h
        · rename_i d'
          split at h
          · cases h
          · rename_i i hi
            have hlen : len = 3 := by
              unfold am_cix at hi
              split at hi <;> first | rfl | cases hi
            subst hlen
            split at h
            · cases h
            · rename_i j hj
              obtain ⟨hl0, hl1, hl2, hl3, hl4⟩ := hB.2.2 _ (am_find_mem hj)
              have hms : c.maxLocals = ls.size := by rw [hml]; exact hl.1.symm
              split at h
              · split at h
                · rename_i st1 S1 hlb
                  cases h
                  exact am_lib_ok hF hx hb hms hts hown hRf hRl (by omega) (by omega) hR hL hl0 hl1 hl2 hl3 hi hd hlb (fun H1 locs1 hR1 hL1 => kend _ _ _ hR1 hL1 hl)
                · cases h
              · rename_i hj4
                split at h
                · cases h
                · rename_i M' as rest hown2
                  split at h
                  · cases h
                  · rename_i r1 S1 c1 n1 hrun
                    cases h
                    obtain ⟨hM', hw⟩ := am_own_mem hown2
                    have hsay := am_sound (D := D) (b := b) (Hb := Hb) (l0 := l0) hF f d' M' (hF.2.2.2.2.2.2.2.2 M' hM').1 0 (lv_args 0 as) [] S r1 S' dc ds hrun
                    exact am_own_ok hF hx hb hms hts hown hK hRf hRl hcs hss hR hL (fun M9 h9 => hl4 M9 (by omega) h9) hi hd hown2 (am_met hF hM' hw hsay) (fun H1 locs1 hR1 hL1 => kend _ _ _ hR1 hL1 hl)
theorem am_many_ok {Ts : List Cond} {P : List am_M} {D : va_G} {cl : List vw_C} {tyL : List (List FieldType)} {AO : List String} {NL : am_NL} {KL b : Nat} {Hb : Heap} {l0 : Launch} (hF : am_Fix Ts P cl tyL AO NL KL) {f d : Nat} {M : am_M} (hB : am_Body Ts P cl AO NL M) : ∀ (n : Nat) {pc : Nat} {lc : am_L} {st : List Value} {S : am_S} {pc' : Nat} {lc' : am_L} {st' : List Value} {S' : am_S} {dc ds : Nat}, am_many P cl tyL f d M n pc lc st S = some (pc', lc', st', S', dc, ds) → am_Leads Ts D cl AO NL KL b Hb l0 d M pc lc st S pc' lc' st' S' dc ds := by
  intro n
  induction n with
  | zero =>
    intro pc lc st S pc' lc' st' S' dc ds h
    cases h
    intro p e R s m args below meth c H locs cells slots Q ls hIn hRf hRl hcs hss hR hL hl kend
    exact kend H locs ls hR hL hl
  | succ n ih =>
    intro pc lc st S pc' lc' st' S' dc ds h
    unfold am_many at h
    split at h
    · cases h
    · rename_i pc1 l1 st1 S1 d1 n1 h1
      split at h
      · cases h
      · rename_i pc2 l2 st2 S2 d2 n2 h2
        cases h
        intro p e R s m args below meth c H locs cells slots Q ls hIn hRf hRl hcs hss hR hL hl kend
        refine am_one_ok hF hB h1 p e R s m args below meth c H locs cells slots Q ls hIn hRf hRl (by omega) (by omega) hR hL hl ?_
        intro H1 locs1 ls1 hR1 hL1 hl1
        refine ih h2 p e R s m args below meth c H1 locs1 _ _ Q ls1 hIn hRf hRl (by omega) (by omega) hR1 hL1 hl1 ?_
        rw [Nat.add_assoc, Nat.add_assoc]
        exact kend
end
section
/-! a run that is done without the script is done with any script -/
theorem am_nth0 {L : Nat × List am_C} {a z : Nat} {x : am_E} (h : am_nth ((0, none), L) a = some (z, some x)) (c1 : am_C) : am_nth (c1, L) a = some (z, some x) := by
  cases a with
  | zero => cases h
  | succ k => exact h
theorem am_nth0_ne {L : Nat × List am_C} {a z : Nat} {x : am_E} (h : am_nth ((0, none), L) a = some (z, some x)) (c1 : am_C) : am_nth (c1, L) a = am_nth ((0, none), L) a := by
  cases a with
  | zero => cases h
  | succ k => rfl
theorem am_getf0 {L : Nat × List am_C} {a ci k : Nat} {v : Value} (h : am_getf ((0, none), L) a ci k = some v) (c1 : am_C) : am_getf (c1, L) a ci k = some v := by
  unfold am_getf at h ⊢
  split at h
  · rename_i z cj fs hS
    rw [am_nth0 hS c1]
    exact h
  · cases h
theorem am_geta0 {L : Nat × List am_C} {a : Nat} {i : Int32} {ty : FieldType} {v : Value} (h : am_geta ((0, none), L) a i ty = some v) (c1 : am_C) : am_geta (c1, L) a i ty = some v ∧ ∀ ty', am_geta (c1, L) a i ty' = am_geta ((0, none), L) a i ty' := by
  cases a with
  | zero => cases h
  | succ k => exact ⟨h, fun _ => rfl⟩
theorem am_seta_s (c1 : am_C) (L : Nat × List am_C) (k : Nat) (i : Int32) (ty : FieldType) (v : Value) : am_seta (c1, L) (k + 1) i ty v = (am_seta ((0, none), L) (k + 1) i ty v).map (fun S => (c1, S.2)) := by
  unfold am_seta
  have e1 : am_nth (c1, L) (k + 1) = am_nth ((0, none), L) (k + 1) := rfl
  rw [e1]
  rcases am_nth ((0, none), L) (k + 1) with _ | ⟨z, _ | ⟨t, n, d, u⟩ | o⟩
  · rfl
  · rfl
  · by_cases hc : t = ty ∧ ¬ (i < 0 ∨ n ≤ i.toNatClampNeg)
    · show (if _ then _ else _) = Option.map _ (if _ then _ else _)
      rw [if_pos hc, if_pos hc]
      rfl
    · show (if _ then _ else _) = Option.map _ (if _ then _ else _)
      rw [if_neg hc, if_neg hc]
      rfl
  · rfl
theorem am_seta0 {L : Nat × List am_C} {a : Nat} {i : Int32} {ty : FieldType} {v : Value} {S' : am_S} (h : am_seta ((0, none), L) a i ty v = some S') (c1 : am_C) : S'.1 = (0, none) ∧ am_seta (c1, L) a i ty v = some (c1, S'.2) ∧ ∀ ty' v', am_seta ((0, none), L) a i ty' v' = none → am_seta (c1, L) a i ty' v' = none := by
  cases a with
  | zero =>
    unfold am_seta at h
    cases h
  | succ k =>
    refine ⟨?_, by rw [am_seta_s, h]; rfl, fun ty' v' h' => by rw [am_seta_s, h']; rfl⟩
    obtain ⟨j, z, n, dv, u, e, hS, hc, rfl⟩ := am_seta_of h
    rfl
set_option maxHeartbeats 4000000 in
theorem am_heap0 {cl : List vw_C} {tyL : List (List FieldType)} {T : am_T} {ins : Instr} {len pc : Nat} {st : List Value} {L : Nat × List am_C} {pc' dc ds : Nat} {st' : List Value} {S' : am_S} (h : am_heap cl tyL T ins len pc st ((0, none), L) = some (pc', st', S', dc, ds)) (c1 : am_C) : S'.1 = (0, none) ∧ am_heap cl tyL T ins len pc st (c1, L) = some (pc', st', (c1, S'.2), dc, ds) := by
  unfold am_heap at h
  split at h
  · split at h
    · rename_i ci k hi
      obtain ⟨v, hv, e9⟩ := Option.map_eq_some_iff.mp h; cases e9
      refine ⟨rfl, ?_⟩
      simp only [am_heap, hi, am_getf0 hv c1, Option.map_some]
    · cases h
  · split at h
    · rename_i ci k hi
      split at h
      · rename_i z cj fs hS
        split at h
        · rename_i tys hty
          split at h
          · rename_i hc
            cases h
            refine ⟨rfl, ?_⟩
            simp only [am_heap, hi, am_nth0 hS c1, hty]
            rw [if_pos hc]
            rfl
          · cases h
        · cases h
      · cases h
    · cases h
  · split at h
    · rename_i ci hi
      obtain ⟨tys, hty, e9⟩ := Option.map_eq_some_iff.mp h; cases e9
      refine ⟨rfl, ?_⟩
      simp only [am_heap, hi, hty, Option.map_some]
      rfl
    · cases h
  · split at h
    · cases h
    · rename_i hc
      split at h
      · rename_i ht
        cases h
        refine ⟨rfl, ?_⟩
        simp only [am_heap]
        rw [if_neg hc, if_pos ht]
        rfl
      · cases h
  · split at h
    · rename_i C hi
      split at h
      · cases h
      · rename_i hc
        cases h
        refine ⟨rfl, ?_⟩
        simp only [am_heap, hi]
        rw [if_neg hc]
        rfl
    · cases h
  · obtain ⟨v, hv, e9⟩ := Option.map_eq_some_iff.mp h; cases e9
    refine ⟨rfl, ?_⟩
    simp only [am_heap, (am_geta0 hv c1).1, Option.map_some]
  · obtain ⟨v, hv, e9⟩ := Option.map_eq_some_iff.mp h; cases e9
    refine ⟨rfl, ?_⟩
    simp only [am_heap, (am_geta0 hv c1).1, Option.map_some]
  · split at h
    · rename_i v hv
      cases h
      refine ⟨rfl, ?_⟩
      simp only [am_heap, (am_geta0 hv c1).1]
    · rename_i hn
      obtain ⟨v, hv, e9⟩ := Option.map_eq_some_iff.mp h; cases e9
      refine ⟨rfl, ?_⟩
      have h9 := (am_geta0 hv c1).2 .byte
      rw [hn] at h9
      simp only [am_heap, h9, (am_geta0 hv c1).1, Option.map_some]
  · split at h
    · rename_i hS
      obtain ⟨v, hv, e9⟩ := Option.map_eq_some_iff.mp h; cases e9
      refine ⟨rfl, ?_⟩
      simp only [am_heap, am_nth0 hS c1, (am_geta0 hv c1).1, Option.map_some]
    · cases h
  · split at h
    · rename_i hS
      cases h
      refine ⟨rfl, ?_⟩
      simp only [am_heap, am_nth0 hS c1]
    · cases h
  · obtain ⟨v, hv, e9⟩ := Option.map_eq_some_iff.mp h; cases e9
    obtain ⟨q1, q2, -⟩ := am_seta0 hv c1
    refine ⟨q1, ?_⟩
    simp only [am_heap, q2, Option.map_some]
  · obtain ⟨v, hv, e9⟩ := Option.map_eq_some_iff.mp h; cases e9
    obtain ⟨q1, q2, -⟩ := am_seta0 hv c1
    refine ⟨q1, ?_⟩
    simp only [am_heap, q2, Option.map_some]
  · split at h
    · rename_i v hv
      cases h
      obtain ⟨q1, q2, -⟩ := am_seta0 hv c1
      refine ⟨q1, ?_⟩
      simp only [am_heap, q2]
    · rename_i hn
      obtain ⟨v, hv, e9⟩ := Option.map_eq_some_iff.mp h; cases e9
      obtain ⟨q1, q2, q3⟩ := am_seta0 hv c1
      refine ⟨q1, ?_⟩
      simp only [am_heap, q3 _ _ hn, q2, Option.map_some]
  · split at h
    · rename_i hS
      split at h
      · rename_i r hr
        obtain ⟨v, hv, e9⟩ := Option.map_eq_some_iff.mp h; cases e9
        obtain ⟨q1, q2, -⟩ := am_seta0 hv c1
        refine ⟨q1, ?_⟩
        simp only [am_heap, am_nth0 hS c1, hr, q2, Option.map_some]
      · cases h
    · cases h
  · split at h
    · rename_i x hi
      cases h
      refine ⟨rfl, ?_⟩
      simp only [am_heap, hi]
    · cases h
  · split at h
    · rename_i x hi
      cases h
      refine ⟨rfl, ?_⟩
      simp only [am_heap, hi]
    · cases h
  · cases h
theorem am_lib0 {j : Nat} {ins : Instr} {st st' : List Value} {L : Nat × List am_C} {S' : am_S} (h : am_lib j ins st ((0, none), L) = some (st', S')) (c1 : am_C) : S'.1 = (0, none) ∧ am_lib j ins st (c1, L) = some (st', (c1, S'.2)) := by
  unfold am_lib at h
  split at h
  · split at h
    · rename_i hw
      cases h
      exact ⟨rfl, by simp only [am_lib]; rw [if_pos hw]⟩
    · cases h
  · split at h
    · rename_i hw
      cases h
      exact ⟨rfl, by simp only [am_lib]; rw [if_pos hw]⟩
    · cases h
  · split at h
    · rename_i hw
      cases h
      exact ⟨rfl, by simp only [am_lib]; rw [if_pos hw]⟩
    · cases h
  · split at h
    · rename_i h0 h1
      split at h
      · rename_i hc
        cases h
        refine ⟨rfl, ?_⟩
        simp only [am_lib]
        rw [am_nth0 h0 c1, am_nth0 h1 c1]
        show (if _ then _ else _) = _
        rw [if_pos hc]
        rfl
      · cases h
    · cases h
  · cases h
theorem am_own0 {P : List am_M} {j : Nat} {ins : Instr} {st : List Value} {L : Nat × List am_C} {q : am_M × List Value × List Value} (h : am_own P j ins st ((0, none), L) = some q) (c1 : am_C) : am_own P j ins st (c1, L) = some q := by
  unfold am_own at h ⊢
  split at h
  · cases h
  · rename_i M hM
    split at h
    · cases h
    · rename_i hlt
      show (if _ then _ else _) = _
      rw [if_neg hlt]
      split at h
      · exact h
      · exact h
      · rename_i b0 rs hrs
        split at h
        · rename_i z ci fs hS
          rw [am_nth0 hS c1]
          exact h
        · cases h
      · exact h
theorem am_heap_ret {cl : List vw_C} {tyL : List (List FieldType)} {T : am_T} {ret : Option FieldType} {ins : Instr} {len : Nat} {st : List Value} {r : Option Value} (h : am_ret ret ins len st = some r) (pc : Nat) (S : am_S) : am_heap cl tyL T ins len pc st S = none := by
  unfold am_ret at h
  split at h
  · rfl
  · rfl
  · rfl
  · rfl
  · cases h
theorem am_heap_cix {cl : List vw_C} {tyL : List (List FieldType)} {T : am_T} {ins : Instr} {len i : Nat} (h : am_cix ins len = some i) (pc : Nat) (st : List Value) (S : am_S) : am_heap cl tyL T ins len pc st S = none := by
  unfold am_cix at h
  split at h
  · rfl
  · rfl
  · rfl
  · cases h
set_option maxHeartbeats 4000000 in
theorem am_run0 {P : List am_M} {cl : List vw_C} {tyL : List (List FieldType)} (c1 : am_C) : ∀ (f d : Nat) (M : am_M) (pc : Nat) (l : am_L) (st : List Value) (L : Nat × List am_C) (r : Option Value) (S' : am_S) (dc ds : Nat), am_run P cl tyL f d M pc l st ((0, none), L) = some (r, S', dc, ds) → S'.1 = (0, none) ∧ am_run P cl tyL f d M pc l st (c1, L) = some (r, (c1, S'.2), dc, ds) := by
  intro f
  induction f with
  | zero =>
    intro d M pc l st L r S' dc ds h
    cases h
  | succ f ih =>
    intro d M pc l st L r S' dc ds h
    unfold am_run at h
    rw [am_run.eq_2]
    split at h
    · cases h
    · rename_i ins len hins
      try rw [hins]
      try dsimp only
      split at h
      · rename_i pc' l' st' hp
        try rw [hp]
        exact ih d M pc' l' st' L r S' dc ds h
      · rename_i hp
        try rw [hp]
        try dsimp only
        split at h
        · rename_i pc' st' S2 d2 n2 hh
          obtain ⟨e1, e2⟩ := am_heap0 hh c1
          obtain ⟨q, hq, e9⟩ := Option.map_eq_some_iff.mp h
          obtain ⟨q1, q2, q3, q4⟩ := q
          simp only [Prod.mk.injEq] at e9
          obtain ⟨rfl, rfl, rfl, rfl⟩ := e9
          have hS2 : S2 = ((0, none), S2.2) := by rw [← e1]
          rw [hS2] at hq
          obtain ⟨e3, e4⟩ := ih d M pc' l st' S2.2 q1 q2 q3 q4 hq
          rw [e2]
          try dsimp only
          rw [e4]
          exact ⟨e3, rfl⟩
        · rename_i hh
          split at h
          · rename_i r0 hr
            cases h
            rw [am_heap_ret hr]
            exact ⟨rfl, rfl⟩
          · rename_i hr
            split at h
            · cases h
            · rename_i d'
              split at h
              · cases h
              · rename_i i hi
                rw [am_heap_cix hi]
                try dsimp only
                split at h
                · cases h
                · rename_i j hj
                  try rw [hj]
                  try dsimp only
                  split at h
                  · rename_i hj4
                    try rw [if_pos hj4]
                    split at h
                    · rename_i st' S2 hlb
                      obtain ⟨e1, e2⟩ := am_lib0 hlb c1
                      have hS2 : S2 = ((0, none), S2.2) := by rw [← e1]
                      rw [hS2] at h
                      rw [e2]
                      exact ih (d' + 1) M (pc + 3) l st' S2.2 r S' dc ds h
                    · cases h
                  · rename_i hj4
                    try rw [if_neg hj4]
                    split at h
                    · cases h
                    · rename_i M' as rest hown2
                      rw [am_own0 hown2 c1]
                      try dsimp only
                      split at h
                      · cases h
                      · rename_i r1 S1 c2 n2 hrun
                        obtain ⟨e1, e2⟩ := ih d' M' 0 (lv_args 0 as) [] L r1 S1 c2 n2 hrun
                        have hS1 : S1 = ((0, none), S1.2) := by rw [← e1]
                        obtain ⟨q, hq, e9⟩ := Option.map_eq_some_iff.mp h
                        obtain ⟨q1, q2, q3, q4⟩ := q
                        simp only [Prod.mk.injEq] at e9
                        obtain ⟨rfl, rfl, rfl, rfl⟩ := e9
                        rw [hS1] at hq
                        obtain ⟨e3, e4⟩ := ih (d' + 1) M (pc + 3) l (r1.toList ++ rest) S1.2 q1 q2 q3 q4 hq
                        rw [e2]
                        try dsimp only
                        rw [e4]
                        exact ⟨e3, rfl⟩
end
section
/-! more fuel does no harm; a run out of stretches -/
set_option maxHeartbeats 4000000 in
theorem am_run_more {P : List am_M} {cl : List vw_C} {tyL : List (List FieldType)} : ∀ (f d : Nat) (M : am_M) (pc : Nat) (l : am_L) (st : List Value) (S : am_S) (x : Option Value × am_S × Nat × Nat), am_run P cl tyL f d M pc l st S = some x → am_run P cl tyL (f + 1) d M pc l st S = some x := by
  intro f
  induction f with
  | zero =>
    intro d M pc l st S x h
    cases h
  | succ f ih =>
    intro d M pc l st S x h
    unfold am_run at h
    rw [am_run.eq_2]
    split at h
    · cases h
    · rename_i ins len hins
      try rw [hins]
      try dsimp only
      split at h
      · rename_i pc' l' st' hp
        try rw [hp]
        exact ih d M pc' l' st' S x h
      · rename_i hp
        try rw [hp]
        try dsimp only
        split at h
        · rename_i pc' st' S2 d2 n2 hh
          obtain ⟨q, hq, e9⟩ := Option.map_eq_some_iff.mp h
          try rw [hh]
          try dsimp only
          rw [ih d M pc' l st' S2 q hq]
          exact congrArg some e9
        · rename_i hh
          try rw [hh]
          try dsimp only
          split at h
          · rename_i r0 hr
            try rw [hr]
            exact h
          · rename_i hr
            try rw [hr]
            try dsimp only
            split at h
            · cases h
            · rename_i d'
              split at h
              · cases h
              · rename_i i hi
                try rw [hi]
                try dsimp only
                split at h
                · cases h
                · rename_i j hj
                  try rw [hj]
                  try dsimp only
                  split at h
                  · rename_i hj4
                    try rw [if_pos hj4]
                    split at h
                    · rename_i st' S2 hlb
                      try rw [hlb]
                      exact ih (d' + 1) M (pc + 3) l st' S2 x h
                    · cases h
                  · rename_i hj4
                    try rw [if_neg hj4]
                    split at h
                    · cases h
                    · rename_i M' as rest hown2
                      try rw [hown2]
                      try dsimp only
                      split at h
                      · cases h
                      · rename_i r1 S1 c2 n2 hrun
                        rw [ih d' M' 0 (lv_args 0 as) [] S _ hrun]
                        try dsimp only
                        obtain ⟨q, hq, e9⟩ := Option.map_eq_some_iff.mp h
                        rw [ih (d' + 1) M (pc + 3) l (r1.toList ++ rest) S1 q hq]
                        exact congrArg some e9
theorem am_run_le {P : List am_M} {cl : List vw_C} {tyL : List (List FieldType)} {f d : Nat} {M : am_M} {pc : Nat} {l : am_L} {st : List Value} {S : am_S} {x : Option Value × am_S × Nat × Nat} (h : am_run P cl tyL f d M pc l st S = some x) : ∀ g, am_run P cl tyL (f + g) d M pc l st S = some x
  | 0 => h
  | g + 1 => am_run_more _ _ _ _ _ _ _ _ (am_run_le h g)
set_option maxHeartbeats 4000000 in
/-- a step, then a run -/
theorem am_run_one {P : List am_M} {cl : List vw_C} {tyL : List (List FieldType)} {f d : Nat} {M : am_M} {pc : Nat} {l : am_L} {st : List Value} {S : am_S} {pc' : Nat} {l' : am_L} {st' : List Value} {S' : am_S} {dc ds : Nat} {r : Option Value} {S2 : am_S} {c2 n2 : Nat} (h1 : am_one P cl tyL f d M pc l st S = some (pc', l', st', S', dc, ds)) (h2 : am_run P cl tyL f d M pc' l' st' S' = some (r, S2, c2, n2)) : am_run P cl tyL (f + 1) d M pc l st S = some (r, S2, dc + c2, ds + n2) := by
  unfold am_one at h1
  rw [am_run.eq_2]
  split at h1
  · cases h1
  · rename_i ins len hins
    try rw [hins]
    try dsimp only
    split at h1
    · rename_i pc1 l1 st1 hp
      cases h1
      try rw [hp]
      try dsimp only
      rw [h2, Nat.zero_add, Nat.zero_add]
    · rename_i hp
      try rw [hp]
      try dsimp only
      split at h1
      · rename_i pc1 st1 S1 d1 n1 hh
        cases h1
        try rw [hh]
        try dsimp only
        rw [h2]
        rfl
      · rename_i hh
        try rw [hh]
        try dsimp only
        split at h1
        · cases h1
        · rename_i d'
          split at h1
          · cases h1
          · rename_i i hi
            have hr : am_ret M.2.2.2.1 ins len st = none := by
              unfold am_cix at hi
              split at hi
              · rfl
              · rfl
              · rfl
              · cases hi
            rw [hr]
            try dsimp only
            try rw [hi]
            try dsimp only
            have h2' : am_run P cl tyL f (d' + 1) M pc' l' st' S' = some (r, S2, c2, n2) := h2
            split at h1
            · cases h1
            · rename_i j hj
              try rw [hj]
              try dsimp only
              split at h1
              · rename_i hj4
                try rw [if_pos hj4]
                split at h1
                · rename_i st1 S1 hlb
                  cases h1
                  try rw [hlb]
                  try dsimp only
                  rw [h2', Nat.zero_add, Nat.zero_add]
                · cases h1
              · rename_i hj4
                try rw [if_neg hj4]
                split at h1
                · cases h1
                · rename_i M' as rest hown2
                  try rw [hown2]
                  try dsimp only
                  split at h1
                  · cases h1
                  · rename_i r1 S1 c1 n1 hrun
                    cases h1
                    try rw [hrun]
                    try dsimp only
                    rw [h2']
                    rfl
theorem am_one_more {P : List am_M} {cl : List vw_C} {tyL : List (List FieldType)} {f d : Nat} {M : am_M} {pc : Nat} {l : am_L} {st : List Value} {S : am_S} {x : Nat × am_L × List Value × am_S × Nat × Nat} (h : am_one P cl tyL f d M pc l st S = some x) : am_one P cl tyL (f + 1) d M pc l st S = some x := by
  unfold am_one at h ⊢
  split at h
  · cases h
  · rename_i ins len hins
    try rw [hins]
    try dsimp only
    split at h
    · rename_i hp
      try rw [hp]
      exact h
    · rename_i hp
      try rw [hp]
      try dsimp only
      split at h
      · rename_i hh
        try rw [hh]
        exact h
      · rename_i hh
        try rw [hh]
        try dsimp only
        split at h
        · cases h
        · rename_i d'
          split at h
          · cases h
          · rename_i i hi
            try rw [hi]
            try dsimp only
            split at h
            · cases h
            · rename_i j hj
              try rw [hj]
              try dsimp only
              split at h
              · rename_i hj4
                try rw [if_pos hj4]
                exact h
              · rename_i hj4
                try rw [if_neg hj4]
                split at h
                · cases h
                · rename_i M' as rest hown2
                  try rw [hown2]
                  try dsimp only
                  split at h
                  · cases h
                  · rename_i r1 S1 c1 n1 hrun
                    rw [am_run_more _ _ _ _ _ _ _ _ hrun]
                    exact h
theorem am_one_le {P : List am_M} {cl : List vw_C} {tyL : List (List FieldType)} {f d : Nat} {M : am_M} {pc : Nat} {l : am_L} {st : List Value} {S : am_S} {x : Nat × am_L × List Value × am_S × Nat × Nat} (h : am_one P cl tyL f d M pc l st S = some x) : ∀ g, am_one P cl tyL (f + g) d M pc l st S = some x
  | 0 => h
  | g + 1 => am_one_more (am_one_le h g)
theorem am_run_many {P : List am_M} {cl : List vw_C} {tyL : List (List FieldType)} {f d : Nat} {M : am_M} : ∀ (n : Nat) {pc : Nat} {l : am_L} {st : List Value} {S : am_S} {pc' : Nat} {l' : am_L} {st' : List Value} {S' : am_S} {dc ds : Nat} {r : Option Value} {S2 : am_S} {c2 n2 : Nat}, am_many P cl tyL f d M n pc l st S = some (pc', l', st', S', dc, ds) → am_run P cl tyL f d M pc' l' st' S' = some (r, S2, c2, n2) → ∃ g, am_run P cl tyL (f + g) d M pc l st S = some (r, S2, dc + c2, ds + n2) := by
  intro n
  induction n with
  | zero =>
    intro pc l st S pc' l' st' S' dc ds r S2 c2 n2 h1 h2
    cases h1
    exact ⟨0, by rw [Nat.zero_add, Nat.zero_add]; exact h2⟩
  | succ n ih =>
    intro pc l st S pc' l' st' S' dc ds r S2 c2 n2 h1 h2
    unfold am_many at h1
    split at h1
    · cases h1
    · rename_i pc1 l1 st1 S1 d1 n1 ho
      split at h1
      · cases h1
      · rename_i pc3 l3 st3 S3 d3 n3 hm
        cases h1
        obtain ⟨g, hg⟩ := ih hm h2
        refine ⟨g + 1, ?_⟩
        have h9 := am_run_one (am_one_le ho g) hg
        rw [Nat.add_assoc, Nat.add_assoc]
        exact h9
/-- a call whose run is known -/
theorem am_one_call {P : List am_M} {cl : List vw_C} {tyL : List (List FieldType)} {f d : Nat} {M : am_M} {pc : Nat} {l : am_L} {st : List Value} {S : am_S} {ins : Instr} {i j : Nat} {M' : am_M} {as rest : List Value} {r : Option Value} {S1 : am_S} {c1 n1 : Nat} (hf : am_find pc M.2.2.2.2.2.1 = some (ins, 3)) (hi : am_cix ins 3 = some i) (hj : am_find i M.2.2.2.2.1.2.2.2.2.2 = some (j + 4)) (ho : am_own P j ins st S = some (M', as, rest)) (hr : am_run P cl tyL f d M' 0 (lv_args 0 as) [] S = some (r, S1, c1, n1)) : am_one P cl tyL f (d + 1) M pc l st S = some (pc + 3, l, r.toList ++ rest, S1, c1, n1) := by
  have hp : am_pure M.2.2.1 ins 3 pc l st = none := by
    unfold am_cix at hi
    split at hi
    · rfl
    · rfl
    · rfl
    · cases hi
  unfold am_one
  rw [hf]
  dsimp only
  rw [hp]
  dsimp only
  rw [am_heap_cix hi]
  dsimp only
  rw [hi]
  dsimp only
  rw [hj]
  dsimp only
  rw [if_neg (by omega), Nat.add_sub_cancel, ho]
  dsimp only
  rw [hr]
theorem am_many_le {P : List am_M} {cl : List vw_C} {tyL : List (List FieldType)} {f d : Nat} {M : am_M} : ∀ {n : Nat} {pc : Nat} {l : am_L} {st : List Value} {S : am_S} {x : Nat × am_L × List Value × am_S × Nat × Nat}, am_many P cl tyL f d M n pc l st S = some x → ∀ g, am_many P cl tyL (f + g) d M n pc l st S = some x := by
  intro n
  induction n with
  | zero =>
    intro pc l st S x h g
    exact h
  | succ n ih =>
    intro pc l st S x h g
    unfold am_many at h ⊢
    split at h
    · cases h
    · rename_i pc1 l1 st1 S1 d1 n1 ho
      rw [am_one_le ho g]
      dsimp only
      split at h
      · cases h
      · rename_i pc2 l2 st2 S2 d2 n2 hm
        rw [ih hm g]
        exact h
end
section
/-! stores compared by program -/
def am_eqE : am_E → am_E → Bool
  | .inl (t, n, d, u), .inl (t', n', d', u') => decide (t = t') && (decide (n = n') && (decide (d = d') && decide (u = u')))
  | .inr (k, fs), .inr (k', fs') => decide (k = k') && decide (fs = fs')
  | _, _ => false
theorem am_eqE_of : ∀ {a b : am_E}, am_eqE a b = true → a = b
  | .inl (t, n, d, u), .inl (t', n', d', u'), h => by
    simp only [am_eqE, Bool.and_eq_true, decide_eq_true_eq] at h
    obtain ⟨rfl, rfl, rfl, rfl⟩ := h
    rfl
  | .inr (k, fs), .inr (k', fs'), h => by
    simp only [am_eqE, Bool.and_eq_true, decide_eq_true_eq] at h
    obtain ⟨rfl, rfl⟩ := h
    rfl
  | .inl _, .inr _, h => by simp [am_eqE] at h
  | .inr _, .inl _, h => by simp [am_eqE] at h
def am_eqC : am_C → am_C → Bool
  | (z, some x), (z', some x') => decide (z = z') && am_eqE x x'
  | (z, none), (z', none) => decide (z = z')
  | _, _ => false
theorem am_eqC_of : ∀ {a b : am_C}, am_eqC a b = true → a = b
  | (z, some x), (z', some x'), h => by
    simp only [am_eqC, Bool.and_eq_true, decide_eq_true_eq] at h
    obtain ⟨rfl, h⟩ := h
    rw [am_eqE_of h]
  | (z, none), (z', none), h => by
    simp only [am_eqC, decide_eq_true_eq] at h
    rw [h]
  | (_, some _), (_, none), h => by simp [am_eqC] at h
  | (_, none), (_, some _), h => by simp [am_eqC] at h
def am_eqL : List am_C → List am_C → Bool
  | [], [] => true
  | x :: xs, y :: ys => am_eqC x y && am_eqL xs ys
  | _, _ => false
theorem am_eqL_of : ∀ {a b : List am_C}, am_eqL a b = true → a = b
  | [], [], _ => rfl
  | x :: xs, y :: ys, h => by
    simp only [am_eqL, Bool.and_eq_true] at h
    rw [am_eqC_of h.1, am_eqL_of h.2]
  | [], _ :: _, h => by simp [am_eqL] at h
  | _ :: _, [], h => by simp [am_eqL] at h
/-- a run's outcome is just this -/
def am_is (q : Option (Option Value × am_S × Nat × Nat)) (r : Option Value) (S : am_S) (c n : Nat) : Bool := match q with
  | some (r', (c0, k, L), c', n') => decide (r' = r) && (am_eqC c0 S.1 && (decide (k = S.2.1) && (am_eqL L S.2.2 && (decide (c' = c) && decide (n' = n)))))
  | none => false
theorem am_is_of {q : Option (Option Value × am_S × Nat × Nat)} {r : Option Value} {S : am_S} {c n : Nat} (h : am_is q r S c n = true) : q = some (r, S, c, n) := by
  unfold am_is at h
  split at h
  · simp only [Bool.and_eq_true, decide_eq_true_eq] at h
    obtain ⟨h1, h2, h3, h4, h5, h6⟩ := h
    rw [h1, am_eqC_of h2, h3, am_eqL_of h4, h5, h6]
  · cases h
/-- a stretch's outcome is just this -/
def am_isM (q : Option (Nat × am_L × List Value × am_S × Nat × Nat)) (pc : Nat) (l : am_L) (st : List Value) (S : am_S) (c n : Nat) : Bool := match q with
  | some (pc', l', st', (c0, k, L), c', n') => decide (pc' = pc) && (decide (l' = l) && (decide (st' = st) && (am_eqC c0 S.1 && (decide (k = S.2.1) && (am_eqL L S.2.2 && (decide (c' = c) && decide (n' = n)))))))
  | none => false
theorem am_isM_of {q : Option (Nat × am_L × List Value × am_S × Nat × Nat)} {pc : Nat} {l : am_L} {st : List Value} {S : am_S} {c n : Nat} (h : am_isM q pc l st S c n = true) : q = some (pc, l, st, S, c, n) := by
  unfold am_isM at h
  split at h
  · simp only [Bool.and_eq_true, decide_eq_true_eq] at h
    obtain ⟨h1, h2, h3, h4, h5, h6, h7, h8⟩ := h
    rw [h1, h2, h3, am_eqC_of h4, h5, am_eqL_of h6, h7, h8]
  · cases h
end
section
/-! the claim's classes: names, fields (declarer, name, descriptor, final), types -/
def at_F0 : List (String × String × String × Bool) := [("EquationProofs", "tape", "LEquationProofs$Tape;", true), ("EquationProofs", "program", "LEquationProofs$Program;", true), ("EquationProofs", "reader", "LEquationProofs$Reader;", true), ("EquationProofs", "printer", "LEquationProofs$Printer;", true), ("EquationProofs", "rewriter", "LEquationProofs$Rewriter;", true), ("EquationProofs", "trial", "LEquationProofs$Trial;", true), ("EquationProofs", "prover", "LEquationProofs$Prover;", true), ("EquationProofs", "worked", "LEquationProofs$Term;", true), ("EquationProofs", "stepsTaken", "I", false)]
def at_Y0 : List FieldType := [.object "EquationProofs$Tape", .object "EquationProofs$Program", .object "EquationProofs$Reader", .object "EquationProofs$Printer", .object "EquationProofs$Rewriter", .object "EquationProofs$Trial", .object "EquationProofs$Prover", .object "EquationProofs$Term", .int]
def at_F1 : List (String × String × String × Bool) := [("EquationProofs$Tape", "bytes", "[I", true), ("EquationProofs$Tape", "length", "I", false), ("EquationProofs$Tape", "tokens", "[I", true), ("EquationProofs$Tape", "starts", "[I", true), ("EquationProofs$Tape", "names", "[J", true), ("EquationProofs$Tape", "tokenCount", "I", false)]
def at_Y1 : List FieldType := [.array .int, .int, .array .int, .array .int, .array .long, .int]
def at_F2 : List (String × String × String × Bool) := [("EquationProofs$Program", "types", "LEquationProofs$Symbols;", true), ("EquationProofs$Program", "constructors", "LEquationProofs$Symbols;", true), ("EquationProofs$Program", "functions", "LEquationProofs$Symbols;", true), ("EquationProofs$Program", "rules", "[LEquationProofs$Equation;", true), ("EquationProofs$Program", "laws", "[LEquationProofs$Equation;", true), ("EquationProofs$Program", "ruleCount", "I", false), ("EquationProofs$Program", "lawCount", "I", false)]
def at_Y2 : List FieldType := [.object "EquationProofs$Symbols", .object "EquationProofs$Symbols", .object "EquationProofs$Symbols", .array (.object "EquationProofs$Equation"), .array (.object "EquationProofs$Equation"), .int, .int]
def at_F3 : List (String × String × String × Bool) := [("EquationProofs$Symbols", "names", "[J", true), ("EquationProofs$Symbols", "types", "[I", true), ("EquationProofs$Symbols", "arities", "[I", true), ("EquationProofs$Symbols", "arguments", "[I", true), ("EquationProofs$Symbols", "count", "I", false)]
def at_Y3 : List FieldType := [.array .long, .array .int, .array .int, .array .int, .int]
def at_F4 : List (String × String × String × Bool) := [("EquationProofs$Equation", "left", "LEquationProofs$Term;", true), ("EquationProofs$Equation", "right", "LEquationProofs$Term;", true), ("EquationProofs$Equation", "types", "[I", true), ("EquationProofs$Equation", "variables", "I", false), ("EquationProofs$Equation", "owner", "I", false), ("EquationProofs$Equation", "name", "J", false), ("EquationProofs$Equation", "proved", "I", false)]
def at_Y4 : List FieldType := [.object "EquationProofs$Term", .object "EquationProofs$Term", .array .int, .int, .int, .long, .int]
def at_F5 : List (String × String × String × Bool) := [("EquationProofs$Term", "codes", "[I", true), ("EquationProofs$Term", "size", "I", false)]
def at_Y5 : List FieldType := [.array .int, .int]
def at_F6 : List (String × String × String × Bool) := [("EquationProofs$Reader", "tape", "LEquationProofs$Tape;", true), ("EquationProofs$Reader", "program", "LEquationProofs$Program;", true), ("EquationProofs$Reader", "names", "[J", true), ("EquationProofs$Reader", "at", "I", false), ("EquationProofs$Reader", "faultKind", "I", false), ("EquationProofs$Reader", "faultPlace", "I", false), ("EquationProofs$Reader", "mode", "I", false), ("EquationProofs$Reader", "equation", "LEquationProofs$Equation;", false), ("EquationProofs$Reader", "term", "LEquationProofs$Term;", false), ("EquationProofs$Reader", "variables", "I", false)]
def at_Y6 : List FieldType := [.object "EquationProofs$Tape", .object "EquationProofs$Program", .array .long, .int, .int, .int, .int, .object "EquationProofs$Equation", .object "EquationProofs$Term", .int]
def at_F7 : List (String × String × String × Bool) := [("EquationProofs$Printer", "program", "LEquationProofs$Program;", true), ("EquationProofs$Printer", "bytes", "[I", true), ("EquationProofs$Printer", "missing", "[I", true), ("EquationProofs$Printer", "length", "I", false)]
def at_Y7 : List FieldType := [.object "EquationProofs$Program", .array .int, .array .int, .int]
def at_F8 : List (String × String × String × Bool) := [("EquationProofs$Rewriter", "program", "LEquationProofs$Program;", true), ("EquationProofs$Rewriter", "bound", "[I", true), ("EquationProofs$Rewriter", "undefined", "LEquationProofs$Term;", true), ("EquationProofs$Rewriter", "next", "LEquationProofs$Term;", true), ("EquationProofs$Rewriter", "outcome", "LEquationProofs$Term;", false), ("EquationProofs$Rewriter", "waitsAt", "I", false), ("EquationProofs$Rewriter", "taken", "I", false)]
def at_Y8 : List FieldType := [.object "EquationProofs$Program", .array .int, .object "EquationProofs$Term", .object "EquationProofs$Term", .object "EquationProofs$Term", .int, .int]
def at_F9 : List (String × String × String × Bool) := [("EquationProofs$Trial", "program", "LEquationProofs$Program;", true), ("EquationProofs$Trial", "rewriter", "LEquationProofs$Rewriter;", true), ("EquationProofs$Trial", "valueCounts", "[I", true), ("EquationProofs$Trial", "tupleCounts", "[I", true), ("EquationProofs$Trial", "totals", "[I", true), ("EquationProofs$Trial", "values", "[LEquationProofs$Term;", true), ("EquationProofs$Trial", "toldValues", "[LEquationProofs$Term;", true), ("EquationProofs$Trial", "left", "LEquationProofs$Term;", true), ("EquationProofs$Trial", "right", "LEquationProofs$Term;", true), ("EquationProofs$Trial", "withUndefined", "Z", false), ("EquationProofs$Trial", "toldCount", "I", false)]
def at_Y9 : List FieldType := [.object "EquationProofs$Program", .object "EquationProofs$Rewriter", .array .int, .array .int, .array .int, .array (.object "EquationProofs$Term"), .array (.object "EquationProofs$Term"), .object "EquationProofs$Term", .object "EquationProofs$Term", .boolean, .int]
def at_F10 : List (String × String × String × Bool) := [("EquationProofs$Prover", "program", "LEquationProofs$Program;", true), ("EquationProofs$Prover", "rewriter", "LEquationProofs$Rewriter;", true), ("EquationProofs$Prover", "proof", "LEquationProofs$Proof;", true), ("EquationProofs$Prover", "kept", "LEquationProofs$Proof;", true), ("EquationProofs$Prover", "spare", "[LEquationProofs$Goal;", true), ("EquationProofs$Prover", "rewritten", "LEquationProofs$Term;", true), ("EquationProofs$Prover", "from", "LEquationProofs$Term;", false), ("EquationProofs$Prover", "into", "LEquationProofs$Term;", false), ("EquationProofs$Prover", "free", "J", false), ("EquationProofs$Prover", "limited", "J", false), ("EquationProofs$Prover", "types", "[I", false), ("EquationProofs$Prover", "target", "LEquationProofs$Term;", true), ("EquationProofs$Prover", "instead", "LEquationProofs$Term;", true), ("EquationProofs$Prover", "splitVariable", "I", false), ("EquationProofs$Prover", "splitType", "I", false), ("EquationProofs$Prover", "splitFree", "J", false), ("EquationProofs$Prover", "inducing", "Z", false), ("EquationProofs$Prover", "newFixed", "Z", false), ("EquationProofs$Prover", "newSure", "Z", false)]
def at_Y10 : List FieldType := [.object "EquationProofs$Program", .object "EquationProofs$Rewriter", .object "EquationProofs$Proof", .object "EquationProofs$Proof", .array (.object "EquationProofs$Goal"), .object "EquationProofs$Term", .object "EquationProofs$Term", .object "EquationProofs$Term", .long, .long, .array .int, .object "EquationProofs$Term", .object "EquationProofs$Term", .int, .int, .long, .boolean, .boolean, .boolean]
def at_F11 : List (String × String × String × Bool) := [("EquationProofs$Proof", "goals", "[LEquationProofs$Goal;", true), ("EquationProofs$Proof", "types", "[I", true), ("EquationProofs$Proof", "open", "I", false), ("EquationProofs$Proof", "rows", "I", false), ("EquationProofs$Proof", "law", "I", false), ("EquationProofs$Proof", "full", "Z", false), ("EquationProofs$Proof", "variables", "I", false), ("EquationProofs$Proof", "sure", "J", false)]
def at_Y11 : List FieldType := [.array (.object "EquationProofs$Goal"), .array .int, .int, .int, .int, .boolean, .int, .long]
def at_F12 : List (String × String × String × Bool) := [("EquationProofs$Goal", "terms", "[LEquationProofs$Term;", true), ("EquationProofs$Goal", "free", "[J", true), ("EquationProofs$Goal", "hypotheses", "I", false), ("EquationProofs$Goal", "fixed", "J", false), ("EquationProofs$Goal", "splits", "I", false)]
def at_Y12 : List FieldType := [.array (.object "EquationProofs$Term"), .array .long, .int, .long, .int]
def at_F13 : List (String × String × String × Bool) := [("EquationProofsModel", "thrown", "I", false), ("EquationProofsModel", "types", "I", false), ("EquationProofsModel", "typeName", "[J", true), ("EquationProofsModel", "cons", "I", false), ("EquationProofsModel", "conName", "[J", true), ("EquationProofsModel", "conType", "[I", true), ("EquationProofsModel", "conArity", "[I", true), ("EquationProofsModel", "conArg", "[I", true), ("EquationProofsModel", "funs", "I", false), ("EquationProofsModel", "funName", "[J", true), ("EquationProofsModel", "funArity", "[I", true), ("EquationProofsModel", "funArg", "[I", true), ("EquationProofsModel", "funType", "[I", true), ("EquationProofsModel", "rules", "I", false), ("EquationProofsModel", "ruleFun", "[I", true), ("EquationProofsModel", "ruleLeft", "[I", true), ("EquationProofsModel", "ruleLeftSize", "[I", true), ("EquationProofsModel", "ruleRight", "[I", true), ("EquationProofsModel", "ruleRightSize", "[I", true), ("EquationProofsModel", "laws", "I", false), ("EquationProofsModel", "lawName", "[J", true), ("EquationProofsModel", "lawSide", "[I", true), ("EquationProofsModel", "lawSize", "[I", true), ("EquationProofsModel", "lawType", "[I", true), ("EquationProofsModel", "lawVars", "[I", true), ("EquationProofsModel", "lawVarType", "[I", true), ("EquationProofsModel", "proved", "[I", true), ("EquationProofsModel", "tape", "[B", true), ("EquationProofsModel", "tapeSize", "I", false), ("EquationProofsModel", "size", "I", false), ("EquationProofsModel", "at", "I", false), ("EquationProofsModel", "token", "I", false), ("EquationProofsModel", "start", "I", false), ("EquationProofsModel", "name", "J", false), ("EquationProofsModel", "faultKind", "I", false), ("EquationProofsModel", "wrongKind", "I", false), ("EquationProofsModel", "wrongPlace", "I", false), ("EquationProofsModel", "varName", "[J", true), ("EquationProofsModel", "varType", "[I", true), ("EquationProofsModel", "vars", "I", false), ("EquationProofsModel", "names", "I", false), ("EquationProofsModel", "open", "I", false), ("EquationProofsModel", "read", "[I", true), ("EquationProofsModel", "readSize", "I", false), ("EquationProofsModel", "sort", "I", false), ("EquationProofsModel", "outer", "[I", true), ("EquationProofsModel", "outerNow", "[I", true), ("EquationProofsModel", "outers", "I", false), ("EquationProofsModel", "bracketType", "[I", true), ("EquationProofsModel", "bindAt", "[I", true), ("EquationProofsModel", "waitAt", "I", false), ("EquationProofsModel", "fitting", "I", false), ("EquationProofsModel", "made", "[I", true), ("EquationProofsModel", "madeSize", "I", false), ("EquationProofsModel", "term", "[I", true), ("EquationProofsModel", "termSize", "I", false), ("EquationProofsModel", "taken", "I", false), ("EquationProofsModel", "lastSteps", "I", false), ("EquationProofsModel", "out", "[B", true), ("EquationProofsModel", "outSize", "I", false), ("EquationProofsModel", "lacks", "[I", true), ("EquationProofsModel", "closes", "[Z", true), ("EquationProofsModel", "value", "[I", true), ("EquationProofsModel", "valueSize", "[I", true), ("EquationProofsModel", "valueCount", "[I", true), ("EquationProofsModel", "amount", "[J", true), ("EquationProofsModel", "firstOf", "[I", true), ("EquationProofsModel", "toldLaw", "I", false), ("EquationProofsModel", "toldAt", "[I", true), ("EquationProofsModel", "toldValues", "[I", true), ("EquationProofsModel", "toldNow", "[I", true), ("EquationProofsModel", "other", "[I", true), ("EquationProofsModel", "otherSize", "I", false), ("EquationProofsModel", "one", "[I", true), ("EquationProofsModel", "proof", "I", false), ("EquationProofsModel", "full", "Z", false), ("EquationProofsModel", "rowsDone", "I", false), ("EquationProofsModel", "goals", "I", false), ("EquationProofsModel", "order", "[I", true), ("EquationProofsModel", "used", "[Z", true), ("EquationProofsModel", "side", "[I", true), ("EquationProofsModel", "sideSize", "[I", true), ("EquationProofsModel", "gType", "[I", true), ("EquationProofsModel", "gFixed", "[J", true), ("EquationProofsModel", "gDepth", "[I", true), ("EquationProofsModel", "gHyps", "[I", true), ("EquationProofsModel", "hyps", "[I", true), ("EquationProofsModel", "hyp", "[I", true), ("EquationProofsModel", "hypSize", "[I", true), ("EquationProofsModel", "variables", "I", false), ("EquationProofsModel", "vType", "[I", true), ("EquationProofsModel", "vSure", "[Z", true), ("EquationProofsModel", "now", "[I", true), ("EquationProofsModel", "nowSize", "I", false), ("EquationProofsModel", "fresh", "[I", true), ("EquationProofsModel", "freshCount", "I", false), ("EquationProofsModel", "freeAt", "[I", true), ("EquationProofsModel", "lawUsed", "I", false), ("EquationProofsModel", "stand", "[I", true), ("EquationProofsModel", "standSize", "I", false), ("EquationProofsModel", "call", "[I", true), ("EquationProofsModel", "callSize", "I", false), ("EquationProofsModel", "kSide", "[I", true), ("EquationProofsModel", "kSideSize", "[I", true), ("EquationProofsModel", "kType", "[I", true), ("EquationProofsModel", "kFixed", "[J", true), ("EquationProofsModel", "kDepth", "[I", true), ("EquationProofsModel", "kHyps", "[I", true), ("EquationProofsModel", "kHyp", "[I", true), ("EquationProofsModel", "kHypSize", "[I", true), ("EquationProofsModel", "kOrder", "[I", true), ("EquationProofsModel", "kUsed", "[Z", true), ("EquationProofsModel", "kGoals", "I", false), ("EquationProofsModel", "kVariables", "I", false), ("EquationProofsModel", "kRows", "I", false)]
def at_Y13 : List FieldType := [.int, .int, .array .long, .int, .array .long, .array .int, .array .int, .array .int, .int, .array .long, .array .int, .array .int, .array .int, .int, .array .int, .array .int, .array .int, .array .int, .array .int, .int, .array .long, .array .int, .array .int, .array .int, .array .int, .array .int, .array .int, .array .byte, .int, .int, .int, .int, .int, .long, .int, .int, .int, .array .long, .array .int, .int, .int, .int, .array .int, .int, .int, .array .int, .array .int, .int, .array .int, .array .int, .int, .int, .array .int, .int, .array .int, .int, .int, .int, .array .byte, .int, .array .int, .array .boolean, .array .int, .array .int, .array .int, .array .long, .array .int, .int, .array .int, .array .int, .array .int, .array .int, .int, .array .int, .int, .boolean, .int, .int, .array .int, .array .boolean, .array .int, .array .int, .array .int, .array .long, .array .int, .array .int, .array .int, .array .int, .array .int, .int, .array .int, .array .boolean, .array .int, .int, .array .int, .int, .array .int, .int, .array .int, .int, .array .int, .int, .array .int, .array .int, .array .int, .array .long, .array .int, .array .int, .array .int, .array .int, .array .int, .array .boolean, .int, .int, .int]
def at_cl : List vw_C := [("EquationProofs", (fun k => at_F0.getD k ("", "", "", false)), 9), ("EquationProofs$Tape", (fun k => at_F1.getD k ("", "", "", false)), 6), ("EquationProofs$Program", (fun k => at_F2.getD k ("", "", "", false)), 7), ("EquationProofs$Symbols", (fun k => at_F3.getD k ("", "", "", false)), 5), ("EquationProofs$Equation", (fun k => at_F4.getD k ("", "", "", false)), 7), ("EquationProofs$Term", (fun k => at_F5.getD k ("", "", "", false)), 2), ("EquationProofs$Reader", (fun k => at_F6.getD k ("", "", "", false)), 10), ("EquationProofs$Printer", (fun k => at_F7.getD k ("", "", "", false)), 4), ("EquationProofs$Rewriter", (fun k => at_F8.getD k ("", "", "", false)), 7), ("EquationProofs$Trial", (fun k => at_F9.getD k ("", "", "", false)), 11), ("EquationProofs$Prover", (fun k => at_F10.getD k ("", "", "", false)), 19), ("EquationProofs$Proof", (fun k => at_F11.getD k ("", "", "", false)), 8), ("EquationProofs$Goal", (fun k => at_F12.getD k ("", "", "", false)), 5), ("EquationProofsModel", (fun k => at_F13.getD k ("", "", "", false)), 115)]
def at_ty : List (List FieldType) := [at_Y0, at_Y1, at_Y2, at_Y3, at_Y4, at_Y5, at_Y6, at_Y7, at_Y8, at_Y9, at_Y10, at_Y11, at_Y12, at_Y13]
end
section
/-! the methods -/
/-- EquationProofs.<init>()V -/
def mt_0 : am_M := (⟨"EquationProofs", "<init>", "()V"⟩, prog_1_method_1_code, 1, none, ([(10, 0, 0), (19, 0, 1), (44, 0, 4)], [(10, 0, 0), (19, 0, 1), (28, 0, 2), (37, 0, 3), (44, 0, 4), (53, 0, 5), (60, 0, 6), (69, 0, 7)], [(7, 1), (16, 2), (23, 6), (32, 7), (41, 8), (48, 9), (57, 10), (64, 5)], [], [], [(1, 0), (9, 29), (18, 38), (25, 65), (34, 91), (43, 97), (50, 105), (59, 118), (66, 51)]), [(0, .aload_n 0, 1), (1, .invokespecial 1, 3), (4, .aload_n 0, 1), (5, .new 7, 3), (8, .dup, 1), (9, .invokespecial 9, 3), (12, .putfield 10, 3), (15, .aload_n 0, 1), (16, .new 16, 3), (19, .dup, 1), (20, .invokespecial 18, 3), (23, .putfield 19, 3), (26, .aload_n 0, 1), (27, .new 23, 3), (30, .dup, 1), (31, .aload_n 0, 1), (32, .getfield 10, 3), (35, .aload_n 0, 1), (36, .getfield 19, 3), (39, .invokespecial 25, 3), (42, .putfield 28, 3), (45, .aload_n 0, 1), (46, .new 32, 3), (49, .dup, 1), (50, .aload_n 0, 1), (51, .getfield 19, 3), (54, .invokespecial 34, 3), (57, .putfield 37, 3), (60, .aload_n 0, 1), (61, .new 41, 3), (64, .dup, 1), (65, .aload_n 0, 1), (66, .getfield 19, 3), (69, .invokespecial 43, 3), (72, .putfield 44, 3), (75, .aload_n 0, 1), (76, .new 48, 3), (79, .dup, 1), (80, .aload_n 0, 1), (81, .getfield 19, 3), (84, .aload_n 0, 1), (85, .getfield 44, 3), (88, .invokespecial 50, 3), (91, .putfield 53, 3), (94, .aload_n 0, 1), (95, .new 57, 3), (98, .dup, 1), (99, .aload_n 0, 1), (100, .getfield 19, 3), (103, .aload_n 0, 1), (104, .getfield 44, 3), (107, .invokespecial 59, 3), (110, .putfield 60, 3), (113, .aload_n 0, 1), (114, .new 64, 3), (117, .dup, 1), (118, .bipush 120, 2), (120, .invokespecial 66, 3), (123, .putfield 69, 3), (126, .return_, 1)], 0, 2000)
/-- EquationProofs.feed(IIIII)I -/
def mt_1 : am_M := (⟨"EquationProofs", "feed", "(IIIII)I"⟩, prog_1_method_2_code, 6, (some .int), ([(10, 0, 0), (73, 1, 1)], [], [], [], [], [(84, 30)]), [(0, .aload_n 0, 1), (1, .getfield 10, 3), (4, .getfield 73, 3), (7, .sipush 980, 3), (10, .if_icmp .le 13, 3), (13, .new 77, 3), (16, .dup, 1), (17, .ldc 79, 2), (19, .invokespecial 81, 3), (22, .athrow, 1), (23, .aload_n 0, 1), (24, .getfield 10, 3), (27, .iload_n 1, 1), (28, .invokevirtual 84, 3), (31, .aload_n 0, 1), (32, .getfield 10, 3), (35, .iload_n 2, 1), (36, .invokevirtual 84, 3), (39, .aload_n 0, 1), (40, .getfield 10, 3), (43, .iload_n 3, 1), (44, .invokevirtual 84, 3), (47, .aload_n 0, 1), (48, .getfield 10, 3), (51, .iload 4, 2), (53, .invokevirtual 84, 3), (56, .aload_n 0, 1), (57, .getfield 10, 3), (60, .iload 5, 2), (62, .invokevirtual 84, 3), (65, .aload_n 0, 1), (66, .getfield 10, 3), (69, .getfield 73, 3), (72, .ireturn, 1)], 5, 0)
/-- EquationProofs.end(I)V -/
def mt_2 : am_M := (⟨"EquationProofs", "end", "(I)V"⟩, prog_1_method_3_code, 2, none, ([(10, 0, 0), (73, 1, 1)], [(73, 1, 1)], [], [], [], []), [(0, .iload_n 1, 1), (1, .ifCond .lt 14, 3), (4, .iload_n 1, 1), (5, .aload_n 0, 1), (6, .getfield 10, 3), (9, .getfield 73, 3), (12, .if_icmp .le 13, 3), (15, .new 87, 3), (18, .dup, 1), (19, .ldc 89, 2), (21, .invokespecial 91, 3), (24, .athrow, 1), (25, .aload_n 0, 1), (26, .getfield 10, 3), (29, .iload_n 1, 1), (30, .putfield 73, 3), (33, .return_, 1)], 1, 0)
/-- EquationProofs.read()I -/
def mt_3 : am_M := (⟨"EquationProofs", "read", "()I"⟩, prog_1_method_4_code, 2, (some .int), ([(28, 0, 2), (10, 0, 0), (60, 0, 6), (96, 10, 2)], [(73, 1, 1)], [], [], [], [(92, 66), (100, 148)]), [(0, .aload_n 0, 1), (1, .getfield 28, 3), (4, .invokevirtual 92, 3), (7, .istore_n 1, 1), (8, .aload_n 0, 1), (9, .getfield 10, 3), (12, .iconst 0, 1), (13, .putfield 73, 3), (16, .iload_n 1, 1), (17, .ifCond .lt 13, 3), (20, .aload_n 0, 1), (21, .getfield 60, 3), (24, .getfield 96, 3), (27, .invokevirtual 100, 3), (30, .iload_n 1, 1), (31, .ireturn, 1)], 0, 0)
/-- EquationProofs.fault()I -/
def mt_4 : am_M := (⟨"EquationProofs", "fault", "()I"⟩, prog_1_method_5_code, 1, (some .int), ([(28, 0, 2), (105, 6, 4)], [], [], [], [], []), [(0, .aload_n 0, 1), (1, .getfield 28, 3), (4, .getfield 105, 3), (7, .ireturn, 1)], 0, 0)
/-- EquationProofs.count(I)I -/
def mt_5 : am_M := (⟨"EquationProofs", "count", "(I)I"⟩, prog_1_method_6_code, 3, (some .int), ([(60, 0, 6), (96, 10, 2), (19, 0, 1), (108, 2, 0), (112, 3, 4), (117, 2, 1), (120, 2, 2), (123, 2, 5), (126, 2, 6), (129, 11, 2), (132, 11, 3), (135, 11, 0), (139, 12, 2)], [], [], [], [], []), [(0, .aload_n 0, 1), (1, .getfield 60, 3), (4, .getfield 96, 3), (7, .astore_n 2, 1), (8, .iload_n 1, 1), (9, .tableswitch 127 0 7 #[47, 58, 69, 80, 88, 96, 101, 106], 47), (56, .aload_n 0, 1), (57, .getfield 19, 3), (60, .getfield 108, 3), (63, .getfield 112, 3), (66, .ireturn, 1), (67, .aload_n 0, 1), (68, .getfield 19, 3), (71, .getfield 117, 3), (74, .getfield 112, 3), (77, .ireturn, 1), (78, .aload_n 0, 1), (79, .getfield 19, 3), (82, .getfield 120, 3), (85, .getfield 112, 3), (88, .ireturn, 1), (89, .aload_n 0, 1), (90, .getfield 19, 3), (93, .getfield 123, 3), (96, .ireturn, 1), (97, .aload_n 0, 1), (98, .getfield 19, 3), (101, .getfield 126, 3), (104, .ireturn, 1), (105, .aload_n 2, 1), (106, .getfield 129, 3), (109, .ireturn, 1), (110, .aload_n 2, 1), (111, .getfield 132, 3), (114, .ireturn, 1), (115, .aload_n 2, 1), (116, .getfield 129, 3), (119, .ifCond .le 15, 3), (122, .aload_n 2, 1), (123, .getfield 135, 3), (126, .iconst 0, 1), (127, .aaload, 1), (128, .getfield 139, 3), (131, .goto 4, 3), (134, .iconst 0, 1), (135, .ireturn, 1), (136, .bipush (-102), 2), (138, .ireturn, 1)], 1, 0)
/-- EquationProofs.about(II)I -/
def mt_6 : am_M := (⟨"EquationProofs", "about", "(II)I"⟩, prog_1_method_7_code, 4, (some .int), ([(19, 0, 1), (148, 2, 4), (152, 4, 6), (157, 4, 3), (160, 4, 0), (163, 5, 1), (166, 4, 1)], [], [], [], [], [(144, 39)]), [(0, .aload_n 0, 1), (1, .getfield 19, 3), (4, .iload_n 1, 1), (5, .invokevirtual 144, 3), (8, .ifCond .ne 6, 3), (11, .bipush (-101), 2), (13, .ireturn, 1), (14, .aload_n 0, 1), (15, .getfield 19, 3), (18, .getfield 148, 3), (21, .iload_n 1, 1), (22, .aaload, 1), (23, .astore_n 3, 1), (24, .iload_n 2, 1), (25, .tableswitch 57 0 3 #[31, 36, 41, 49], 31), (56, .aload_n 3, 1), (57, .getfield 152, 3), (60, .ireturn, 1), (61, .aload_n 3, 1), (62, .getfield 157, 3), (65, .ireturn, 1), (66, .aload_n 3, 1), (67, .getfield 160, 3), (70, .getfield 163, 3), (73, .ireturn, 1), (74, .aload_n 3, 1), (75, .getfield 166, 3), (78, .getfield 163, 3), (81, .ireturn, 1), (82, .bipush (-102), 2), (84, .ireturn, 1)], 2, 0)
/-- EquationProofs.work(I)I -/
def mt_7 : am_M := (⟨"EquationProofs", "work", "(I)I"⟩, prog_1_method_8_code, 5, (some .int), ([(28, 0, 2), (69, 0, 7), (10, 0, 0), (44, 0, 4), (177, 8, 6), (37, 0, 3)], [(73, 1, 1), (180, 0, 8)], [], [], [], [(169, 67), (173, 103), (183, 92)]), [(0, .iload_n 1, 1), (1, .ifCond .lt 10, 3), (4, .iload_n 1, 1), (5, .sipush 2000, 3), (8, .if_icmp .le 7, 3), (11, .iconst 1, 1), (12, .goto 4, 3), (15, .iconst 0, 1), (16, .istore_n 2, 1), (17, .iload_n 2, 1), (18, .ifCond .eq 8, 3), (21, .bipush (-102), 2), (23, .goto 14, 3), (26, .aload_n 0, 1), (27, .getfield 28, 3), (30, .aload_n 0, 1), (31, .getfield 69, 3), (34, .invokevirtual 169, 3), (37, .istore_n 3, 1), (38, .aload_n 0, 1), (39, .getfield 10, 3), (42, .iconst 0, 1), (43, .putfield 73, 3), (46, .iload_n 3, 1), (47, .ifCond .ge 5, 3), (50, .iload_n 3, 1), (51, .ireturn, 1), (52, .aload_n 0, 1), (53, .getfield 44, 3), (56, .aload_n 0, 1), (57, .getfield 69, 3), (60, .iload_n 1, 1), (61, .invokevirtual 173, 3), (64, .istore 4, 2), (66, .aload_n 0, 1), (67, .aload_n 0, 1), (68, .getfield 44, 3), (71, .getfield 177, 3), (74, .putfield 180, 3), (77, .aload_n 0, 1), (78, .getfield 37, 3), (81, .aload_n 0, 1), (82, .getfield 69, 3), (85, .lconst 0, 1), (86, .invokevirtual 183, 3), (89, .pop, 1), (90, .iload 4, 2), (92, .ireturn, 1)], 1, 0)
/-- EquationProofs.steps()I -/
def mt_8 : am_M := (⟨"EquationProofs", "steps", "()I"⟩, prog_1_method_9_code, 1, (some .int), ([(180, 0, 8)], [], [], [], [], []), [(0, .aload_n 0, 1), (1, .getfield 180, 3), (4, .ireturn, 1)], 0, 0)
/-- EquationProofs.test(IIZ)I -/
def mt_9 : am_M := (⟨"EquationProofs", "test", "(IIZ)I"⟩, prog_1_method_10_code, 4, (some .int), ([(19, 0, 1), (53, 0, 5), (148, 2, 4)], [], [], [], [], [(144, 39), (187, 106)]), [(0, .aload_n 0, 1), (1, .getfield 19, 3), (4, .iload_n 1, 1), (5, .invokevirtual 144, 3), (8, .ifCond .ne 6, 3), (11, .bipush (-101), 2), (13, .ireturn, 1), (14, .iload_n 2, 1), (15, .iconst 1, 1), (16, .if_icmp .lt 9, 3), (19, .iload_n 2, 1), (20, .bipush 6, 2), (22, .if_icmp .le 6, 3), (25, .bipush (-102), 2), (27, .ireturn, 1), (28, .aload_n 0, 1), (29, .getfield 53, 3), (32, .aload_n 0, 1), (33, .getfield 19, 3), (36, .getfield 148, 3), (39, .iload_n 1, 1), (40, .aaload, 1), (41, .iload_n 2, 1), (42, .iload_n 3, 1), (43, .invokevirtual 187, 3), (46, .ireturn, 1)], 3, 0)
/-- EquationProofs.told(I)I -/
def mt_10 : am_M := (⟨"EquationProofs", "told", "(I)I"⟩, prog_1_method_11_code, 2, (some .int), ([(53, 0, 5), (191, 9, 10), (37, 0, 3), (194, 9, 6)], [], [], [], [], [(183, 92)]), [(0, .aload_n 0, 1), (1, .getfield 53, 3), (4, .getfield 191, 3), (7, .ifCond .ge 6, 3), (10, .bipush (-103), 2), (12, .ireturn, 1), (13, .iload_n 1, 1), (14, .ifCond .lt 14, 3), (17, .iload_n 1, 1), (18, .aload_n 0, 1), (19, .getfield 53, 3), (22, .getfield 191, 3), (25, .if_icmp .lt 6, 3), (28, .bipush (-101), 2), (30, .ireturn, 1), (31, .aload_n 0, 1), (32, .getfield 37, 3), (35, .aload_n 0, 1), (36, .getfield 53, 3), (39, .getfield 194, 3), (42, .iload_n 1, 1), (43, .aaload, 1), (44, .lconst 0, 1), (45, .invokevirtual 183, 3), (48, .ireturn, 1)], 1, 0)
/-- EquationProofs.begin(IZ)I -/
def mt_11 : am_M := (⟨"EquationProofs", "begin", "(IZ)I"⟩, prog_1_method_12_code, 3, (some .int), ([(19, 0, 1), (60, 0, 6), (96, 10, 2), (148, 2, 4), (129, 11, 2)], [], [], [], [], [(144, 39), (198, 149)]), [(0, .aload_n 0, 1), (1, .getfield 19, 3), (4, .iload_n 1, 1), (5, .invokevirtual 144, 3), (8, .ifCond .ne 6, 3), (11, .bipush (-101), 2), (13, .ireturn, 1), (14, .aload_n 0, 1), (15, .getfield 60, 3), (18, .getfield 96, 3), (21, .aload_n 0, 1), (22, .getfield 19, 3), (25, .getfield 148, 3), (28, .iload_n 1, 1), (29, .aaload, 1), (30, .iload_n 1, 1), (31, .iload_n 2, 1), (32, .invokevirtual 198, 3), (35, .aload_n 0, 1), (36, .getfield 60, 3), (39, .getfield 96, 3), (42, .getfield 129, 3), (45, .ireturn, 1)], 2, 0)
/-- EquationProofs.unfold(II)I -/
def mt_12 : am_M := (⟨"EquationProofs", "unfold", "(II)I"⟩, prog_1_method_13_code, 4, (some .int), ([(60, 0, 6)], [], [], [], [], [(202, 28), (206, 120), (209, 121)]), [(0, .aload_n 0, 1), (1, .iload_n 1, 1), (2, .iload_n 2, 1), (3, .invokevirtual 202, 3), (6, .istore_n 3, 1), (7, .iload_n 3, 1), (8, .ifCond .ge 7, 3), (11, .iload_n 3, 1), (12, .goto 20, 3), (15, .aload_n 0, 1), (16, .getfield 60, 3), (19, .iload_n 1, 1), (20, .aload_n 0, 1), (21, .getfield 60, 3), (24, .iload_n 1, 1), (25, .iload_n 2, 1), (26, .invokevirtual 206, 3), (29, .invokevirtual 209, 3), (32, .ireturn, 1)], 2, 0)
/-- EquationProofs.law(IZII)I -/
def mt_13 : am_M := (⟨"EquationProofs", "law", "(IZII)I"⟩, prog_1_method_14_code, 6, (some .int), ([(19, 0, 1), (60, 0, 6)], [], [], [], [], [(144, 39), (202, 28), (212, 122), (206, 120), (216, 124)]), [(0, .aload_n 0, 1), (1, .getfield 19, 3), (4, .iload_n 1, 1), (5, .invokevirtual 144, 3), (8, .ifCond .ne 6, 3), (11, .bipush (-101), 2), (13, .ireturn, 1), (14, .aload_n 0, 1), (15, .iload_n 3, 1), (16, .iload 4, 2), (18, .invokevirtual 202, 3), (21, .istore 5, 2), (23, .iload 5, 2), (25, .ifCond .ge 6, 3), (28, .iload 5, 2), (30, .ireturn, 1), (31, .aload_n 0, 1), (32, .getfield 60, 3), (35, .iload_n 1, 1), (36, .iload_n 2, 1), (37, .invokevirtual 212, 3), (40, .ifCond .ne 6, 3), (43, .bipush (-104), 2), (45, .ireturn, 1), (46, .aload_n 0, 1), (47, .getfield 60, 3), (50, .iload_n 3, 1), (51, .aload_n 0, 1), (52, .getfield 60, 3), (55, .iload_n 3, 1), (56, .iload 4, 2), (58, .invokevirtual 206, 3), (61, .invokevirtual 216, 3), (64, .ireturn, 1)], 4, 0)
/-- EquationProofs.hypothesis(IZII)I -/
def mt_14 : am_M := (⟨"EquationProofs", "hypothesis", "(IZII)I"⟩, prog_1_method_15_code, 6, (some .int), ([(60, 0, 6)], [], [], [], [], [(202, 28), (219, 123), (206, 120), (216, 124)]), [(0, .aload_n 0, 1), (1, .iload_n 3, 1), (2, .iload 4, 2), (4, .invokevirtual 202, 3), (7, .istore 5, 2), (9, .iload 5, 2), (11, .ifCond .ge 6, 3), (14, .iload 5, 2), (16, .ireturn, 1), (17, .aload_n 0, 1), (18, .getfield 60, 3), (21, .iload_n 1, 1), (22, .iload_n 2, 1), (23, .invokevirtual 219, 3), (26, .ifCond .ne 6, 3), (29, .bipush (-104), 2), (31, .ireturn, 1), (32, .aload_n 0, 1), (33, .getfield 60, 3), (36, .iload_n 3, 1), (37, .aload_n 0, 1), (38, .getfield 60, 3), (41, .iload_n 3, 1), (42, .iload 4, 2), (44, .invokevirtual 206, 3), (47, .invokevirtual 216, 3), (50, .ireturn, 1)], 4, 0)
/-- EquationProofs.induction(I)I -/
def mt_15 : am_M := (⟨"EquationProofs", "induction", "(I)I"⟩, prog_1_method_16_code, 2, (some .int), ([(60, 0, 6), (96, 10, 2), (129, 11, 2)], [], [], [], [], [(222, 128)]), [(0, .aload_n 0, 1), (1, .getfield 60, 3), (4, .getfield 96, 3), (7, .getfield 129, 3), (10, .ifCond .le 14, 3), (13, .aload_n 0, 1), (14, .getfield 60, 3), (17, .iload_n 1, 1), (18, .invokevirtual 222, 3), (21, .goto 5, 3), (24, .bipush (-103), 2), (26, .ireturn, 1)], 1, 0)
/-- EquationProofs.cases(II)I -/
def mt_16 : am_M := (⟨"EquationProofs", "cases", "(II)I"⟩, prog_1_method_17_code, 4, (some .int), ([(60, 0, 6)], [], [], [], [], [(202, 28), (206, 120), (226, 129)]), [(0, .aload_n 0, 1), (1, .iload_n 1, 1), (2, .iload_n 2, 1), (3, .invokevirtual 202, 3), (6, .istore_n 3, 1), (7, .iload_n 3, 1), (8, .ifCond .ge 7, 3), (11, .iload_n 3, 1), (12, .goto 20, 3), (15, .aload_n 0, 1), (16, .getfield 60, 3), (19, .iload_n 1, 1), (20, .aload_n 0, 1), (21, .getfield 60, 3), (24, .iload_n 1, 1), (25, .iload_n 2, 1), (26, .invokevirtual 206, 3), (29, .invokevirtual 226, 3), (32, .ireturn, 1)], 2, 0)
/-- EquationProofs.same()I -/
def mt_17 : am_M := (⟨"EquationProofs", "same", "()I"⟩, prog_1_method_18_code, 1, (some .int), ([(60, 0, 6), (96, 10, 2), (129, 11, 2)], [], [], [], [], [(229, 138)]), [(0, .aload_n 0, 1), (1, .getfield 60, 3), (4, .getfield 96, 3), (7, .getfield 129, 3), (10, .ifCond .le 13, 3), (13, .aload_n 0, 1), (14, .getfield 60, 3), (17, .invokevirtual 229, 3), (20, .goto 5, 3), (23, .bipush (-103), 2), (25, .ireturn, 1)], 0, 0)
/-- EquationProofs.parts()I -/
def mt_18 : am_M := (⟨"EquationProofs", "parts", "()I"⟩, prog_1_method_19_code, 1, (some .int), ([(60, 0, 6), (96, 10, 2), (129, 11, 2)], [], [], [], [], [(232, 139)]), [(0, .aload_n 0, 1), (1, .getfield 60, 3), (4, .getfield 96, 3), (7, .getfield 129, 3), (10, .ifCond .le 13, 3), (13, .aload_n 0, 1), (14, .getfield 60, 3), (17, .invokevirtual 232, 3), (20, .goto 5, 3), (23, .bipush (-103), 2), (25, .ireturn, 1)], 0, 0)
/-- EquationProofs.search(I)I -/
def mt_19 : am_M := (⟨"EquationProofs", "search", "(I)I"⟩, prog_1_method_20_code, 3, (some .int), ([(60, 0, 6), (96, 10, 2), (129, 11, 2), (235, 10, 3)], [], [], [], [], [(238, 150), (242, 142)]), [(0, .iload_n 1, 1), (1, .iconst 1, 1), (2, .if_icmp .lt 10, 3), (5, .iload_n 1, 1), (6, .sipush 500, 3), (9, .if_icmp .le 6, 3), (12, .bipush (-102), 2), (14, .ireturn, 1), (15, .aload_n 0, 1), (16, .getfield 60, 3), (19, .getfield 96, 3), (22, .getfield 129, 3), (25, .ifCond .ne 6, 3), (28, .bipush (-103), 2), (30, .ireturn, 1), (31, .aload_n 0, 1), (32, .getfield 60, 3), (35, .getfield 235, 3), (38, .aload_n 0, 1), (39, .getfield 60, 3), (42, .getfield 96, 3), (45, .invokevirtual 238, 3), (48, .iconst 0, 1), (49, .istore_n 2, 1), (50, .iload_n 2, 1), (51, .iload_n 1, 1), (52, .if_icmp .ge 32, 3), (55, .aload_n 0, 1), (56, .getfield 60, 3), (59, .getfield 96, 3), (62, .getfield 129, 3), (65, .ifCond .le 19, 3), (68, .aload_n 0, 1), (69, .getfield 60, 3), (72, .invokevirtual 242, 3), (75, .ifCond .eq 9, 3), (78, .iinc 2 1, 3), (81, .goto (-31), 3), (84, .aload_n 0, 1), (85, .getfield 60, 3), (88, .getfield 96, 3), (91, .getfield 129, 3), (94, .ifCond .le 22, 3), (97, .aload_n 0, 1), (98, .getfield 60, 3), (101, .getfield 96, 3), (104, .aload_n 0, 1), (105, .getfield 60, 3), (108, .getfield 235, 3), (111, .invokevirtual 238, 3), (114, .iconst 0, 1), (115, .ireturn, 1), (116, .iload_n 2, 1), (117, .ireturn, 1)], 1, 0)
/-- EquationProofs.show(II)I -/
def mt_20 : am_M := (⟨"EquationProofs", "show", "(II)I"⟩, prog_1_method_21_code, 4, (some .int), ([(60, 0, 6), (96, 10, 2), (129, 11, 2), (37, 0, 3), (135, 11, 0), (246, 12, 0)], [], [], [], [], [(183, 92)]), [(0, .aload_n 0, 1), (1, .getfield 60, 3), (4, .getfield 96, 3), (7, .astore_n 3, 1), (8, .aload_n 3, 1), (9, .getfield 129, 3), (12, .ifCond .ne 6, 3), (15, .bipush (-103), 2), (17, .ireturn, 1), (18, .iload_n 1, 1), (19, .ifCond .lt 20, 3), (22, .iload_n 1, 1), (23, .aload_n 3, 1), (24, .getfield 129, 3), (27, .if_icmp .ge 12, 3), (30, .iload_n 2, 1), (31, .ifCond .lt 8, 3), (34, .iload_n 2, 1), (35, .iconst 1, 1), (36, .if_icmp .le 6, 3), (39, .bipush (-102), 2), (41, .ireturn, 1), (42, .aload_n 0, 1), (43, .getfield 37, 3), (46, .aload_n 3, 1), (47, .getfield 135, 3), (50, .iload_n 1, 1), (51, .aaload, 1), (52, .getfield 246, 3), (55, .iload_n 2, 1), (56, .aaload, 1), (57, .lconst 0, 1), (58, .invokevirtual 183, 3), (61, .ireturn, 1)], 2, 0)
/-- EquationProofs.showHypothesis(II)I -/
def mt_21 : am_M := (⟨"EquationProofs", "showHypothesis", "(II)I"⟩, prog_1_method_22_code, 4, (some .int), ([(60, 0, 6), (96, 10, 2), (129, 11, 2), (135, 11, 0), (139, 12, 2), (37, 0, 3), (246, 12, 0), (249, 12, 1)], [], [], [], [], [(183, 92)]), [(0, .aload_n 0, 1), (1, .getfield 60, 3), (4, .getfield 96, 3), (7, .getfield 129, 3), (10, .ifCond .ne 6, 3), (13, .bipush (-103), 2), (15, .ireturn, 1), (16, .aload_n 0, 1), (17, .getfield 60, 3), (20, .getfield 96, 3), (23, .getfield 135, 3), (26, .iconst 0, 1), (27, .aaload, 1), (28, .astore_n 3, 1), (29, .iload_n 1, 1), (30, .ifCond .lt 20, 3), (33, .iload_n 1, 1), (34, .aload_n 3, 1), (35, .getfield 139, 3), (38, .if_icmp .ge 12, 3), (41, .iload_n 2, 1), (42, .ifCond .lt 8, 3), (45, .iload_n 2, 1), (46, .iconst 1, 1), (47, .if_icmp .le 6, 3), (50, .bipush (-102), 2), (52, .ireturn, 1), (53, .aload_n 0, 1), (54, .getfield 37, 3), (57, .aload_n 3, 1), (58, .getfield 246, 3), (61, .iconst 2, 1), (62, .iconst 2, 1), (63, .iload_n 1, 1), (64, .imul, 1), (65, .iadd, 1), (66, .iload_n 2, 1), (67, .iadd, 1), (68, .aaload, 1), (69, .aload_n 3, 1), (70, .getfield 249, 3), (73, .iload_n 1, 1), (74, .laload, 1), (75, .invokevirtual 183, 3), (78, .ireturn, 1)], 2, 0)
/-- EquationProofs.showLaw(II)I -/
def mt_22 : am_M := (⟨"EquationProofs", "showLaw", "(II)I"⟩, prog_1_method_23_code, 4, (some .int), ([(19, 0, 1), (148, 2, 4), (37, 0, 3), (160, 4, 0), (166, 4, 1)], [], [], [], [], [(144, 39), (183, 92)]), [(0, .aload_n 0, 1), (1, .getfield 19, 3), (4, .iload_n 1, 1), (5, .invokevirtual 144, 3), (8, .ifCond .ne 6, 3), (11, .bipush (-101), 2), (13, .ireturn, 1), (14, .iload_n 2, 1), (15, .ifCond .lt 8, 3), (18, .iload_n 2, 1), (19, .iconst 1, 1), (20, .if_icmp .le 6, 3), (23, .bipush (-102), 2), (25, .ireturn, 1), (26, .aload_n 0, 1), (27, .getfield 19, 3), (30, .getfield 148, 3), (33, .iload_n 1, 1), (34, .aaload, 1), (35, .astore_n 3, 1), (36, .aload_n 0, 1), (37, .getfield 37, 3), (40, .iload_n 2, 1), (41, .ifCond .ne 10, 3), (44, .aload_n 3, 1), (45, .getfield 160, 3), (48, .goto 7, 3), (51, .aload_n 3, 1), (52, .getfield 166, 3), (55, .lconst 0, 1), (56, .invokevirtual 183, 3), (59, .ireturn, 1)], 2, 0)
/-- EquationProofs.printed(I)I -/
def mt_23 : am_M := (⟨"EquationProofs", "printed", "(I)I"⟩, prog_1_method_24_code, 2, (some .int), ([(37, 0, 3), (253, 7, 3), (254, 7, 1)], [], [], [], [], []), [(0, .iload_n 1, 1), (1, .ifCond .lt 26, 3), (4, .iload_n 1, 1), (5, .aload_n 0, 1), (6, .getfield 37, 3), (9, .getfield 253, 3), (12, .if_icmp .ge 15, 3), (15, .aload_n 0, 1), (16, .getfield 37, 3), (19, .getfield 254, 3), (22, .iload_n 1, 1), (23, .iaload, 1), (24, .goto 4, 3), (27, .iconst (-1), 1), (28, .ireturn, 1)], 1, 0)
/-- EquationProofs.refusalAt(II)I -/
def mt_24 : am_M := (⟨"EquationProofs", "refusalAt", "(II)I"⟩, prog_1_method_25_code, 3, (some .int), ([(60, 0, 6), (96, 10, 2), (129, 11, 2)], [], [], [], [], []), [(0, .iload_n 1, 1), (1, .ifCond .lt 12, 3), (4, .iload_n 1, 1), (5, .iconst 1, 1), (6, .if_icmp .gt 7, 3), (9, .iload_n 2, 1), (10, .ifCond .ge 6, 3), (13, .bipush (-102), 2), (15, .ireturn, 1), (16, .aload_n 0, 1), (17, .getfield 60, 3), (20, .getfield 96, 3), (23, .getfield 129, 3), (26, .ifCond .le 7, 3), (29, .iconst 0, 1), (30, .goto 5, 3), (33, .bipush (-103), 2), (35, .ireturn, 1)], 2, 0)
/-- EquationProofs$Tape.<init>()V -/
def mt_25 : am_M := (⟨"EquationProofs$Tape", "<init>", "()V"⟩, prog_11_method_1_code, 1, none, ([], [(9, 1, 0), (15, 1, 2), (18, 1, 3), (21, 1, 4)], [], [], [], [(3, 0)]), [(0, .aload_n 0, 1), (1, .invokespecial 3, 3), (4, .aload_n 0, 1), (5, .sipush 1000, 3), (8, .newarray .int, 2), (10, .putfield 9, 3), (13, .aload_n 0, 1), (14, .sipush 1001, 3), (17, .newarray .int, 2), (19, .putfield 15, 3), (22, .aload_n 0, 1), (23, .sipush 1001, 3), (26, .newarray .int, 2), (28, .putfield 18, 3), (31, .aload_n 0, 1), (32, .sipush 1001, 3), (35, .newarray .long, 2), (37, .putfield 21, 3), (40, .return_, 1)], 0, 2000)
/-- EquationProofs$Tape.putNumber(I)V -/
def mt_26 : am_M := (⟨"EquationProofs$Tape", "putNumber", "(I)V"⟩, prog_11_method_2_code, 3, none, ([(25, 1, 1), (9, 1, 0)], [(25, 1, 1)], [], [], [], []), [(0, .bipush 24, 2), (2, .istore_n 2, 1), (3, .iload_n 2, 1), (4, .ifCond .lt 45, 3), (7, .aload_n 0, 1), (8, .getfield 25, 3), (11, .sipush 1000, 3), (14, .if_icmp .ge 29, 3), (17, .aload_n 0, 1), (18, .getfield 9, 3), (21, .aload_n 0, 1), (22, .getfield 25, 3), (25, .iload_n 1, 1), (26, .iload_n 2, 1), (27, .iushr, 1), (28, .sipush 255, 3), (31, .iand, 1), (32, .iastore, 1), (33, .aload_n 0, 1), (34, .dup, 1), (35, .getfield 25, 3), (38, .iconst 1, 1), (39, .iadd, 1), (40, .putfield 25, 3), (43, .iinc 2 (-8), 3), (46, .goto (-43), 3), (49, .return_, 1)], 1, 1)
/-- EquationProofs$Tape.cut()V -/
def mt_27 : am_M := (⟨"EquationProofs$Tape", "cut", "()V"⟩, prog_11_method_3_code, 9, none, ([(25, 1, 1), (9, 1, 0)], [(29, 1, 5)], [], [], [], [(32, 37), (36, 33), (40, 34), (44, 35), (48, 36), (51, 32)]), [(0, .aload_n 0, 1), (1, .iconst 0, 1), (2, .putfield 29, 3), (5, .iconst 0, 1), (6, .istore_n 1, 1), (7, .iconst 0, 1), (8, .istore_n 2, 1), (9, .iconst 0, 1), (10, .istore_n 3, 1), (11, .iload_n 3, 1), (12, .aload_n 0, 1), (13, .getfield 25, 3), (16, .if_icmp .ge 126, 3), (19, .iload_n 2, 1), (20, .aload_n 0, 1), (21, .getfield 25, 3), (24, .if_icmp .ge 118, 3), (27, .iload_n 1, 1), (28, .ifCond .ne 114, 3), (31, .aload_n 0, 1), (32, .getfield 9, 3), (35, .iload_n 2, 1), (36, .iaload, 1), (37, .istore 4, 2), (39, .iload 4, 2), (41, .invokestatic 32, 3), (44, .ifCond .eq 11, 3), (47, .aload_n 0, 1), (48, .iload_n 2, 1), (49, .invokevirtual 36, 3), (52, .goto 6, 3), (55, .iload_n 2, 1), (56, .iconst 1, 1), (57, .iadd, 1), (58, .istore 5, 2), (60, .iload 4, 2), (62, .bipush 32, 2), (64, .if_icmp .eq 69, 3), (67, .iload 4, 2), (69, .bipush 10, 2), (71, .if_icmp .eq 62, 3), (74, .aload_n 0, 1), (75, .iload_n 2, 1), (76, .iload 5, 2), (78, .invokevirtual 40, 3), (81, .lstore 6, 2), (83, .iload 4, 2), (85, .invokestatic 32, 3), (88, .ifCond .eq 17, 3), (91, .iload 4, 2), (93, .iload 5, 2), (95, .iload_n 2, 1), (96, .isub, 1), (97, .lload 6, 2), (99, .invokestatic 44, 3), (102, .goto 8, 3), (105, .iload 4, 2), (107, .invokestatic 48, 3), (110, .istore 8, 2), (112, .iload 8, 2), (114, .iconst 1, 1), (115, .if_icmp .ne 7, 3), (118, .iconst 1, 1), (119, .goto 4, 3), (122, .iconst 0, 1), (123, .istore_n 1, 1), (124, .aload_n 0, 1), (125, .iload 8, 2), (127, .iload_n 2, 1), (128, .lload 6, 2), (130, .invokevirtual 51, 3), (133, .iload 5, 2), (135, .istore_n 2, 1), (136, .iinc 3 1, 3), (139, .goto (-128), 3), (142, .aload_n 0, 1), (143, .iconst 0, 1), (144, .aload_n 0, 1), (145, .getfield 25, 3), (148, .lconst 0, 1), (149, .invokevirtual 51, 3), (152, .return_, 1)], 0, 1)
/-- EquationProofs$Tape.addToken(IIJ)V -/
def mt_28 : am_M := (⟨"EquationProofs$Tape", "addToken", "(IIJ)V"⟩, prog_11_method_4_code, 5, none, ([(29, 1, 5), (15, 1, 2), (18, 1, 3), (21, 1, 4)], [(29, 1, 5)], [], [], [], []), [(0, .aload_n 0, 1), (1, .getfield 29, 3), (4, .aload_n 0, 1), (5, .getfield 15, 3), (8, .arraylength, 1), (9, .if_icmp .ge 43, 3), (12, .aload_n 0, 1), (13, .getfield 15, 3), (16, .aload_n 0, 1), (17, .getfield 29, 3), (20, .iload_n 1, 1), (21, .iastore, 1), (22, .aload_n 0, 1), (23, .getfield 18, 3), (26, .aload_n 0, 1), (27, .getfield 29, 3), (30, .iload_n 2, 1), (31, .iastore, 1), (32, .aload_n 0, 1), (33, .getfield 21, 3), (36, .aload_n 0, 1), (37, .getfield 29, 3), (40, .lload_n 3, 1), (41, .lastore, 1), (42, .aload_n 0, 1), (43, .dup, 1), (44, .getfield 29, 3), (47, .iconst 1, 1), (48, .iadd, 1), (49, .putfield 29, 3), (52, .return_, 1)], 3, 1)
/-- EquationProofs$Tape.behindName(I)I -/
def mt_29 : am_M := (⟨"EquationProofs$Tape", "behindName", "(I)I"⟩, prog_11_method_5_code, 3, (some .int), ([(25, 1, 1), (9, 1, 0)], [], [], [], [], [(32, 37)]), [(0, .iload_n 1, 1), (1, .istore_n 2, 1), (2, .iload_n 2, 1), (3, .aload_n 0, 1), (4, .getfield 25, 3), (7, .if_icmp .ge 43, 3), (10, .aload_n 0, 1), (11, .getfield 9, 3), (14, .iload_n 2, 1), (15, .iaload, 1), (16, .invokestatic 32, 3), (19, .ifCond .ne 25, 3), (22, .aload_n 0, 1), (23, .getfield 9, 3), (26, .iload_n 2, 1), (27, .iaload, 1), (28, .bipush 48, 2), (30, .if_icmp .lt 20, 3), (33, .aload_n 0, 1), (34, .getfield 9, 3), (37, .iload_n 2, 1), (38, .iaload, 1), (39, .bipush 57, 2), (41, .if_icmp .gt 9, 3), (44, .iinc 2 1, 3), (47, .goto (-45), 3), (50, .iload_n 2, 1), (51, .ireturn, 1)], 1, 1)
/-- EquationProofs$Tape.nameOf(II)J -/
def mt_30 : am_M := (⟨"EquationProofs$Tape", "nameOf", "(II)J"⟩, prog_11_method_6_code, 6, (some .long), ([(9, 1, 0)], [], [], [], [], []), [(0, .lconst 0, 1), (1, .lstore_n 3, 1), (2, .iload_n 1, 1), (3, .istore 5, 2), (5, .iload 5, 2), (7, .iload_n 2, 1), (8, .if_icmp .ge 32, 3), (11, .iload 5, 2), (13, .iload_n 1, 1), (14, .bipush 6, 2), (16, .iadd, 1), (17, .if_icmp .ge 23, 3), (20, .lload_n 3, 1), (21, .bipush 8, 2), (23, .lshl, 1), (24, .aload_n 0, 1), (25, .getfield 9, 3), (28, .iload 5, 2), (30, .iaload, 1), (31, .i2l, 1), (32, .lor, 1), (33, .lstore_n 3, 1), (34, .iinc 5 1, 3), (37, .goto (-32), 3), (40, .lload_n 3, 1), (41, .lreturn, 1)], 2, 1)
/-- EquationProofs$Tape.tokenOfName(IIJ)I -/
def mt_31 : am_M := (⟨"EquationProofs$Tape", "tokenOfName", "(IIJ)I"⟩, prog_11_method_7_code, 4, (some .int), ([], [], [], [], [(55, .long 1684108385), (57, .long 6714734), (59, .long 1920298085), (61, .long 7102839)], []), [(0, .iload_n 1, 1), (1, .bipush 6, 2), (3, .if_icmp .le 5, 3), (6, .iconst 1, 1), (7, .ireturn, 1), (8, .iload_n 0, 1), (9, .bipush 90, 2), (11, .if_icmp .gt 5, 3), (14, .iconst 3, 1), (15, .ireturn, 1), (16, .lload_n 2, 1), (17, .ldc2_w 55, 3), (20, .lcmp, 1), (21, .ifCond .ne 5, 3), (24, .iconst 4, 1), (25, .ireturn, 1), (26, .lload_n 2, 1), (27, .ldc2_w 57, 3), (30, .lcmp, 1), (31, .ifCond .ne 5, 3), (34, .iconst 5, 1), (35, .ireturn, 1), (36, .lload_n 2, 1), (37, .ldc2_w 59, 3), (40, .lcmp, 1), (41, .ifCond .ne 6, 3), (44, .bipush 6, 2), (46, .ireturn, 1), (47, .lload_n 2, 1), (48, .ldc2_w 61, 3), (51, .lcmp, 1), (52, .ifCond .ne 8, 3), (55, .bipush 7, 2), (57, .goto 4, 3), (60, .iconst 2, 1), (61, .ireturn, 1)], 3, 1000)
/-- EquationProofs$Tape.tokenOfSign(I)I -/
def mt_32 : am_M := (⟨"EquationProofs$Tape", "tokenOfSign", "(I)I"⟩, prog_11_method_8_code, 1, (some .int), ([], [], [], [], [], []), [(0, .iload_n 0, 1), (1, .lookupswitch 77 #[(40, 75), (41, 75), (58, 75), (59, 75), (61, 75), (62, 75), (95, 75), (124, 75)], 75), (76, .iload_n 0, 1), (77, .ireturn, 1), (78, .iconst 1, 1), (79, .ireturn, 1)], 1, 1000)
/-- EquationProofs$Tape.isLetter(I)Z -/
def mt_33 : am_M := (⟨"EquationProofs$Tape", "isLetter", "(I)Z"⟩, prog_11_method_9_code, 1, (some .boolean), ([], [], [], [], [], []), [(0, .iload_n 0, 1), (1, .bipush 97, 2), (3, .if_icmp .lt 9, 3), (6, .iload_n 0, 1), (7, .bipush 122, 2), (9, .if_icmp .le 15, 3), (12, .iload_n 0, 1), (13, .bipush 65, 2), (15, .if_icmp .lt 13, 3), (18, .iload_n 0, 1), (19, .bipush 90, 2), (21, .if_icmp .gt 7, 3), (24, .iconst 1, 1), (25, .goto 4, 3), (28, .iconst 0, 1), (29, .ireturn, 1)], 1, 1000)
/-- EquationProofs$Program.<init>()V -/
def mt_34 : am_M := (⟨"EquationProofs$Program", "<init>", "()V"⟩, prog_5_method_1_code, 2, none, ([(28, 2, 3), (32, 2, 4)], [(14, 2, 0), (20, 2, 1), (23, 2, 2), (28, 2, 3), (32, 2, 4)], [(9, 3), (26, 4)], [(26, "EquationProofs$Equation")], [], [(3, 0), (11, 44), (35, 50)]), [(0, .aload_n 0, 1), (1, .invokespecial 3, 3), (4, .aload_n 0, 1), (5, .new 9, 3), (8, .dup, 1), (9, .bipush 6, 2), (11, .invokespecial 11, 3), (14, .putfield 14, 3), (17, .aload_n 0, 1), (18, .new 9, 3), (21, .dup, 1), (22, .bipush 16, 2), (24, .invokespecial 11, 3), (27, .putfield 20, 3), (30, .aload_n 0, 1), (31, .new 9, 3), (34, .dup, 1), (35, .bipush 16, 2), (37, .invokespecial 11, 3), (40, .putfield 23, 3), (43, .aload_n 0, 1), (44, .bipush 40, 2), (46, .anewarray 26, 3), (49, .putfield 28, 3), (52, .aload_n 0, 1), (53, .bipush 16, 2), (55, .anewarray 26, 3), (58, .putfield 32, 3), (61, .iconst 0, 1), (62, .istore_n 1, 1), (63, .iload_n 1, 1), (64, .aload_n 0, 1), (65, .getfield 28, 3), (68, .arraylength, 1), (69, .if_icmp .ge 22, 3), (72, .aload_n 0, 1), (73, .getfield 28, 3), (76, .iload_n 1, 1), (77, .new 26, 3), (80, .dup, 1), (81, .invokespecial 35, 3), (84, .aastore, 1), (85, .iinc 1 1, 3), (88, .goto (-25), 3), (91, .iconst 0, 1), (92, .istore_n 1, 1), (93, .iload_n 1, 1), (94, .aload_n 0, 1), (95, .getfield 32, 3), (98, .arraylength, 1), (99, .if_icmp .ge 22, 3), (102, .aload_n 0, 1), (103, .getfield 32, 3), (106, .iload_n 1, 1), (107, .new 26, 3), (110, .dup, 1), (111, .invokespecial 35, 3), (114, .aastore, 1), (115, .iinc 1 1, 3), (118, .goto (-25), 3), (121, .return_, 1)], 0, 2000)
/-- EquationProofs$Program.hasLaw(I)Z -/
def mt_35 : am_M := (⟨"EquationProofs$Program", "hasLaw", "(I)Z"⟩, prog_5_method_2_code, 2, (some .boolean), ([(36, 2, 6), (32, 2, 4)], [], [], [], [], []), [(0, .iload_n 1, 1), (1, .ifCond .lt 24, 3), (4, .iload_n 1, 1), (5, .aload_n 0, 1), (6, .getfield 36, 3), (9, .if_icmp .ge 16, 3), (12, .iload_n 1, 1), (13, .aload_n 0, 1), (14, .getfield 32, 3), (17, .arraylength, 1), (18, .if_icmp .ge 7, 3), (21, .iconst 1, 1), (22, .goto 4, 3), (25, .iconst 0, 1), (26, .ireturn, 1)], 1, 2)
/-- EquationProofs$Program.hasLawNamed(J)Z -/
def mt_36 : am_M := (⟨"EquationProofs$Program", "hasLawNamed", "(J)Z"⟩, prog_5_method_3_code, 4, (some .boolean), ([(36, 2, 6), (32, 2, 4), (40, 4, 5)], [], [], [], [], []), [(0, .iconst 0, 1), (1, .istore_n 3, 1), (2, .iload_n 3, 1), (3, .aload_n 0, 1), (4, .getfield 36, 3), (7, .if_icmp .ge 25, 3), (10, .aload_n 0, 1), (11, .getfield 32, 3), (14, .iload_n 3, 1), (15, .aaload, 1), (16, .getfield 40, 3), (19, .lload_n 1, 1), (20, .lcmp, 1), (21, .ifCond .ne 5, 3), (24, .iconst 1, 1), (25, .ireturn, 1), (26, .iinc 3 1, 3), (29, .goto (-27), 3), (32, .iconst 0, 1), (33, .ireturn, 1)], 1, 2)
/-- EquationProofs$Program.typeOf(I[I)I -/
def mt_37 : am_M := (⟨"EquationProofs$Program", "typeOf", "(I[I)I"⟩, prog_5_method_4_code, 4, (some .int), ([(20, 2, 1), (53, 3, 1), (23, 2, 2)], [], [], [], [], [(44, 54), (50, 53)]), [(0, .iload_n 1, 1), (1, .invokestatic 44, 3), (4, .istore_n 3, 1), (5, .iload_n 1, 1), (6, .invokestatic 50, 3), (9, .tableswitch 93 1 3 #[27, 53, 79], 27), (36, .iload_n 3, 1), (37, .aload_n 0, 1), (38, .getfield 20, 3), (41, .getfield 53, 3), (44, .arraylength, 1), (45, .if_icmp .ge 15, 3), (48, .aload_n 0, 1), (49, .getfield 20, 3), (52, .getfield 53, 3), (55, .iload_n 3, 1), (56, .iaload, 1), (57, .goto 4, 3), (60, .iconst (-1), 1), (61, .ireturn, 1), (62, .iload_n 3, 1), (63, .aload_n 0, 1), (64, .getfield 23, 3), (67, .getfield 53, 3), (70, .arraylength, 1), (71, .if_icmp .ge 15, 3), (74, .aload_n 0, 1), (75, .getfield 23, 3), (78, .getfield 53, 3), (81, .iload_n 3, 1), (82, .iaload, 1), (83, .goto 4, 3), (86, .iconst (-1), 1), (87, .ireturn, 1), (88, .iload_n 3, 1), (89, .aload_n 2, 1), (90, .arraylength, 1), (91, .if_icmp .ge 9, 3), (94, .aload_n 2, 1), (95, .iload_n 3, 1), (96, .iaload, 1), (97, .goto 4, 3), (100, .iconst (-1), 1), (101, .ireturn, 1), (102, .iconst (-1), 1), (103, .ireturn, 1)], 2, 2)
/-- EquationProofs$Program.codeOfConstructor(I)I -/
def mt_38 : am_M := (⟨"EquationProofs$Program", "codeOfConstructor", "(I)I"⟩, prog_5_method_5_code, 2, (some .int), ([(20, 2, 1), (56, 3, 4), (59, 3, 2)], [], [], [], [], [(62, 52)]), [(0, .iconst 1, 1), (1, .iload_n 1, 1), (2, .iload_n 1, 1), (3, .ifCond .lt 26, 3), (6, .iload_n 1, 1), (7, .aload_n 0, 1), (8, .getfield 20, 3), (11, .getfield 56, 3), (14, .if_icmp .ge 15, 3), (17, .aload_n 0, 1), (18, .getfield 20, 3), (21, .getfield 59, 3), (24, .iload_n 1, 1), (25, .iaload, 1), (26, .goto 4, 3), (29, .iconst 0, 1), (30, .invokestatic 62, 3), (33, .ireturn, 1)], 1, 2)
/-- EquationProofs$Program.forgetProofs()V -/
def mt_39 : am_M := (⟨"EquationProofs$Program", "forgetProofs", "()V"⟩, prog_5_method_6_code, 2, none, ([(36, 2, 6), (32, 2, 4)], [(66, 4, 6)], [], [], [], []), [(0, .iconst 0, 1), (1, .istore_n 1, 1), (2, .iload_n 1, 1), (3, .aload_n 0, 1), (4, .getfield 36, 3), (7, .if_icmp .ge 19, 3), (10, .aload_n 0, 1), (11, .getfield 32, 3), (14, .iload_n 1, 1), (15, .aaload, 1), (16, .iconst 0, 1), (17, .putfield 66, 3), (20, .iinc 1 1, 3), (23, .goto (-21), 3), (26, .return_, 1)], 0, 2)
/-- EquationProofs$Symbols.<init>(I)V -/
def mt_40 : am_M := (⟨"EquationProofs$Symbols", "<init>", "(I)V"⟩, prog_10_method_1_code, 3, none, ([], [(15, 3, 0), (21, 3, 1), (25, 3, 2), (28, 3, 3)], [], [], [], [(3, 0), (9, 1)]), [(0, .aload_n 0, 1), (1, .invokespecial 3, 3), (4, .iload_n 1, 1), (5, .iconst 0, 1), (6, .invokestatic 9, 3), (9, .istore_n 2, 1), (10, .aload_n 0, 1), (11, .iload_n 2, 1), (12, .newarray .long, 2), (14, .putfield 15, 3), (17, .aload_n 0, 1), (18, .iload_n 2, 1), (19, .newarray .int, 2), (21, .putfield 21, 3), (24, .aload_n 0, 1), (25, .iload_n 2, 1), (26, .newarray .int, 2), (28, .putfield 25, 3), (31, .aload_n 0, 1), (32, .iload_n 2, 1), (33, .iconst 4, 1), (34, .imul, 1), (35, .newarray .int, 2), (37, .putfield 28, 3), (40, .return_, 1)], 1, 2000)
/-- EquationProofs$Symbols.find(J)I -/
def mt_41 : am_M := (⟨"EquationProofs$Symbols", "find", "(J)I"⟩, prog_10_method_2_code, 4, (some .int), ([(31, 3, 4), (15, 3, 0)], [], [], [], [], []), [(0, .iconst 0, 1), (1, .istore_n 3, 1), (2, .iload_n 3, 1), (3, .aload_n 0, 1), (4, .getfield 31, 3), (7, .if_icmp .ge 31, 3), (10, .iload_n 3, 1), (11, .aload_n 0, 1), (12, .getfield 15, 3), (15, .arraylength, 1), (16, .if_icmp .ge 22, 3), (19, .aload_n 0, 1), (20, .getfield 15, 3), (23, .iload_n 3, 1), (24, .laload, 1), (25, .lload_n 1, 1), (26, .lcmp, 1), (27, .ifCond .ne 5, 3), (30, .iload_n 3, 1), (31, .ireturn, 1), (32, .iinc 3 1, 3), (35, .goto (-33), 3), (38, .iconst (-1), 1), (39, .ireturn, 1)], 1, 3)
/-- EquationProofs$Symbols.isFull()Z -/
def mt_42 : am_M := (⟨"EquationProofs$Symbols", "isFull", "()Z"⟩, prog_10_method_3_code, 1, (some .boolean), ([(31, 3, 4), (15, 3, 0)], [], [], [], [], []), [(0, .aload_n 0, 1), (1, .getfield 31, 3), (4, .aload_n 0, 1), (5, .getfield 15, 3), (8, .arraylength, 1), (9, .if_icmp .lt 7, 3), (12, .iconst 1, 1), (13, .goto 4, 3), (16, .iconst 0, 1), (17, .ireturn, 1)], 0, 3)
/-- EquationProofs$Symbols.add(JI)V -/
def mt_43 : am_M := (⟨"EquationProofs$Symbols", "add", "(JI)V"⟩, prog_10_method_4_code, 4, none, ([(31, 3, 4), (15, 3, 0), (21, 3, 1), (25, 3, 2)], [(31, 3, 4)], [], [], [], []), [(0, .aload_n 0, 1), (1, .getfield 31, 3), (4, .aload_n 0, 1), (5, .getfield 15, 3), (8, .arraylength, 1), (9, .if_icmp .ge 43, 3), (12, .aload_n 0, 1), (13, .getfield 15, 3), (16, .aload_n 0, 1), (17, .getfield 31, 3), (20, .lload_n 1, 1), (21, .lastore, 1), (22, .aload_n 0, 1), (23, .getfield 21, 3), (26, .aload_n 0, 1), (27, .getfield 31, 3), (30, .iload_n 3, 1), (31, .iastore, 1), (32, .aload_n 0, 1), (33, .getfield 25, 3), (36, .aload_n 0, 1), (37, .getfield 31, 3), (40, .iconst 0, 1), (41, .iastore, 1), (42, .aload_n 0, 1), (43, .dup, 1), (44, .getfield 31, 3), (47, .iconst 1, 1), (48, .iadd, 1), (49, .putfield 31, 3), (52, .return_, 1)], 2, 3)
/-- EquationProofs$Symbols.addArgument(I)V -/
def mt_44 : am_M := (⟨"EquationProofs$Symbols", "addArgument", "(I)V"⟩, prog_10_method_5_code, 3, none, ([(31, 3, 4), (25, 3, 2), (28, 3, 3)], [], [], [], [], []), [(0, .aload_n 0, 1), (1, .getfield 31, 3), (4, .iconst 1, 1), (5, .isub, 1), (6, .istore_n 2, 1), (7, .iload_n 2, 1), (8, .ifCond .lt 39, 3), (11, .aload_n 0, 1), (12, .getfield 25, 3), (15, .iload_n 2, 1), (16, .iaload, 1), (17, .iconst 4, 1), (18, .if_icmp .ge 29, 3), (21, .aload_n 0, 1), (22, .getfield 28, 3), (25, .iload_n 2, 1), (26, .iconst 4, 1), (27, .imul, 1), (28, .aload_n 0, 1), (29, .getfield 25, 3), (32, .iload_n 2, 1), (33, .iaload, 1), (34, .iadd, 1), (35, .iload_n 1, 1), (36, .iastore, 1), (37, .aload_n 0, 1), (38, .getfield 25, 3), (41, .iload_n 2, 1), (42, .dup2, 1), (43, .iaload, 1), (44, .iconst 1, 1), (45, .iadd, 1), (46, .iastore, 1), (47, .return_, 1)], 1, 3)
/-- EquationProofs$Symbols.argument(II)I -/
def mt_45 : am_M := (⟨"EquationProofs$Symbols", "argument", "(II)I"⟩, prog_10_method_6_code, 4, (some .int), ([(28, 3, 3)], [], [], [], [], []), [(0, .iload_n 1, 1), (1, .iconst 4, 1), (2, .imul, 1), (3, .iload_n 2, 1), (4, .iadd, 1), (5, .istore_n 3, 1), (6, .iload_n 1, 1), (7, .ifCond .lt 30, 3), (10, .iload_n 2, 1), (11, .ifCond .lt 26, 3), (14, .iload_n 2, 1), (15, .iconst 4, 1), (16, .if_icmp .ge 21, 3), (19, .iload_n 3, 1), (20, .aload_n 0, 1), (21, .getfield 28, 3), (24, .arraylength, 1), (25, .if_icmp .ge 12, 3), (28, .aload_n 0, 1), (29, .getfield 28, 3), (32, .iload_n 3, 1), (33, .iaload, 1), (34, .goto 4, 3), (37, .iconst (-1), 1), (38, .ireturn, 1)], 2, 3)
/-- EquationProofs$Equation.<init>()V -/
def mt_46 : am_M := (⟨"EquationProofs$Equation", "<init>", "()V"⟩, prog_2_method_1_code, 1, none, ([], [(14, 4, 0), (20, 4, 1), (23, 4, 2)], [(9, 5)], [], [], [(3, 0), (11, 51)]), [(0, .aload_n 0, 1), (1, .invokespecial 3, 3), (4, .aload_n 0, 1), (5, .new 9, 3), (8, .dup, 1), (9, .bipush 40, 2), (11, .invokespecial 11, 3), (14, .putfield 14, 3), (17, .aload_n 0, 1), (18, .new 9, 3), (21, .dup, 1), (22, .bipush 40, 2), (24, .invokespecial 11, 3), (27, .putfield 20, 3), (30, .aload_n 0, 1), (31, .bipush 40, 2), (33, .newarray .int, 2), (35, .putfield 23, 3), (38, .return_, 1)], 0, 2000)
/-- EquationProofs$Term.<init>(I)V -/
def mt_47 : am_M := (⟨"EquationProofs$Term", "<init>", "(I)V"⟩, prog_12_method_1_code, 2, none, ([], [(13, 5, 0)], [], [], [], [(1, 0), (7, 1)]), [(0, .aload_n 0, 1), (1, .invokespecial 1, 3), (4, .aload_n 0, 1), (5, .iload_n 1, 1), (6, .iconst 0, 1), (7, .invokestatic 7, 3), (10, .newarray .int, 2), (12, .putfield 13, 3), (15, .return_, 1)], 1, 2000)
/-- EquationProofs$Term.codeOf(III)I -/
def mt_48 : am_M := (⟨"EquationProofs$Term", "codeOf", "(III)I"⟩, prog_12_method_2_code, 3, (some .int), ([], [], [], [], [], []), [(0, .iload_n 0, 1), (1, .bipush 10, 2), (3, .ishl, 1), (4, .iload_n 1, 1), (5, .bipush 127, 2), (7, .iand, 1), (8, .iconst 3, 1), (9, .ishl, 1), (10, .ior, 1), (11, .iload_n 2, 1), (12, .bipush 7, 2), (14, .iand, 1), (15, .ior, 1), (16, .ireturn, 1)], 3, 1000)
/-- EquationProofs$Term.kindOf(I)I -/
def mt_49 : am_M := (⟨"EquationProofs$Term", "kindOf", "(I)I"⟩, prog_12_method_3_code, 1, (some .int), ([], [], [], [], [], []), [(0, .iload_n 0, 1), (1, .bipush 10, 2), (3, .ishr, 1), (4, .ireturn, 1)], 1, 1000)
/-- EquationProofs$Term.indexOf(I)I -/
def mt_50 : am_M := (⟨"EquationProofs$Term", "indexOf", "(I)I"⟩, prog_12_method_4_code, 1, (some .int), ([], [], [], [], [], []), [(0, .iload_n 0, 1), (1, .iconst 3, 1), (2, .ishr, 1), (3, .bipush 127, 2), (5, .iand, 1), (6, .ireturn, 1)], 1, 1000)
/-- EquationProofs$Term.codeAt(I)I -/
def mt_51 : am_M := (⟨"EquationProofs$Term", "codeAt", "(I)I"⟩, prog_12_method_5_code, 2, (some .int), ([(19, 5, 1), (13, 5, 0)], [], [], [], [], []), [(0, .iload_n 1, 1), (1, .ifCond .lt 20, 3), (4, .iload_n 1, 1), (5, .aload_n 0, 1), (6, .getfield 19, 3), (9, .if_icmp .ge 12, 3), (12, .aload_n 0, 1), (13, .getfield 13, 3), (16, .iload_n 1, 1), (17, .iaload, 1), (18, .goto 4, 3), (21, .iconst 0, 1), (22, .ireturn, 1)], 1, 5)
/-- EquationProofs$Term.put(I)V -/
def mt_52 : am_M := (⟨"EquationProofs$Term", "put", "(I)V"⟩, prog_12_method_6_code, 2, none, ([(19, 5, 1), (13, 5, 0)], [(19, 5, 1)], [], [], [], []), [(0, .aload_n 0, 1), (1, .getfield 19, 3), (4, .aload_n 0, 1), (5, .getfield 13, 3), (8, .arraylength, 1), (9, .if_icmp .ge 23, 3), (12, .aload_n 0, 1), (13, .getfield 13, 3), (16, .aload_n 0, 1), (17, .getfield 19, 3), (20, .iload_n 1, 1), (21, .iastore, 1), (22, .aload_n 0, 1), (23, .dup, 1), (24, .getfield 19, 3), (27, .iconst 1, 1), (28, .iadd, 1), (29, .putfield 19, 3), (32, .return_, 1)], 1, 5)
/-- EquationProofs$Term.behind(I)I -/
def mt_53 : am_M := (⟨"EquationProofs$Term", "behind", "(I)I"⟩, prog_12_method_7_code, 4, (some .int), ([(19, 5, 1), (13, 5, 0)], [], [], [], [], [(7, 1)]), [(0, .iconst 1, 1), (1, .istore_n 2, 1), (2, .iload_n 1, 1), (3, .iconst 0, 1), (4, .invokestatic 7, 3), (7, .istore_n 3, 1), (8, .iload_n 3, 1), (9, .aload_n 0, 1), (10, .getfield 19, 3), (13, .if_icmp .ge 27, 3), (16, .iload_n 2, 1), (17, .ifCond .le 23, 3), (20, .iload_n 2, 1), (21, .aload_n 0, 1), (22, .getfield 13, 3), (25, .iload_n 3, 1), (26, .iaload, 1), (27, .bipush 7, 2), (29, .iand, 1), (30, .iconst 1, 1), (31, .isub, 1), (32, .iadd, 1), (33, .istore_n 2, 1), (34, .iinc 3 1, 3), (37, .goto (-29), 3), (40, .iload_n 3, 1), (41, .ireturn, 1)], 1, 5)
/-- EquationProofs$Term.append(LEquationProofs$Term;II)Z -/
def mt_54 : am_M := (⟨"EquationProofs$Term", "append", "(LEquationProofs$Term;II)Z"⟩, prog_12_method_8_code, 5, (some .boolean), ([(19, 5, 1), (13, 5, 0)], [(19, 5, 1)], [], [], [], [(23, 3)]), [(0, .iload_n 3, 1), (1, .iload_n 2, 1), (2, .isub, 1), (3, .istore 4, 2), (5, .iload_n 2, 1), (6, .ifCond .lt 31, 3), (9, .iload 4, 2), (11, .ifCond .lt 26, 3), (14, .iload_n 3, 1), (15, .aload_n 1, 1), (16, .getfield 19, 3), (19, .if_icmp .gt 18, 3), (22, .iload 4, 2), (24, .aload_n 0, 1), (25, .getfield 13, 3), (28, .arraylength, 1), (29, .aload_n 0, 1), (30, .getfield 19, 3), (33, .isub, 1), (34, .if_icmp .le 5, 3), (37, .iconst 0, 1), (38, .ireturn, 1), (39, .aload_n 1, 1), (40, .getfield 13, 3), (43, .iload_n 2, 1), (44, .aload_n 0, 1), (45, .getfield 13, 3), (48, .aload_n 0, 1), (49, .getfield 19, 3), (52, .iload 4, 2), (54, .invokestatic 23, 3), (57, .aload_n 0, 1), (58, .dup, 1), (59, .getfield 19, 3), (62, .iload 4, 2), (64, .iadd, 1), (65, .putfield 19, 3), (68, .iconst 1, 1), (69, .ireturn, 1)], 3, 5)
/-- EquationProofs$Term.copy(LEquationProofs$Term;)V -/
def mt_55 : am_M := (⟨"EquationProofs$Term", "copy", "(LEquationProofs$Term;)V"⟩, prog_12_method_9_code, 3, none, ([(19, 5, 1), (13, 5, 0)], [(19, 5, 1)], [], [], [], [(29, 2), (23, 3)]), [(0, .aload_n 1, 1), (1, .getfield 19, 3), (4, .aload_n 0, 1), (5, .getfield 13, 3), (8, .arraylength, 1), (9, .invokestatic 29, 3), (12, .istore_n 2, 1), (13, .aload_n 1, 1), (14, .getfield 13, 3), (17, .iconst 0, 1), (18, .aload_n 0, 1), (19, .getfield 13, 3), (22, .iconst 0, 1), (23, .iload_n 2, 1), (24, .invokestatic 23, 3), (27, .aload_n 0, 1), (28, .iload_n 2, 1), (29, .putfield 19, 3), (32, .return_, 1)], 1, 5)
/-- EquationProofs$Term.hasAt(ILEquationProofs$Term;)Z -/
def mt_56 : am_M := (⟨"EquationProofs$Term", "hasAt", "(ILEquationProofs$Term;)Z"⟩, prog_12_method_10_code, 4, (some .boolean), ([(19, 5, 1), (13, 5, 0)], [], [], [], [], []), [(0, .iload_n 1, 1), (1, .ifCond .lt 16, 3), (4, .aload_n 2, 1), (5, .getfield 19, 3), (8, .aload_n 0, 1), (9, .getfield 19, 3), (12, .iload_n 1, 1), (13, .isub, 1), (14, .if_icmp .le 5, 3), (17, .iconst 0, 1), (18, .ireturn, 1), (19, .iconst 0, 1), (20, .istore_n 3, 1), (21, .iload_n 3, 1), (22, .aload_n 2, 1), (23, .getfield 19, 3), (26, .if_icmp .ge 28, 3), (29, .aload_n 0, 1), (30, .getfield 13, 3), (33, .iload_n 1, 1), (34, .iload_n 3, 1), (35, .iadd, 1), (36, .iaload, 1), (37, .aload_n 2, 1), (38, .getfield 13, 3), (41, .iload_n 3, 1), (42, .iaload, 1), (43, .if_icmp .eq 5, 3), (46, .iconst 0, 1), (47, .ireturn, 1), (48, .iinc 3 1, 3), (51, .goto (-30), 3), (54, .iconst 1, 1), (55, .ireturn, 1)], 2, 5)
/-- EquationProofs$Term.isLike(LEquationProofs$Term;)Z -/
def mt_57 : am_M := (⟨"EquationProofs$Term", "isLike", "(LEquationProofs$Term;)Z"⟩, prog_12_method_11_code, 2, (some .boolean), ([(19, 5, 1)], [], [], [], [], [(32, 60)]), [(0, .aload_n 0, 1), (1, .getfield 19, 3), (4, .aload_n 1, 1), (5, .getfield 19, 3), (8, .if_icmp .ne 16, 3), (11, .aload_n 0, 1), (12, .iconst 0, 1), (13, .aload_n 1, 1), (14, .invokevirtual 32, 3), (17, .ifCond .eq 7, 3), (20, .iconst 1, 1), (21, .goto 4, 3), (24, .iconst 0, 1), (25, .ireturn, 1)], 1, 5)
/-- EquationProofs$Term.areLike(II)Z -/
def mt_58 : am_M := (⟨"EquationProofs$Term", "areLike", "(II)Z"⟩, prog_12_method_12_code, 5, (some .boolean), ([(19, 5, 1), (13, 5, 0)], [], [], [], [], [(36, 57)]), [(0, .aload_n 0, 1), (1, .iload_n 1, 1), (2, .invokevirtual 36, 3), (5, .iload_n 1, 1), (6, .isub, 1), (7, .istore_n 3, 1), (8, .iload_n 1, 1), (9, .ifCond .lt 17, 3), (12, .iload_n 2, 1), (13, .ifCond .lt 13, 3), (16, .iload_n 3, 1), (17, .aload_n 0, 1), (18, .getfield 19, 3), (21, .iload_n 2, 1), (22, .isub, 1), (23, .if_icmp .le 5, 3), (26, .iconst 0, 1), (27, .ireturn, 1), (28, .iconst 0, 1), (29, .istore 4, 2), (31, .iload 4, 2), (33, .iload_n 3, 1), (34, .if_icmp .ge 32, 3), (37, .aload_n 0, 1), (38, .getfield 13, 3), (41, .iload_n 1, 1), (42, .iload 4, 2), (44, .iadd, 1), (45, .iaload, 1), (46, .aload_n 0, 1), (47, .getfield 13, 3), (50, .iload_n 2, 1), (51, .iload 4, 2), (53, .iadd, 1), (54, .iaload, 1), (55, .if_icmp .eq 5, 3), (58, .iconst 0, 1), (59, .ireturn, 1), (60, .iinc 4 1, 3), (63, .goto (-32), 3), (66, .iconst 1, 1), (67, .ireturn, 1)], 2, 5)
/-- EquationProofs$Term.copyReplacing(LEquationProofs$Term;LEquationProofs$Term;LEquationProofs$Term;)Z -/
def mt_59 : am_M := (⟨"EquationProofs$Term", "copyReplacing", "(LEquationProofs$Term;LEquationProofs$Term;LEquationProofs$Term;)Z"⟩, prog_12_method_13_code, 8, (some .boolean), ([(19, 5, 1)], [(19, 5, 1)], [], [], [], [(32, 60), (40, 58)]), [(0, .aload_n 0, 1), (1, .iconst 0, 1), (2, .putfield 19, 3), (5, .iconst 0, 1), (6, .istore 4, 2), (8, .aload_n 2, 1), (9, .getfield 19, 3), (12, .ifCond .le 7, 3), (15, .iconst 1, 1), (16, .goto 4, 3), (19, .iconst 0, 1), (20, .istore 5, 2), (22, .iconst 0, 1), (23, .istore 6, 2), (25, .iload 5, 2), (27, .ifCond .eq 85, 3), (30, .iload 6, 2), (32, .aload_n 1, 1), (33, .getfield 19, 3), (36, .if_icmp .ge 76, 3), (39, .iload 4, 2), (41, .aload_n 1, 1), (42, .getfield 19, 3), (45, .if_icmp .ge 67, 3), (48, .aload_n 1, 1), (49, .iload 4, 2), (51, .aload_n 2, 1), (52, .invokevirtual 32, 3), (55, .istore 7, 2), (57, .iload 7, 2), (59, .ifCond .eq 16, 3), (62, .aload_n 0, 1), (63, .aload_n 3, 1), (64, .iconst 0, 1), (65, .aload_n 3, 1), (66, .getfield 19, 3), (69, .invokevirtual 40, 3), (72, .goto 14, 3), (75, .aload_n 0, 1), (76, .aload_n 1, 1), (77, .iload 4, 2), (79, .iload 4, 2), (81, .iconst 1, 1), (82, .iadd, 1), (83, .invokevirtual 40, 3), (86, .istore 5, 2), (88, .iload 4, 2), (90, .iload 7, 2), (92, .ifCond .eq 10, 3), (95, .aload_n 2, 1), (96, .getfield 19, 3), (99, .goto 4, 3), (102, .iconst 1, 1), (103, .iadd, 1), (104, .istore 4, 2), (106, .iinc 6 1, 3), (109, .goto (-84), 3), (112, .iload 5, 2), (114, .ireturn, 1)], 3, 5)
/-- EquationProofs$Term.variables()J -/
def mt_60 : am_M := (⟨"EquationProofs$Term", "variables", "()J"⟩, prog_12_method_14_code, 4, (some .long), ([(19, 5, 1), (13, 5, 0)], [], [], [], [], [(44, 53), (47, 54)]), [(0, .lconst 0, 1), (1, .lstore_n 1, 1), (2, .iconst 0, 1), (3, .istore_n 3, 1), (4, .iload_n 3, 1), (5, .aload_n 0, 1), (6, .getfield 19, 3), (9, .if_icmp .ge 36, 3), (12, .aload_n 0, 1), (13, .getfield 13, 3), (16, .iload_n 3, 1), (17, .iaload, 1), (18, .invokestatic 44, 3), (21, .iconst 3, 1), (22, .if_icmp .ne 17, 3), (25, .lload_n 1, 1), (26, .lconst 1, 1), (27, .aload_n 0, 1), (28, .getfield 13, 3), (31, .iload_n 3, 1), (32, .iaload, 1), (33, .invokestatic 47, 3), (36, .lshl, 1), (37, .lor, 1), (38, .lstore_n 1, 1), (39, .iinc 3 1, 3), (42, .goto (-38), 3), (45, .lload_n 1, 1), (46, .lreturn, 1)], 0, 5)
/-- EquationProofs$Reader.<init>(LEquationProofs$Tape;LEquationProofs$Program;)V -/
def mt_61 : am_M := (⟨"EquationProofs$Reader", "<init>", "(LEquationProofs$Tape;LEquationProofs$Program;)V"⟩, prog_8_method_1_code, 3, none, ([(23, 2, 3), (33, 4, 0)], [(9, 6, 2), (15, 6, 0), (19, 6, 1), (29, 6, 7), (39, 6, 8)], [], [], [], [(3, 0)]), [(0, .aload_n 0, 1), (1, .invokespecial 3, 3), (4, .aload_n 0, 1), (5, .bipush 40, 2), (7, .newarray .long, 2), (9, .putfield 9, 3), (12, .aload_n 0, 1), (13, .aload_n 1, 1), (14, .putfield 15, 3), (17, .aload_n 0, 1), (18, .aload_n 2, 1), (19, .putfield 19, 3), (22, .aload_n 0, 1), (23, .aload_n 2, 1), (24, .getfield 23, 3), (27, .iconst 0, 1), (28, .aaload, 1), (29, .putfield 29, 3), (32, .aload_n 0, 1), (33, .aload_n 2, 1), (34, .getfield 23, 3), (37, .iconst 0, 1), (38, .aaload, 1), (39, .getfield 33, 3), (42, .putfield 39, 3), (45, .return_, 1)], 2, 2000)
/-- EquationProofs$Reader.readText()I -/
def mt_62 : am_M := (⟨"EquationProofs$Reader", "readText", "()I"⟩, prog_8_method_2_code, 9, (some .int), ([(19, 6, 1), (42, 2, 0), (46, 3, 4), (52, 2, 1), (55, 2, 2), (58, 2, 5), (61, 2, 6), (15, 6, 0), (96, 6, 5)], [(69, 6, 3), (61, 2, 6), (46, 3, 4), (58, 2, 5)], [], [], [], [(64, 31), (72, 87), (76, 68), (80, 70), (83, 72), (86, 73), (89, 89), (92, 86), (99, 43)]), [(0, .aload_n 0, 1), (1, .getfield 19, 3), (4, .getfield 42, 3), (7, .getfield 46, 3), (10, .istore_n 1, 1), (11, .aload_n 0, 1), (12, .getfield 19, 3), (15, .getfield 52, 3), (18, .getfield 46, 3), (21, .istore_n 2, 1), (22, .aload_n 0, 1), (23, .getfield 19, 3), (26, .getfield 55, 3), (29, .getfield 46, 3), (32, .istore_n 3, 1), (33, .aload_n 0, 1), (34, .getfield 19, 3), (37, .getfield 58, 3), (40, .istore 4, 2), (42, .aload_n 0, 1), (43, .getfield 19, 3), (46, .getfield 61, 3), (49, .istore 5, 2), (51, .aload_n 0, 1), (52, .getfield 15, 3), (55, .invokevirtual 64, 3), (58, .aload_n 0, 1), (59, .iconst 0, 1), (60, .putfield 69, 3), (63, .iconst 0, 1), (64, .istore 6, 2), (66, .iconst 1, 1), (67, .istore 7, 2), (69, .iload 7, 2), (71, .ifCond .eq 155, 3), (74, .iload 6, 2), (76, .sipush 1000, 3), (79, .if_icmp .gt 147, 3), (82, .aload_n 0, 1), (83, .invokevirtual 72, 3), (86, .ifCond .eq 140, 3), (89, .aload_n 0, 1), (90, .invokevirtual 72, 3), (93, .istore 8, 2), (95, .iload 8, 2), (97, .tableswitch 67 4 7 #[31, 40, 49, 58], 31), (128, .aload_n 0, 1), (129, .invokevirtual 76, 3), (132, .istore 7, 2), (134, .goto 36, 3), (137, .aload_n 0, 1), (138, .invokevirtual 80, 3), (141, .istore 7, 2), (143, .goto 27, 3), (146, .aload_n 0, 1), (147, .invokevirtual 83, 3), (150, .istore 7, 2), (152, .goto 18, 3), (155, .aload_n 0, 1), (156, .invokevirtual 86, 3), (159, .istore 7, 2), (161, .goto 9, 3), (164, .aload_n 0, 1), (165, .invokevirtual 89, 3), (168, .istore 7, 2), (170, .iload 7, 2), (172, .ifCond .eq 16, 3), (175, .aload_n 0, 1), (176, .bipush 59, 2), (178, .invokevirtual 92, 3), (181, .ifCond .eq 7, 3), (184, .iconst 1, 1), (185, .goto 4, 3), (188, .iconst 0, 1), (189, .istore 7, 2), (191, .aload_n 0, 1), (192, .getfield 19, 3), (195, .dup, 1), (196, .getfield 61, 3), (199, .iload 7, 2), (201, .ifCond .eq 14, 3), (204, .iload 8, 2), (206, .bipush 7, 2), (208, .if_icmp .ne 7, 3), (211, .iconst 1, 1), (212, .goto 4, 3), (215, .iconst 0, 1), (216, .iadd, 1), (217, .putfield 61, 3), (220, .iinc 6 1, 3), (223, .goto (-154), 3), (226, .iload 7, 2), (228, .ifCond .ne 63, 3), (231, .aload_n 0, 1), (232, .getfield 19, 3), (235, .getfield 42, 3), (238, .iload_n 1, 1), (239, .putfield 46, 3), (242, .aload_n 0, 1), (243, .getfield 19, 3), (246, .getfield 52, 3), (249, .iload_n 2, 1), (250, .putfield 46, 3), (253, .aload_n 0, 1), (254, .getfield 19, 3), (257, .getfield 55, 3), (260, .iload_n 3, 1), (261, .putfield 46, 3), (264, .aload_n 0, 1), (265, .getfield 19, 3), (268, .iload 4, 2), (270, .putfield 58, 3), (273, .aload_n 0, 1), (274, .getfield 19, 3), (277, .iload 5, 2), (279, .putfield 61, 3), (282, .sipush (-1000), 3), (285, .aload_n 0, 1), (286, .getfield 96, 3), (289, .isub, 1), (290, .ireturn, 1), (291, .aload_n 0, 1), (292, .getfield 19, 3), (295, .getfield 58, 3), (298, .iload 4, 2), (300, .if_icmp .le 10, 3), (303, .aload_n 0, 1), (304, .getfield 19, 3), (307, .invokevirtual 99, 3), (310, .iload 6, 2), (312, .ireturn, 1)], 0, 6)
/-- EquationProofs$Reader.readClosedTerm(LEquationProofs$Term;)I -/
def mt_63 : am_M := (⟨"EquationProofs$Reader", "readClosedTerm", "(LEquationProofs$Term;)I"⟩, prog_8_method_3_code, 3, (some .int), ([(15, 6, 0), (96, 6, 5)], [(69, 6, 3), (102, 6, 6)], [], [], [], [(64, 31), (105, 85), (109, 77), (92, 86)]), [(0, .aload_n 0, 1), (1, .getfield 15, 3), (4, .invokevirtual 64, 3), (7, .aload_n 0, 1), (8, .iconst 0, 1), (9, .putfield 69, 3), (12, .aload_n 0, 1), (13, .iconst 2, 1), (14, .putfield 102, 3), (17, .aload_n 0, 1), (18, .aload_n 1, 1), (19, .invokevirtual 105, 3), (22, .aload_n 0, 1), (23, .iconst (-1), 1), (24, .iconst 0, 1), (25, .iconst 0, 1), (26, .invokevirtual 109, 3), (29, .ifCond .eq 15, 3), (32, .aload_n 0, 1), (33, .iconst 0, 1), (34, .invokevirtual 92, 3), (37, .ifCond .eq 7, 3), (40, .iconst 1, 1), (41, .goto 4, 3), (44, .iconst 0, 1), (45, .istore_n 2, 1), (46, .iload_n 2, 1), (47, .ifCond .eq 7, 3), (50, .iconst 0, 1), (51, .goto 11, 3), (54, .sipush (-1000), 3), (57, .aload_n 0, 1), (58, .getfield 96, 3), (61, .isub, 1), (62, .ireturn, 1)], 1, 6)
/-- EquationProofs$Reader.readData()Z -/
def mt_64 : am_M := (⟨"EquationProofs$Reader", "readData", "()Z"⟩, prog_8_method_4_code, 4, (some .boolean), ([(69, 6, 3), (19, 6, 1), (42, 2, 0), (46, 3, 4)], [(69, 6, 3)], [], [], [], [(113, 82), (92, 86), (117, 69), (72, 87)]), [(0, .aload_n 0, 1), (1, .dup, 1), (2, .getfield 69, 3), (5, .iconst 1, 1), (6, .iadd, 1), (7, .putfield 69, 3), (10, .aload_n 0, 1), (11, .aload_n 0, 1), (12, .getfield 19, 3), (15, .getfield 42, 3), (18, .iconst 3, 1), (19, .iconst (-1), 1), (20, .invokevirtual 113, 3), (23, .ifCond .eq 12, 3), (26, .aload_n 0, 1), (27, .bipush 61, 2), (29, .invokevirtual 92, 3), (32, .ifCond .ne 5, 3), (35, .iconst 0, 1), (36, .ireturn, 1), (37, .aload_n 0, 1), (38, .getfield 19, 3), (41, .getfield 42, 3), (44, .getfield 46, 3), (47, .iconst 1, 1), (48, .isub, 1), (49, .istore_n 1, 1), (50, .aload_n 0, 1), (51, .iload_n 1, 1), (52, .invokevirtual 117, 3), (55, .istore_n 2, 1), (56, .iconst 1, 1), (57, .istore_n 3, 1), (58, .iload_n 2, 1), (59, .ifCond .eq 40, 3), (62, .iload_n 3, 1), (63, .bipush 16, 2), (65, .if_icmp .gt 34, 3), (68, .aload_n 0, 1), (69, .invokevirtual 72, 3), (72, .bipush 124, 2), (74, .if_icmp .ne 25, 3), (77, .aload_n 0, 1), (78, .dup, 1), (79, .getfield 69, 3), (82, .iconst 1, 1), (83, .iadd, 1), (84, .putfield 69, 3), (87, .aload_n 0, 1), (88, .iload_n 1, 1), (89, .invokevirtual 117, 3), (92, .istore_n 2, 1), (93, .iinc 3 1, 3), (96, .goto (-38), 3), (99, .iload_n 2, 1), (100, .ireturn, 1)], 0, 6)
/-- EquationProofs$Reader.readConstructor(I)Z -/
def mt_65 : am_M := (⟨"EquationProofs$Reader", "readConstructor", "(I)Z"⟩, prog_8_method_5_code, 4, (some .boolean), ([(19, 6, 1), (52, 2, 1), (42, 2, 0), (69, 6, 3)], [(69, 6, 3)], [], [], [], [(113, 82), (72, 87), (120, 88), (124, 45), (128, 90), (131, 48)]), [(0, .aload_n 0, 1), (1, .aload_n 0, 1), (2, .getfield 19, 3), (5, .getfield 52, 3), (8, .iconst 3, 1), (9, .iload_n 1, 1), (10, .invokevirtual 113, 3), (13, .ifCond .ne 5, 3), (16, .iconst 0, 1), (17, .ireturn, 1), (18, .iconst 0, 1), (19, .istore_n 2, 1), (20, .iload_n 2, 1), (21, .iconst 3, 1), (22, .if_icmp .gt 74, 3), (25, .aload_n 0, 1), (26, .invokevirtual 72, 3), (29, .iconst 3, 1), (30, .if_icmp .ne 66, 3), (33, .aload_n 0, 1), (34, .getfield 19, 3), (37, .getfield 42, 3), (40, .aload_n 0, 1), (41, .invokevirtual 120, 3), (44, .invokevirtual 124, 3), (47, .istore_n 3, 1), (48, .iload_n 3, 1), (49, .ifCond .ge 9, 3), (52, .aload_n 0, 1), (53, .iconst 3, 1), (54, .invokevirtual 128, 3), (57, .ireturn, 1), (58, .iload_n 2, 1), (59, .iconst 3, 1), (60, .if_icmp .ne 9, 3), (63, .aload_n 0, 1), (64, .iconst 5, 1), (65, .invokevirtual 128, 3), (68, .ireturn, 1), (69, .aload_n 0, 1), (70, .getfield 19, 3), (73, .getfield 52, 3), (76, .iload_n 3, 1), (77, .invokevirtual 131, 3), (80, .aload_n 0, 1), (81, .dup, 1), (82, .getfield 69, 3), (85, .iconst 1, 1), (86, .iadd, 1), (87, .putfield 69, 3), (90, .iinc 2 1, 3), (93, .goto (-73), 3), (96, .iconst 1, 1), (97, .ireturn, 1)], 1, 6)
/-- EquationProofs$Reader.readFunction()Z -/
def mt_66 : am_M := (⟨"EquationProofs$Reader", "readFunction", "()Z"⟩, prog_8_method_6_code, 4, (some .boolean), ([(69, 6, 3), (19, 6, 1), (55, 2, 2), (46, 3, 4), (138, 3, 1)], [(69, 6, 3)], [], [], [], [(113, 82), (92, 86), (135, 71), (72, 87), (128, 90), (131, 48)]), [(0, .aload_n 0, 1), (1, .dup, 1), (2, .getfield 69, 3), (5, .iconst 1, 1), (6, .iadd, 1), (7, .putfield 69, 3), (10, .aload_n 0, 1), (11, .aload_n 0, 1), (12, .getfield 19, 3), (15, .getfield 55, 3), (18, .iconst 2, 1), (19, .iconst (-1), 1), (20, .invokevirtual 113, 3), (23, .ifCond .eq 12, 3), (26, .aload_n 0, 1), (27, .bipush 58, 2), (29, .invokevirtual 92, 3), (32, .ifCond .ne 5, 3), (35, .iconst 0, 1), (36, .ireturn, 1), (37, .aload_n 0, 1), (38, .getfield 19, 3), (41, .getfield 55, 3), (44, .getfield 46, 3), (47, .iconst 1, 1), (48, .isub, 1), (49, .istore_n 1, 1), (50, .iload_n 1, 1), (51, .ifCond .lt 15, 3), (54, .aload_n 0, 1), (55, .iload_n 1, 1), (56, .invokevirtual 135, 3), (59, .ifCond .eq 7, 3), (62, .iconst 1, 1), (63, .goto 4, 3), (66, .iconst 0, 1), (67, .istore_n 2, 1), (68, .iconst 0, 1), (69, .istore_n 3, 1), (70, .iload_n 2, 1), (71, .ifCond .eq 72, 3), (74, .iload_n 3, 1), (75, .iconst 4, 1), (76, .if_icmp .gt 67, 3), (79, .aload_n 0, 1), (80, .invokevirtual 72, 3), (83, .bipush 62, 2), (85, .if_icmp .ne 58, 3), (88, .iload_n 3, 1), (89, .iconst 4, 1), (90, .if_icmp .ne 9, 3), (93, .aload_n 0, 1), (94, .iconst 5, 1), (95, .invokevirtual 128, 3), (98, .ireturn, 1), (99, .aload_n 0, 1), (100, .getfield 19, 3), (103, .getfield 55, 3), (106, .aload_n 0, 1), (107, .getfield 19, 3), (110, .getfield 55, 3), (113, .getfield 138, 3), (116, .iload_n 1, 1), (117, .iaload, 1), (118, .invokevirtual 131, 3), (121, .aload_n 0, 1), (122, .dup, 1), (123, .getfield 69, 3), (126, .iconst 1, 1), (127, .iadd, 1), (128, .putfield 69, 3), (131, .aload_n 0, 1), (132, .iload_n 1, 1), (133, .invokevirtual 135, 3), (136, .istore_n 2, 1), (137, .iinc 3 1, 3), (140, .goto (-70), 3), (143, .iload_n 2, 1), (144, .ireturn, 1)], 0, 6)
/-- EquationProofs$Reader.readResult(I)Z -/
def mt_67 : am_M := (⟨"EquationProofs$Reader", "readResult", "(I)Z"⟩, prog_8_method_7_code, 3, (some .boolean), ([(19, 6, 1), (42, 2, 0), (55, 2, 2), (138, 3, 1), (69, 6, 3)], [(69, 6, 3)], [], [], [], [(72, 87), (89, 89), (120, 88), (124, 45), (128, 90)]), [(0, .aload_n 0, 1), (1, .invokevirtual 72, 3), (4, .iconst 3, 1), (5, .if_icmp .eq 8, 3), (8, .aload_n 0, 1), (9, .invokevirtual 89, 3), (12, .ireturn, 1), (13, .aload_n 0, 1), (14, .getfield 19, 3), (17, .getfield 42, 3), (20, .aload_n 0, 1), (21, .invokevirtual 120, 3), (24, .invokevirtual 124, 3), (27, .istore_n 2, 1), (28, .iload_n 2, 1), (29, .ifCond .ge 9, 3), (32, .aload_n 0, 1), (33, .iconst 3, 1), (34, .invokevirtual 128, 3), (37, .ireturn, 1), (38, .aload_n 0, 1), (39, .getfield 19, 3), (42, .getfield 55, 3), (45, .getfield 138, 3), (48, .iload_n 1, 1), (49, .iload_n 2, 1), (50, .iastore, 1), (51, .aload_n 0, 1), (52, .dup, 1), (53, .getfield 69, 3), (56, .iconst 1, 1), (57, .iadd, 1), (58, .putfield 69, 3), (61, .iconst 1, 1), (62, .ireturn, 1)], 1, 6)
/-- EquationProofs$Reader.readRule()Z -/
def mt_68 : am_M := (⟨"EquationProofs$Reader", "readRule", "()Z"⟩, prog_8_method_8_code, 5, (some .boolean), ([(19, 6, 1), (58, 2, 5), (69, 6, 3), (55, 2, 2), (23, 2, 3), (29, 6, 7), (148, 3, 2), (168, 4, 1), (138, 3, 1), (171, 6, 9)], [(69, 6, 3), (145, 4, 4), (174, 4, 3), (58, 2, 5)], [], [], [], [(128, 90), (72, 87), (89, 89), (120, 88), (124, 45), (141, 84), (153, 52), (157, 81), (160, 49), (164, 74), (92, 86), (105, 85), (109, 77)]), [(0, .aload_n 0, 1), (1, .getfield 19, 3), (4, .getfield 58, 3), (7, .bipush 40, 2), (9, .if_icmp .lt 9, 3), (12, .aload_n 0, 1), (13, .iconst 5, 1), (14, .invokevirtual 128, 3), (17, .ireturn, 1), (18, .aload_n 0, 1), (19, .dup, 1), (20, .getfield 69, 3), (23, .iconst 1, 1), (24, .iadd, 1), (25, .putfield 69, 3), (28, .aload_n 0, 1), (29, .invokevirtual 72, 3), (32, .iconst 2, 1), (33, .if_icmp .eq 8, 3), (36, .aload_n 0, 1), (37, .invokevirtual 89, 3), (40, .ireturn, 1), (41, .aload_n 0, 1), (42, .getfield 19, 3), (45, .getfield 55, 3), (48, .aload_n 0, 1), (49, .invokevirtual 120, 3), (52, .invokevirtual 124, 3), (55, .istore_n 1, 1), (56, .iload_n 1, 1), (57, .ifCond .ge 9, 3), (60, .aload_n 0, 1), (61, .iconst 3, 1), (62, .invokevirtual 128, 3), (65, .ireturn, 1), (66, .aload_n 0, 1), (67, .aload_n 0, 1), (68, .getfield 19, 3), (71, .getfield 23, 3), (74, .aload_n 0, 1), (75, .getfield 19, 3), (78, .getfield 58, 3), (81, .aaload, 1), (82, .iconst 0, 1), (83, .invokevirtual 141, 3), (86, .aload_n 0, 1), (87, .getfield 29, 3), (90, .iload_n 1, 1), (91, .putfield 145, 3), (94, .aload_n 0, 1), (95, .getfield 19, 3), (98, .getfield 55, 3), (101, .getfield 148, 3), (104, .iload_n 1, 1), (105, .iaload, 1), (106, .istore_n 2, 1), (107, .aload_n 0, 1), (108, .iconst 2, 1), (109, .iload_n 1, 1), (110, .iload_n 2, 1), (111, .invokestatic 153, 3), (114, .invokevirtual 157, 3), (117, .istore_n 3, 1), (118, .iconst 0, 1), (119, .istore 4, 2), (121, .iload_n 3, 1), (122, .ifCond .eq 34, 3), (125, .iload 4, 2), (127, .iload_n 2, 1), (128, .if_icmp .ge 28, 3), (131, .aload_n 0, 1), (132, .aload_n 0, 1), (133, .getfield 19, 3), (136, .getfield 55, 3), (139, .iload_n 1, 1), (140, .iload 4, 2), (142, .invokevirtual 160, 3), (145, .iconst 0, 1), (146, .invokevirtual 164, 3), (149, .istore_n 3, 1), (150, .iinc 4 1, 3), (153, .goto (-32), 3), (156, .iload_n 3, 1), (157, .ifCond .eq 12, 3), (160, .aload_n 0, 1), (161, .bipush 61, 2), (163, .invokevirtual 92, 3), (166, .ifCond .ne 5, 3), (169, .iconst 0, 1), (170, .ireturn, 1), (171, .aload_n 0, 1), (172, .aload_n 0, 1), (173, .getfield 29, 3), (176, .getfield 168, 3), (179, .invokevirtual 105, 3), (182, .aload_n 0, 1), (183, .aload_n 0, 1), (184, .getfield 19, 3), (187, .getfield 55, 3), (190, .getfield 138, 3), (193, .iload_n 1, 1), (194, .iaload, 1), (195, .iconst 0, 1), (196, .iconst 0, 1), (197, .invokevirtual 109, 3), (200, .ifCond .ne 5, 3), (203, .iconst 0, 1), (204, .ireturn, 1), (205, .aload_n 0, 1), (206, .getfield 29, 3), (209, .aload_n 0, 1), (210, .getfield 171, 3), (213, .putfield 174, 3), (216, .aload_n 0, 1), (217, .getfield 19, 3), (220, .dup, 1), (221, .getfield 58, 3), (224, .iconst 1, 1), (225, .iadd, 1), (226, .putfield 58, 3), (229, .iconst 1, 1), (230, .ireturn, 1)], 0, 6)
/-- EquationProofs$Reader.readLaw()Z -/
def mt_69 : am_M := (⟨"EquationProofs$Reader", "readLaw", "()Z"⟩, prog_8_method_9_code, 2, (some .boolean), ([(69, 6, 3), (19, 6, 1), (61, 2, 6), (179, 2, 4), (29, 6, 7), (33, 4, 0), (192, 4, 2), (168, 4, 1), (171, 6, 9)], [(69, 6, 3), (182, 4, 5), (185, 4, 6), (174, 4, 3)], [], [], [], [(72, 87), (89, 89), (120, 88), (175, 40), (128, 90), (141, 84), (92, 86), (109, 77), (188, 55), (193, 41), (105, 85)]), [(0, .aload_n 0, 1), (1, .dup, 1), (2, .getfield 69, 3), (5, .iconst 1, 1), (6, .iadd, 1), (7, .putfield 69, 3), (10, .aload_n 0, 1), (11, .invokevirtual 72, 3), (14, .iconst 2, 1), (15, .if_icmp .eq 8, 3), (18, .aload_n 0, 1), (19, .invokevirtual 89, 3), (22, .ireturn, 1), (23, .aload_n 0, 1), (24, .getfield 19, 3), (27, .aload_n 0, 1), (28, .invokevirtual 120, 3), (31, .invokevirtual 175, 3), (34, .ifCond .eq 9, 3), (37, .aload_n 0, 1), (38, .iconst 3, 1), (39, .invokevirtual 128, 3), (42, .ireturn, 1), (43, .aload_n 0, 1), (44, .getfield 19, 3), (47, .getfield 61, 3), (50, .bipush 16, 2), (52, .if_icmp .lt 9, 3), (55, .aload_n 0, 1), (56, .iconst 5, 1), (57, .invokevirtual 128, 3), (60, .ireturn, 1), (61, .aload_n 0, 1), (62, .aload_n 0, 1), (63, .getfield 19, 3), (66, .getfield 179, 3), (69, .aload_n 0, 1), (70, .getfield 19, 3), (73, .getfield 61, 3), (76, .aaload, 1), (77, .iconst 1, 1), (78, .invokevirtual 141, 3), (81, .aload_n 0, 1), (82, .getfield 29, 3), (85, .aload_n 0, 1), (86, .invokevirtual 120, 3), (89, .putfield 182, 3), (92, .aload_n 0, 1), (93, .getfield 29, 3), (96, .iconst 0, 1), (97, .putfield 185, 3), (100, .aload_n 0, 1), (101, .dup, 1), (102, .getfield 69, 3), (105, .iconst 1, 1), (106, .iadd, 1), (107, .putfield 69, 3), (110, .aload_n 0, 1), (111, .bipush 58, 2), (113, .invokevirtual 92, 3), (116, .ifCond .eq 23, 3), (119, .aload_n 0, 1), (120, .bipush (-2), 2), (122, .iconst 0, 1), (123, .iconst 0, 1), (124, .invokevirtual 109, 3), (127, .ifCond .eq 12, 3), (130, .aload_n 0, 1), (131, .bipush 61, 2), (133, .invokevirtual 92, 3), (136, .ifCond .ne 5, 3), (139, .iconst 0, 1), (140, .ireturn, 1), (141, .aload_n 0, 1), (142, .getfield 19, 3), (145, .aload_n 0, 1), (146, .getfield 29, 3), (149, .getfield 33, 3), (152, .iconst 0, 1), (153, .invokevirtual 188, 3), (156, .aload_n 0, 1), (157, .getfield 29, 3), (160, .getfield 192, 3), (163, .invokevirtual 193, 3), (166, .istore_n 1, 1), (167, .aload_n 0, 1), (168, .aload_n 0, 1), (169, .getfield 29, 3), (172, .getfield 168, 3), (175, .invokevirtual 105, 3), (178, .aload_n 0, 1), (179, .iload_n 1, 1), (180, .iconst 0, 1), (181, .iconst 0, 1), (182, .invokevirtual 109, 3), (185, .ifCond .ne 5, 3), (188, .iconst 0, 1), (189, .ireturn, 1), (190, .aload_n 0, 1), (191, .getfield 29, 3), (194, .aload_n 0, 1), (195, .getfield 171, 3), (198, .putfield 174, 3), (201, .iconst 1, 1), (202, .ireturn, 1)], 0, 6)
/-- EquationProofs$Reader.readPattern(II)Z -/
def mt_70 : am_M := (⟨"EquationProofs$Reader", "readPattern", "(II)Z"⟩, prog_8_method_10_code, 3, (some .boolean), ([(69, 6, 3)], [(69, 6, 3)], [], [], [], [(72, 87), (197, 75), (200, 76), (128, 90), (89, 89), (92, 86)]), [(0, .aload_n 0, 1), (1, .invokevirtual 72, 3), (4, .lookupswitch 112 #[(2, 36), (3, 42), (40, 50)], 36), (40, .aload_n 0, 1), (41, .iload_n 1, 1), (42, .invokevirtual 197, 3), (45, .ireturn, 1), (46, .aload_n 0, 1), (47, .iload_n 1, 1), (48, .iload_n 2, 1), (49, .iconst 0, 1), (50, .invokevirtual 200, 3), (53, .ireturn, 1), (54, .iload_n 2, 1), (55, .bipush 10, 2), (57, .if_icmp .lt 9, 3), (60, .aload_n 0, 1), (61, .iconst 5, 1), (62, .invokevirtual 128, 3), (65, .ireturn, 1), (66, .aload_n 0, 1), (67, .dup, 1), (68, .getfield 69, 3), (71, .iconst 1, 1), (72, .iadd, 1), (73, .putfield 69, 3), (76, .aload_n 0, 1), (77, .invokevirtual 72, 3), (80, .iconst 3, 1), (81, .if_icmp .eq 8, 3), (84, .aload_n 0, 1), (85, .invokevirtual 89, 3), (88, .ireturn, 1), (89, .aload_n 0, 1), (90, .iload_n 1, 1), (91, .iload_n 2, 1), (92, .iconst 1, 1), (93, .iadd, 1), (94, .iconst 1, 1), (95, .invokevirtual 200, 3), (98, .ifCond .eq 16, 3), (101, .aload_n 0, 1), (102, .bipush 41, 2), (104, .invokevirtual 92, 3), (107, .ifCond .eq 7, 3), (110, .iconst 1, 1), (111, .goto 4, 3), (114, .iconst 0, 1), (115, .ireturn, 1), (116, .aload_n 0, 1), (117, .invokevirtual 89, 3), (120, .ireturn, 1)], 2, 6)
/-- EquationProofs$Reader.readPatternVariable(I)Z -/
def mt_71 : am_M := (⟨"EquationProofs$Reader", "readPatternVariable", "(I)Z"⟩, prog_8_method_11_code, 2, (some .boolean), ([(19, 6, 1), (55, 2, 2)], [], [], [], [], [(120, 88), (124, 45), (128, 90), (203, 83), (206, 80), (153, 52), (157, 81)]), [(0, .aload_n 0, 1), (1, .getfield 19, 3), (4, .getfield 55, 3), (7, .aload_n 0, 1), (8, .invokevirtual 120, 3), (11, .invokevirtual 124, 3), (14, .ifCond .lt 9, 3), (17, .aload_n 0, 1), (18, .iconst 2, 1), (19, .invokevirtual 128, 3), (22, .ireturn, 1), (23, .aload_n 0, 1), (24, .invokevirtual 203, 3), (27, .ifCond .lt 9, 3), (30, .aload_n 0, 1), (31, .iconst 3, 1), (32, .invokevirtual 128, 3), (35, .ireturn, 1), (36, .aload_n 0, 1), (37, .iconst 3, 1), (38, .aload_n 0, 1), (39, .iload_n 1, 1), (40, .invokevirtual 206, 3), (43, .iconst 0, 1), (44, .invokestatic 153, 3), (47, .invokevirtual 157, 3), (50, .ireturn, 1)], 1, 6)
/-- EquationProofs$Reader.readPatternConstructor(IIZ)Z -/
def mt_72 : am_M := (⟨"EquationProofs$Reader", "readPatternConstructor", "(IIZ)Z"⟩, prog_8_method_12_code, 8, (some .boolean), ([(19, 6, 1), (52, 2, 1), (148, 3, 2), (138, 3, 1)], [], [], [], [], [(120, 88), (124, 45), (128, 90), (209, 42), (157, 81), (160, 49), (164, 74)]), [(0, .aload_n 0, 1), (1, .getfield 19, 3), (4, .getfield 52, 3), (7, .aload_n 0, 1), (8, .invokevirtual 120, 3), (11, .invokevirtual 124, 3), (14, .istore 4, 2), (16, .iload 4, 2), (18, .ifCond .ge 9, 3), (21, .aload_n 0, 1), (22, .iconst 3, 1), (23, .invokevirtual 128, 3), (26, .ireturn, 1), (27, .aload_n 0, 1), (28, .getfield 19, 3), (31, .getfield 52, 3), (34, .getfield 148, 3), (37, .iload 4, 2), (39, .iaload, 1), (40, .istore 5, 2), (42, .iload 5, 2), (44, .ifCond .le 13, 3), (47, .iload_n 3, 1), (48, .ifCond .ne 9, 3), (51, .aload_n 0, 1), (52, .iconst 2, 1), (53, .invokevirtual 128, 3), (56, .ireturn, 1), (57, .aload_n 0, 1), (58, .getfield 19, 3), (61, .getfield 52, 3), (64, .getfield 138, 3), (67, .iload 4, 2), (69, .iaload, 1), (70, .iload_n 1, 1), (71, .if_icmp .eq 9, 3), (74, .aload_n 0, 1), (75, .iconst 4, 1), (76, .invokevirtual 128, 3), (79, .ireturn, 1), (80, .aload_n 0, 1), (81, .aload_n 0, 1), (82, .getfield 19, 3), (85, .iload 4, 2), (87, .invokevirtual 209, 3), (90, .invokevirtual 157, 3), (93, .istore 6, 2), (95, .iconst 0, 1), (96, .istore 7, 2), (98, .iload 6, 2), (100, .ifCond .eq 37, 3), (103, .iload 7, 2), (105, .iload 5, 2), (107, .if_icmp .ge 30, 3), (110, .aload_n 0, 1), (111, .aload_n 0, 1), (112, .getfield 19, 3), (115, .getfield 52, 3), (118, .iload 4, 2), (120, .iload 7, 2), (122, .invokevirtual 160, 3), (125, .iload_n 2, 1), (126, .invokevirtual 164, 3), (129, .istore 6, 2), (131, .iinc 7 1, 3), (134, .goto (-36), 3), (137, .iload 6, 2), (139, .ireturn, 1)], 3, 6)
/-- EquationProofs$Reader.readTerm(IIZ)Z -/
def mt_73 : am_M := (⟨"EquationProofs$Reader", "readTerm", "(IIZ)Z"⟩, prog_8_method_13_code, 6, (some .boolean), ([(19, 6, 1), (55, 2, 2), (52, 2, 1), (69, 6, 3)], [(69, 6, 3)], [], [], [], [(72, 87), (120, 88), (124, 45), (212, 79), (215, 78), (128, 90), (157, 81), (109, 77), (92, 86), (89, 89)]), [(0, .aload_n 0, 1), (1, .invokevirtual 72, 3), (4, .lookupswitch 189 #[(2, 44), (3, 82), (40, 140), (95, 120)], 44), (48, .aload_n 0, 1), (49, .getfield 19, 3), (52, .getfield 55, 3), (55, .aload_n 0, 1), (56, .invokevirtual 120, 3), (59, .invokevirtual 124, 3), (62, .istore 4, 2), (64, .iload 4, 2), (66, .ifCond .ge 9, 3), (69, .aload_n 0, 1), (70, .iload_n 1, 1), (71, .invokevirtual 212, 3), (74, .ireturn, 1), (75, .aload_n 0, 1), (76, .iconst 2, 1), (77, .iload 4, 2), (79, .iload_n 1, 1), (80, .iload_n 2, 1), (81, .iload_n 3, 1), (82, .invokevirtual 215, 3), (85, .ireturn, 1), (86, .aload_n 0, 1), (87, .getfield 19, 3), (90, .getfield 52, 3), (93, .aload_n 0, 1), (94, .invokevirtual 120, 3), (97, .invokevirtual 124, 3), (100, .istore 5, 2), (102, .iload 5, 2), (104, .ifCond .ge 9, 3), (107, .aload_n 0, 1), (108, .iconst 3, 1), (109, .invokevirtual 128, 3), (112, .ireturn, 1), (113, .aload_n 0, 1), (114, .iconst 1, 1), (115, .iload 5, 2), (117, .iload_n 1, 1), (118, .iload_n 2, 1), (119, .iload_n 3, 1), (120, .invokevirtual 215, 3), (123, .ireturn, 1), (124, .iload_n 1, 1), (125, .bipush (-2), 2), (127, .if_icmp .ne 11, 3), (130, .aload_n 0, 1), (131, .iconst 2, 1), (132, .invokevirtual 128, 3), (135, .goto 8, 3), (138, .aload_n 0, 1), (139, .iconst 0, 1), (140, .invokevirtual 157, 3), (143, .ireturn, 1), (144, .iload_n 2, 1), (145, .bipush 10, 2), (147, .if_icmp .lt 9, 3), (150, .aload_n 0, 1), (151, .iconst 5, 1), (152, .invokevirtual 128, 3), (155, .ireturn, 1), (156, .aload_n 0, 1), (157, .dup, 1), (158, .getfield 69, 3), (161, .iconst 1, 1), (162, .iadd, 1), (163, .putfield 69, 3), (166, .aload_n 0, 1), (167, .iload_n 1, 1), (168, .iload_n 2, 1), (169, .iconst 1, 1), (170, .iadd, 1), (171, .iconst 0, 1), (172, .invokevirtual 109, 3), (175, .ifCond .eq 16, 3), (178, .aload_n 0, 1), (179, .bipush 41, 2), (181, .invokevirtual 92, 3), (184, .ifCond .eq 7, 3), (187, .iconst 1, 1), (188, .goto 4, 3), (191, .iconst 0, 1), (192, .ireturn, 1), (193, .aload_n 0, 1), (194, .invokevirtual 89, 3), (197, .ireturn, 1)], 3, 6)
/-- EquationProofs$Reader.readApplied(IIIIZ)Z -/
def mt_74 : am_M := (⟨"EquationProofs$Reader", "readApplied", "(IIIIZ)Z"⟩, prog_8_method_14_code, 10, (some .boolean), ([(19, 6, 1), (55, 2, 2), (52, 2, 1), (148, 3, 2), (138, 3, 1)], [], [], [], [], [(128, 90), (153, 52), (157, 81), (160, 49), (109, 77)]), [(0, .iload_n 1, 1), (1, .iconst 2, 1), (2, .if_icmp .ne 13, 3), (5, .aload_n 0, 1), (6, .getfield 19, 3), (9, .getfield 55, 3), (12, .goto 10, 3), (15, .aload_n 0, 1), (16, .getfield 19, 3), (19, .getfield 52, 3), (22, .astore 6, 2), (24, .aload 6, 2), (26, .getfield 148, 3), (29, .iload_n 2, 1), (30, .iaload, 1), (31, .istore 7, 2), (33, .iload 5, 2), (35, .ifCond .eq 14, 3), (38, .iload 7, 2), (40, .ifCond .le 9, 3), (43, .aload_n 0, 1), (44, .iconst 2, 1), (45, .invokevirtual 128, 3), (48, .ireturn, 1), (49, .iload_n 3, 1), (50, .ifCond .lt 20, 3), (53, .aload 6, 2), (55, .getfield 138, 3), (58, .iload_n 2, 1), (59, .iaload, 1), (60, .iload_n 3, 1), (61, .if_icmp .eq 9, 3), (64, .aload_n 0, 1), (65, .iconst 4, 1), (66, .invokevirtual 128, 3), (69, .ireturn, 1), (70, .aload_n 0, 1), (71, .iload_n 1, 1), (72, .iload_n 2, 1), (73, .iload 7, 2), (75, .invokestatic 153, 3), (78, .invokevirtual 157, 3), (81, .istore 8, 2), (83, .iconst 0, 1), (84, .istore 9, 2), (86, .iload 8, 2), (88, .ifCond .eq 33, 3), (91, .iload 9, 2), (93, .iload 7, 2), (95, .if_icmp .ge 26, 3), (98, .aload_n 0, 1), (99, .aload 6, 2), (101, .iload_n 2, 1), (102, .iload 9, 2), (104, .invokevirtual 160, 3), (107, .iload 4, 2), (109, .iconst 1, 1), (110, .invokevirtual 109, 3), (113, .istore 8, 2), (115, .iinc 9 1, 3), (118, .goto (-32), 3), (121, .iload 8, 2), (123, .ireturn, 1)], 5, 6)
/-- EquationProofs$Reader.readVariable(I)Z -/
def mt_75 : am_M := (⟨"EquationProofs$Reader", "readVariable", "(I)Z"⟩, prog_8_method_15_code, 3, (some .boolean), ([(102, 6, 6), (29, 6, 7), (192, 4, 2), (171, 6, 9)], [], [], [], [], [(128, 90), (203, 83), (206, 80), (153, 52), (157, 81)]), [(0, .iload_n 1, 1), (1, .bipush (-2), 2), (3, .if_icmp .ne 9, 3), (6, .aload_n 0, 1), (7, .iconst 2, 1), (8, .invokevirtual 128, 3), (11, .ireturn, 1), (12, .aload_n 0, 1), (13, .getfield 102, 3), (16, .iconst 2, 1), (17, .if_icmp .ne 7, 3), (20, .iconst (-1), 1), (21, .goto 7, 3), (24, .aload_n 0, 1), (25, .invokevirtual 203, 3), (28, .istore_n 2, 1), (29, .iload_n 2, 1), (30, .ifCond .ge 17, 3), (33, .aload_n 0, 1), (34, .getfield 102, 3), (37, .iconst 1, 1), (38, .if_icmp .eq 9, 3), (41, .aload_n 0, 1), (42, .iconst 3, 1), (43, .invokevirtual 128, 3), (46, .ireturn, 1), (47, .iload_n 2, 1), (48, .ifCond .lt 22, 3), (51, .aload_n 0, 1), (52, .getfield 29, 3), (55, .getfield 192, 3), (58, .iload_n 2, 1), (59, .iaload, 1), (60, .iload_n 1, 1), (61, .if_icmp .eq 9, 3), (64, .aload_n 0, 1), (65, .iconst 4, 1), (66, .invokevirtual 128, 3), (69, .ireturn, 1), (70, .iload_n 2, 1), (71, .ifCond .ge 18, 3), (74, .aload_n 0, 1), (75, .getfield 171, 3), (78, .bipush 6, 2), (80, .if_icmp .lt 9, 3), (83, .aload_n 0, 1), (84, .iconst 5, 1), (85, .invokevirtual 128, 3), (88, .ireturn, 1), (89, .aload_n 0, 1), (90, .iconst 3, 1), (91, .iload_n 2, 1), (92, .ifCond .ge 11, 3), (95, .aload_n 0, 1), (96, .iload_n 1, 1), (97, .invokevirtual 206, 3), (100, .goto 4, 3), (103, .iload_n 2, 1), (104, .iconst 0, 1), (105, .invokestatic 153, 3), (108, .invokevirtual 157, 3), (111, .ireturn, 1)], 1, 6)
/-- EquationProofs$Reader.tellVariable(I)I -/
def mt_76 : am_M := (⟨"EquationProofs$Reader", "tellVariable", "(I)I"⟩, prog_8_method_16_code, 3, (some .int), ([(171, 6, 9), (9, 6, 2), (29, 6, 7), (192, 4, 2)], [(171, 6, 9)], [], [], [], [(120, 88)]), [(0, .aload_n 0, 1), (1, .getfield 171, 3), (4, .istore_n 2, 1), (5, .iload_n 2, 1), (6, .aload_n 0, 1), (7, .getfield 9, 3), (10, .arraylength, 1), (11, .if_icmp .ge 33, 3), (14, .aload_n 0, 1), (15, .getfield 9, 3), (18, .iload_n 2, 1), (19, .aload_n 0, 1), (20, .invokevirtual 120, 3), (23, .lastore, 1), (24, .aload_n 0, 1), (25, .getfield 29, 3), (28, .getfield 192, 3), (31, .iload_n 2, 1), (32, .iload_n 1, 1), (33, .iastore, 1), (34, .aload_n 0, 1), (35, .dup, 1), (36, .getfield 171, 3), (39, .iconst 1, 1), (40, .iadd, 1), (41, .putfield 171, 3), (44, .iload_n 2, 1), (45, .ireturn, 1)], 1, 6)
/-- EquationProofs$Reader.addName(I)Z -/
def mt_77 : am_M := (⟨"EquationProofs$Reader", "addName", "(I)Z"⟩, prog_8_method_17_code, 2, (some .boolean), ([(39, 6, 8), (219, 5, 1), (69, 6, 3)], [(69, 6, 3)], [], [], [], [(128, 90), (222, 56)]), [(0, .aload_n 0, 1), (1, .getfield 39, 3), (4, .getfield 219, 3), (7, .bipush 40, 2), (9, .if_icmp .lt 9, 3), (12, .aload_n 0, 1), (13, .iconst 5, 1), (14, .invokevirtual 128, 3), (17, .ireturn, 1), (18, .aload_n 0, 1), (19, .getfield 39, 3), (22, .iload_n 1, 1), (23, .invokevirtual 222, 3), (26, .aload_n 0, 1), (27, .dup, 1), (28, .getfield 69, 3), (31, .iconst 1, 1), (32, .iadd, 1), (33, .putfield 69, 3), (36, .iconst 1, 1), (37, .ireturn, 1)], 1, 6)
/-- EquationProofs$Reader.tellName(LEquationProofs$Symbols;II)Z -/
def mt_78 : am_M := (⟨"EquationProofs$Reader", "tellName", "(LEquationProofs$Symbols;II)Z"⟩, prog_8_method_18_code, 4, (some .boolean), ([(69, 6, 3)], [(69, 6, 3)], [], [], [], [(72, 87), (89, 89), (120, 88), (124, 45), (128, 90), (225, 46), (228, 47)]), [(0, .aload_n 0, 1), (1, .invokevirtual 72, 3), (4, .iload_n 2, 1), (5, .if_icmp .eq 8, 3), (8, .aload_n 0, 1), (9, .invokevirtual 89, 3), (12, .ireturn, 1), (13, .aload_n 1, 1), (14, .aload_n 0, 1), (15, .invokevirtual 120, 3), (18, .invokevirtual 124, 3), (21, .ifCond .lt 9, 3), (24, .aload_n 0, 1), (25, .iconst 3, 1), (26, .invokevirtual 128, 3), (29, .ireturn, 1), (30, .aload_n 1, 1), (31, .invokevirtual 225, 3), (34, .ifCond .eq 9, 3), (37, .aload_n 0, 1), (38, .iconst 5, 1), (39, .invokevirtual 128, 3), (42, .ireturn, 1), (43, .aload_n 1, 1), (44, .aload_n 0, 1), (45, .invokevirtual 120, 3), (48, .iload_n 3, 1), (49, .invokevirtual 228, 3), (52, .aload_n 0, 1), (53, .dup, 1), (54, .getfield 69, 3), (57, .iconst 1, 1), (58, .iadd, 1), (59, .putfield 69, 3), (62, .iconst 1, 1), (63, .ireturn, 1)], 3, 6)
/-- EquationProofs$Reader.findVariable()I -/
def mt_79 : am_M := (⟨"EquationProofs$Reader", "findVariable", "()I"⟩, prog_8_method_19_code, 2, (some .int), ([(171, 6, 9), (9, 6, 2)], [], [], [], [], [(120, 88)]), [(0, .iconst 0, 1), (1, .istore_n 1, 1), (2, .iload_n 1, 1), (3, .aload_n 0, 1), (4, .getfield 171, 3), (7, .if_icmp .ge 34, 3), (10, .iload_n 1, 1), (11, .aload_n 0, 1), (12, .getfield 9, 3), (15, .arraylength, 1), (16, .if_icmp .ge 25, 3), (19, .aload_n 0, 1), (20, .getfield 9, 3), (23, .iload_n 1, 1), (24, .laload, 1), (25, .aload_n 0, 1), (26, .invokevirtual 120, 3), (29, .lcmp, 1), (30, .ifCond .ne 5, 3), (33, .iload_n 1, 1), (34, .ireturn, 1), (35, .iinc 1 1, 3), (38, .goto (-36), 3), (41, .iconst (-1), 1), (42, .ireturn, 1)], 0, 6)
/-- EquationProofs$Reader.startEquation(LEquationProofs$Equation;I)V -/
def mt_80 : am_M := (⟨"EquationProofs$Reader", "startEquation", "(LEquationProofs$Equation;I)V"⟩, prog_8_method_20_code, 3, none, ([(33, 4, 0)], [(29, 6, 7), (102, 6, 6), (171, 6, 9)], [], [], [], [(105, 85)]), [(0, .aload_n 0, 1), (1, .aload_n 1, 1), (2, .putfield 29, 3), (5, .aload_n 0, 1), (6, .iload_n 2, 1), (7, .putfield 102, 3), (10, .aload_n 0, 1), (11, .iconst 0, 1), (12, .putfield 171, 3), (15, .aload_n 0, 1), (16, .aload_n 1, 1), (17, .getfield 33, 3), (20, .invokevirtual 105, 3), (23, .return_, 1)], 2, 6)
/-- EquationProofs$Reader.startTerm(LEquationProofs$Term;)V -/
def mt_81 : am_M := (⟨"EquationProofs$Reader", "startTerm", "(LEquationProofs$Term;)V"⟩, prog_8_method_21_code, 2, none, ([(39, 6, 8)], [(39, 6, 8), (219, 5, 1)], [], [], [], []), [(0, .aload_n 0, 1), (1, .aload_n 1, 1), (2, .putfield 39, 3), (5, .aload_n 0, 1), (6, .getfield 39, 3), (9, .iconst 0, 1), (10, .putfield 219, 3), (13, .return_, 1)], 1, 6)
/-- EquationProofs$Reader.take(I)Z -/
def mt_82 : am_M := (⟨"EquationProofs$Reader", "take", "(I)Z"⟩, prog_8_method_22_code, 2, (some .boolean), ([(69, 6, 3)], [(69, 6, 3)], [], [], [], [(72, 87), (89, 89)]), [(0, .aload_n 0, 1), (1, .invokevirtual 72, 3), (4, .iload_n 1, 1), (5, .if_icmp .eq 8, 3), (8, .aload_n 0, 1), (9, .invokevirtual 89, 3), (12, .ireturn, 1), (13, .aload_n 0, 1), (14, .dup, 1), (15, .getfield 69, 3), (18, .iconst 1, 1), (19, .iadd, 1), (20, .putfield 69, 3), (23, .iconst 1, 1), (24, .ireturn, 1)], 1, 6)
/-- EquationProofs$Reader.token()I -/
def mt_83 : am_M := (⟨"EquationProofs$Reader", "token", "()I"⟩, prog_8_method_23_code, 1, (some .int), ([(69, 6, 3), (15, 6, 0), (232, 1, 5), (235, 1, 2)], [], [], [], [], []), [(0, .aload_n 0, 1), (1, .getfield 69, 3), (4, .ifCond .lt 32, 3), (7, .aload_n 0, 1), (8, .getfield 69, 3), (11, .aload_n 0, 1), (12, .getfield 15, 3), (15, .getfield 232, 3), (18, .if_icmp .ge 18, 3), (21, .aload_n 0, 1), (22, .getfield 15, 3), (25, .getfield 235, 3), (28, .aload_n 0, 1), (29, .getfield 69, 3), (32, .iaload, 1), (33, .goto 4, 3), (36, .iconst 0, 1), (37, .ireturn, 1)], 0, 6)
/-- EquationProofs$Reader.name()J -/
def mt_84 : am_M := (⟨"EquationProofs$Reader", "name", "()J"⟩, prog_8_method_24_code, 1, (some .long), ([(69, 6, 3), (15, 6, 0), (232, 1, 5), (238, 1, 4)], [], [], [], [], []), [(0, .aload_n 0, 1), (1, .getfield 69, 3), (4, .ifCond .lt 32, 3), (7, .aload_n 0, 1), (8, .getfield 69, 3), (11, .aload_n 0, 1), (12, .getfield 15, 3), (15, .getfield 232, 3), (18, .if_icmp .ge 18, 3), (21, .aload_n 0, 1), (22, .getfield 15, 3), (25, .getfield 238, 3), (28, .aload_n 0, 1), (29, .getfield 69, 3), (32, .laload, 1), (33, .goto 4, 3), (36, .lconst 0, 1), (37, .lreturn, 1)], 0, 6)
/-- EquationProofs$Reader.misplaced()Z -/
def mt_85 : am_M := (⟨"EquationProofs$Reader", "misplaced", "()Z"⟩, prog_8_method_25_code, 1, (some .boolean), ([], [], [], [], [], [(72, 87), (128, 90)]), [(0, .aload_n 0, 1), (1, .aload_n 0, 1), (2, .invokevirtual 72, 3), (5, .iconst 1, 1), (6, .if_icmp .ne 7, 3), (9, .iconst 1, 1), (10, .goto 4, 3), (13, .iconst 2, 1), (14, .invokevirtual 128, 3), (17, .ireturn, 1)], 0, 6)
/-- EquationProofs$Reader.fails(I)Z -/
def mt_86 : am_M := (⟨"EquationProofs$Reader", "fails", "(I)Z"⟩, prog_8_method_26_code, 2, (some .boolean), ([(69, 6, 3), (15, 6, 0), (232, 1, 5), (242, 1, 3), (245, 1, 1)], [(239, 6, 4), (96, 6, 5)], [], [], [], []), [(0, .aload_n 0, 1), (1, .iload_n 1, 1), (2, .putfield 239, 3), (5, .aload_n 0, 1), (6, .aload_n 0, 1), (7, .getfield 69, 3), (10, .ifCond .lt 32, 3), (13, .aload_n 0, 1), (14, .getfield 69, 3), (17, .aload_n 0, 1), (18, .getfield 15, 3), (21, .getfield 232, 3), (24, .if_icmp .ge 18, 3), (27, .aload_n 0, 1), (28, .getfield 15, 3), (31, .getfield 242, 3), (34, .aload_n 0, 1), (35, .getfield 69, 3), (38, .iaload, 1), (39, .goto 10, 3), (42, .aload_n 0, 1), (43, .getfield 15, 3), (46, .getfield 245, 3), (49, .putfield 96, 3), (52, .iconst 0, 1), (53, .ireturn, 1)], 1, 6)
/-- EquationProofs$Printer.<init>(LEquationProofs$Program;)V -/
def mt_87 : am_M := (⟨"EquationProofs$Printer", "<init>", "(LEquationProofs$Program;)V"⟩, prog_4_method_1_code, 2, none, ([], [(11, 7, 1), (15, 7, 2), (18, 7, 0)], [], [], [], [(3, 0)]), [(0, .aload_n 0, 1), (1, .invokespecial 3, 3), (4, .aload_n 0, 1), (5, .sipush 1080, 3), (8, .newarray .int, 2), (10, .putfield 11, 3), (13, .aload_n 0, 1), (14, .bipush 120, 2), (16, .newarray .int, 2), (18, .putfield 15, 3), (21, .aload_n 0, 1), (22, .aload_n 1, 1), (23, .putfield 18, 3), (26, .return_, 1)], 1, 2000)
/-- EquationProofs$Printer.print(LEquationProofs$Term;J)I -/
def mt_88 : am_M := (⟨"EquationProofs$Printer", "print", "(LEquationProofs$Term;J)I"⟩, prog_4_method_2_code, 8, (some .int), ([(26, 5, 1), (31, 5, 0), (15, 7, 2), (22, 7, 3)], [(22, 7, 3)], [], [], [], [(34, 96), (38, 94), (42, 93)]), [(0, .aload_n 0, 1), (1, .iconst 0, 1), (2, .putfield 22, 3), (5, .iconst 0, 1), (6, .istore 4, 2), (8, .iconst 0, 1), (9, .istore 5, 2), (11, .iload 5, 2), (13, .aload_n 1, 1), (14, .getfield 26, 3), (17, .if_icmp .ge 97, 3), (20, .aload_n 1, 1), (21, .getfield 31, 3), (24, .iload 5, 2), (26, .iaload, 1), (27, .istore 6, 2), (29, .iload 6, 2), (31, .bipush 7, 2), (33, .iand, 1), (34, .istore 7, 2), (36, .iload 5, 2), (38, .ifCond .le 9, 3), (41, .aload_n 0, 1), (42, .bipush 32, 2), (44, .invokevirtual 34, 3), (47, .iload 5, 2), (49, .ifCond .le 14, 3), (52, .iload 7, 2), (54, .ifCond .le 9, 3), (57, .aload_n 0, 1), (58, .bipush 40, 2), (60, .invokevirtual 34, 3), (63, .aload_n 0, 1), (64, .iload 6, 2), (66, .lload_n 2, 1), (67, .invokevirtual 38, 3), (70, .iload 7, 2), (72, .ifCond .le 28, 3), (75, .iload 4, 2), (77, .aload_n 0, 1), (78, .getfield 15, 3), (81, .arraylength, 1), (82, .if_icmp .ge 18, 3), (85, .aload_n 0, 1), (86, .getfield 15, 3), (89, .iload 4, 2), (91, .iload 7, 2), (93, .iastore, 1), (94, .iinc 4 1, 3), (97, .goto 11, 3), (100, .aload_n 0, 1), (101, .iload 4, 2), (103, .invokevirtual 42, 3), (106, .istore 4, 2), (108, .iinc 5 1, 3), (111, .goto (-100), 3), (114, .aload_n 0, 1), (115, .getfield 22, 3), (118, .ireturn, 1)], 2, 7)
/-- EquationProofs$Printer.closeAll(I)I -/
def mt_89 : am_M := (⟨"EquationProofs$Printer", "closeAll", "(I)I"⟩, prog_4_method_3_code, 3, (some .int), ([(15, 7, 2)], [], [], [], [], [(34, 96)]), [(0, .iload_n 1, 1), (1, .istore_n 2, 1), (2, .iload_n 2, 1), (3, .ifCond .le 44, 3), (6, .aload_n 0, 1), (7, .getfield 15, 3), (10, .iload_n 2, 1), (11, .iconst 1, 1), (12, .isub, 1), (13, .dup2, 1), (14, .iaload, 1), (15, .iconst 1, 1), (16, .isub, 1), (17, .iastore, 1), (18, .aload_n 0, 1), (19, .getfield 15, 3), (22, .iload_n 2, 1), (23, .iconst 1, 1), (24, .isub, 1), (25, .iaload, 1), (26, .ifCond .le 5, 3), (29, .iload_n 2, 1), (30, .ireturn, 1), (31, .iinc 2 (-1), 3), (34, .iload_n 2, 1), (35, .ifCond .le (-33), 3), (38, .aload_n 0, 1), (39, .bipush 41, 2), (41, .invokevirtual 34, 3), (44, .goto (-42), 3), (47, .iload_n 2, 1), (48, .ireturn, 1)], 1, 7)
/-- EquationProofs$Printer.putNameOf(IJ)V -/
def mt_90 : am_M := (⟨"EquationProofs$Printer", "putNameOf", "(IJ)V"⟩, prog_4_method_4_code, 5, none, ([(18, 7, 0), (52, 2, 1), (58, 3, 4), (63, 3, 0), (71, 2, 2)], [], [], [], [], [(46, 54), (49, 53), (67, 95), (34, 96)]), [(0, .iload_n 1, 1), (1, .invokestatic 46, 3), (4, .istore 4, 2), (6, .iload_n 1, 1), (7, .invokestatic 49, 3), (10, .tableswitch 160 1 3 #[26, 65, 104], 26), (36, .aload_n 0, 1), (37, .iload 4, 2), (39, .aload_n 0, 1), (40, .getfield 18, 3), (43, .getfield 52, 3), (46, .getfield 58, 3), (49, .if_icmp .ge 19, 3), (52, .aload_n 0, 1), (53, .getfield 18, 3), (56, .getfield 52, 3), (59, .getfield 63, 3), (62, .iload 4, 2), (64, .laload, 1), (65, .goto 4, 3), (68, .lconst 0, 1), (69, .invokevirtual 67, 3), (72, .goto 104, 3), (75, .aload_n 0, 1), (76, .iload 4, 2), (78, .aload_n 0, 1), (79, .getfield 18, 3), (82, .getfield 71, 3), (85, .getfield 58, 3), (88, .if_icmp .ge 19, 3), (91, .aload_n 0, 1), (92, .getfield 18, 3), (95, .getfield 71, 3), (98, .getfield 63, 3), (101, .iload 4, 2), (103, .laload, 1), (104, .goto 4, 3), (107, .lconst 0, 1), (108, .invokevirtual 67, 3), (111, .goto 65, 3), (114, .aload_n 0, 1), (115, .lload_n 2, 1), (116, .iload 4, 2), (118, .lshr, 1), (119, .lconst 1, 1), (120, .land, 1), (121, .lconst 1, 1), (122, .lcmp, 1), (123, .ifCond .ne 8, 3), (126, .bipush 102, 2), (128, .goto 5, 3), (131, .bipush 118, 2), (133, .invokevirtual 34, 3), (136, .iload 4, 2), (138, .bipush 10, 2), (140, .if_icmp .lt 15, 3), (143, .aload_n 0, 1), (144, .bipush 48, 2), (146, .iload 4, 2), (148, .bipush 10, 2), (150, .idiv, 1), (151, .iadd, 1), (152, .invokevirtual 34, 3), (155, .aload_n 0, 1), (156, .bipush 48, 2), (158, .iload 4, 2), (160, .bipush 10, 2), (162, .irem, 1), (163, .iadd, 1), (164, .invokevirtual 34, 3), (167, .goto 9, 3), (170, .aload_n 0, 1), (171, .bipush 95, 2), (173, .invokevirtual 34, 3), (176, .return_, 1)], 2, 7)
end
section
/-! the methods -/
/-- EquationProofs$Printer.putName(J)V -/
def mt_91 : am_M := (⟨"EquationProofs$Printer", "putName", "(J)V"⟩, prog_4_method_5_code, 5, none, ([], [], [], [], [(74, .long 255)], [(34, 96)]), [(0, .bipush 40, 2), (2, .istore_n 3, 1), (3, .iload_n 3, 1), (4, .ifCond .lt 30, 3), (7, .lload_n 1, 1), (8, .iload_n 3, 1), (9, .lshr, 1), (10, .ldc2_w 74, 3), (13, .land, 1), (14, .l2i, 1), (15, .istore 4, 2), (17, .iload 4, 2), (19, .ifCond .eq 9, 3), (22, .aload_n 0, 1), (23, .iload 4, 2), (25, .invokevirtual 34, 3), (28, .iinc 3 (-8), 3), (31, .goto (-28), 3), (34, .return_, 1)], 1, 7)
/-- EquationProofs$Printer.putByte(I)V -/
def mt_92 : am_M := (⟨"EquationProofs$Printer", "putByte", "(I)V"⟩, prog_4_method_6_code, 2, none, ([(22, 7, 3), (11, 7, 1)], [(22, 7, 3)], [], [], [], []), [(0, .aload_n 0, 1), (1, .getfield 22, 3), (4, .aload_n 0, 1), (5, .getfield 11, 3), (8, .arraylength, 1), (9, .if_icmp .ge 23, 3), (12, .aload_n 0, 1), (13, .getfield 11, 3), (16, .aload_n 0, 1), (17, .getfield 22, 3), (20, .iload_n 1, 1), (21, .iastore, 1), (22, .aload_n 0, 1), (23, .dup, 1), (24, .getfield 22, 3), (27, .iconst 1, 1), (28, .iadd, 1), (29, .putfield 22, 3), (32, .return_, 1)], 1, 7)
/-- EquationProofs$Rewriter.<init>(LEquationProofs$Program;)V -/
def mt_93 : am_M := (⟨"EquationProofs$Rewriter", "<init>", "(LEquationProofs$Program;)V"⟩, prog_9_method_1_code, 2, none, ([(20, 8, 2), (31, 5, 0)], [(9, 8, 1), (20, 8, 2), (24, 8, 3), (27, 8, 0), (34, 5, 1), (38, 8, 4)], [(15, 5)], [], [], [(3, 0), (17, 51)]), [(0, .aload_n 0, 1), (1, .invokespecial 3, 3), (4, .aload_n 0, 1), (5, .bipush 60, 2), (7, .newarray .int, 2), (9, .putfield 9, 3), (12, .aload_n 0, 1), (13, .new 15, 3), (16, .dup, 1), (17, .iconst 1, 1), (18, .invokespecial 17, 3), (21, .putfield 20, 3), (24, .aload_n 0, 1), (25, .new 15, 3), (28, .dup, 1), (29, .bipush 120, 2), (31, .invokespecial 17, 3), (34, .putfield 24, 3), (37, .aload_n 0, 1), (38, .aload_n 1, 1), (39, .putfield 27, 3), (42, .aload_n 0, 1), (43, .getfield 20, 3), (46, .getfield 31, 3), (49, .iconst 0, 1), (50, .iconst 0, 1), (51, .iastore, 1), (52, .aload_n 0, 1), (53, .getfield 20, 3), (56, .iconst 1, 1), (57, .putfield 34, 3), (60, .aload_n 0, 1), (61, .aload_n 0, 1), (62, .getfield 20, 3), (65, .putfield 38, 3), (68, .return_, 1)], 1, 2000)
/-- EquationProofs$Rewriter.matchCall(LEquationProofs$Term;I)I -/
def mt_94 : am_M := (⟨"EquationProofs$Rewriter", "matchCall", "(LEquationProofs$Term;I)I"⟩, prog_9_method_2_code, 8, (some .int), ([(20, 8, 2), (27, 8, 0), (51, 2, 5), (56, 2, 3), (60, 4, 4), (65, 4, 0), (72, 4, 1)], [(38, 8, 4)], [], [], [], [(41, 55), (45, 53), (48, 54), (68, 99)]), [(0, .aload_n 0, 1), (1, .aload_n 0, 1), (2, .getfield 20, 3), (5, .putfield 38, 3), (8, .aload_n 1, 1), (9, .iload_n 2, 1), (10, .invokevirtual 41, 3), (13, .istore_n 3, 1), (14, .iload_n 3, 1), (15, .invokestatic 45, 3), (18, .iconst 2, 1), (19, .if_icmp .eq 5, 3), (22, .iconst 1, 1), (23, .ireturn, 1), (24, .iload_n 3, 1), (25, .invokestatic 48, 3), (28, .istore 4, 2), (30, .iconst 0, 1), (31, .istore 5, 2), (33, .iload 5, 2), (35, .aload_n 0, 1), (36, .getfield 27, 3), (39, .getfield 51, 3), (42, .if_icmp .ge 71, 3), (45, .aload_n 0, 1), (46, .getfield 27, 3), (49, .getfield 56, 3), (52, .iload 5, 2), (54, .aaload, 1), (55, .astore 6, 2), (57, .aload 6, 2), (59, .getfield 60, 3), (62, .iload 4, 2), (64, .if_icmp .ne 17, 3), (67, .aload_n 0, 1), (68, .aload 6, 2), (70, .getfield 65, 3), (73, .aload_n 1, 1), (74, .iload_n 2, 1), (75, .invokevirtual 68, 3), (78, .goto 4, 3), (81, .iconst 3, 1), (82, .istore 7, 2), (84, .iload 7, 2), (86, .ifCond .ne 12, 3), (89, .aload_n 0, 1), (90, .aload 6, 2), (92, .getfield 72, 3), (95, .putfield 38, 3), (98, .iload 7, 2), (100, .iconst 3, 1), (101, .if_icmp .eq 6, 3), (104, .iload 7, 2), (106, .ireturn, 1), (107, .iinc 5 1, 3), (110, .goto (-77), 3), (113, .iconst 1, 1), (114, .ireturn, 1)], 2, 8)
/-- EquationProofs$Rewriter.matchRule(LEquationProofs$Term;LEquationProofs$Term;I)I -/
def mt_95 : am_M := (⟨"EquationProofs$Rewriter", "matchRule", "(LEquationProofs$Term;LEquationProofs$Term;I)I"⟩, prog_9_method_3_code, 9, (some .int), ([(34, 5, 1), (31, 5, 0), (9, 8, 1)], [(78, 8, 5)], [], [], [], [(41, 55), (48, 54), (45, 53), (75, 57)]), [(0, .iload_n 3, 1), (1, .iconst 1, 1), (2, .iadd, 1), (3, .istore 4, 2), (5, .iconst 1, 1), (6, .istore 5, 2), (8, .iload 5, 2), (10, .aload_n 1, 1), (11, .getfield 34, 3), (14, .if_icmp .ge 111, 3), (17, .aload_n 1, 1), (18, .getfield 31, 3), (21, .iload 5, 2), (23, .iaload, 1), (24, .istore 6, 2), (26, .aload_n 2, 1), (27, .iload 4, 2), (29, .invokevirtual 41, 3), (32, .istore 7, 2), (34, .iload 6, 2), (36, .invokestatic 48, 3), (39, .istore 8, 2), (41, .iload 6, 2), (43, .invokestatic 45, 3), (46, .iconst 3, 1), (47, .if_icmp .ne 33, 3), (50, .iload 8, 2), (52, .aload_n 0, 1), (53, .getfield 9, 3), (56, .arraylength, 1), (57, .if_icmp .ge 23, 3), (60, .aload_n 0, 1), (61, .getfield 9, 3), (64, .iload 8, 2), (66, .iload 4, 2), (68, .iastore, 1), (69, .aload_n 2, 1), (70, .iload 4, 2), (72, .invokevirtual 75, 3), (75, .istore 4, 2), (77, .goto 42, 3), (80, .iload 7, 2), (82, .iload 6, 2), (84, .if_icmp .ne 9, 3), (87, .iinc 4 1, 3), (90, .goto 29, 3), (93, .iload 7, 2), (95, .ifCond .ne 5, 3), (98, .iconst 1, 1), (99, .ireturn, 1), (100, .iload 7, 2), (102, .invokestatic 45, 3), (105, .iconst 1, 1), (106, .if_icmp .eq 11, 3), (109, .aload_n 0, 1), (110, .iload 4, 2), (112, .putfield 78, 3), (115, .iconst 2, 1), (116, .ireturn, 1), (117, .iconst 3, 1), (118, .ireturn, 1), (119, .iinc 5 1, 3), (122, .goto (-114), 3), (125, .iconst 0, 1), (126, .ireturn, 1)], 3, 8)
/-- EquationProofs$Rewriter.matchSide(LEquationProofs$Term;JLEquationProofs$Term;I)Z -/
def mt_96 : am_M := (⟨"EquationProofs$Rewriter", "matchSide", "(LEquationProofs$Term;JLEquationProofs$Term;I)Z"⟩, prog_9_method_4_code, 11, (some .boolean), ([(9, 8, 1), (34, 5, 1), (31, 5, 0)], [], [], [], [], [(41, 55), (45, 53), (48, 54), (81, 62), (75, 57)]), [(0, .aload_n 1, 1), (1, .iconst 0, 1), (2, .invokevirtual 41, 3), (5, .istore 6, 2), (7, .iload 6, 2), (9, .invokestatic 45, 3), (12, .iconst 3, 1), (13, .if_icmp .eq 17, 3), (16, .iload 6, 2), (18, .aload 4, 2), (20, .iload 5, 2), (22, .invokevirtual 41, 3), (25, .if_icmp .eq 5, 3), (28, .iconst 0, 1), (29, .ireturn, 1), (30, .iconst 0, 1), (31, .istore 7, 2), (33, .iload 7, 2), (35, .aload_n 0, 1), (36, .getfield 9, 3), (39, .arraylength, 1), (40, .if_icmp .ge 17, 3), (43, .aload_n 0, 1), (44, .getfield 9, 3), (47, .iload 7, 2), (49, .iconst (-1), 1), (50, .iastore, 1), (51, .iinc 7 1, 3), (54, .goto (-21), 3), (57, .iload 5, 2), (59, .istore 7, 2), (61, .iconst 0, 1), (62, .istore 8, 2), (64, .iload 8, 2), (66, .aload_n 1, 1), (67, .getfield 34, 3), (70, .if_icmp .ge 138, 3), (73, .aload_n 1, 1), (74, .getfield 31, 3), (77, .iload 8, 2), (79, .iaload, 1), (80, .istore 9, 2), (82, .iload 9, 2), (84, .invokestatic 48, 3), (87, .istore 10, 2), (89, .iload 9, 2), (91, .invokestatic 45, 3), (94, .iconst 3, 1), (95, .if_icmp .ne 77, 3), (98, .iload 10, 2), (100, .aload_n 0, 1), (101, .getfield 9, 3), (104, .arraylength, 1), (105, .if_icmp .ge 67, 3), (108, .lload_n 2, 1), (109, .iload 10, 2), (111, .lshr, 1), (112, .lconst 1, 1), (113, .land, 1), (114, .lconst 1, 1), (115, .lcmp, 1), (116, .ifCond .ne 56, 3), (119, .aload_n 0, 1), (120, .getfield 9, 3), (123, .iload 10, 2), (125, .iaload, 1), (126, .ifCond .ge 15, 3), (129, .aload_n 0, 1), (130, .getfield 9, 3), (133, .iload 10, 2), (135, .iload 7, 2), (137, .iastore, 1), (138, .goto 22, 3), (141, .aload 4, 2), (143, .aload_n 0, 1), (144, .getfield 9, 3), (147, .iload 10, 2), (149, .iaload, 1), (150, .iload 7, 2), (152, .invokevirtual 81, 3), (155, .ifCond .ne 5, 3), (158, .iconst 0, 1), (159, .ireturn, 1), (160, .aload 4, 2), (162, .iload 7, 2), (164, .invokevirtual 75, 3), (167, .istore 7, 2), (169, .goto 33, 3), (172, .iload 7, 2), (174, .aload 4, 2), (176, .getfield 34, 3), (179, .if_icmp .ge 21, 3), (182, .aload 4, 2), (184, .iload 7, 2), (186, .invokevirtual 41, 3), (189, .iload 9, 2), (191, .if_icmp .ne 9, 3), (194, .iinc 7 1, 3), (197, .goto 5, 3), (200, .iconst 0, 1), (201, .ireturn, 1), (202, .iinc 8 1, 3), (205, .goto (-141), 3), (208, .iconst 1, 1), (209, .ireturn, 1)], 4, 8)
/-- EquationProofs$Rewriter.isBound(LEquationProofs$Term;J)Z -/
def mt_97 : am_M := (⟨"EquationProofs$Rewriter", "isBound", "(LEquationProofs$Term;J)Z"⟩, prog_9_method_5_code, 6, (some .boolean), ([(34, 5, 1), (31, 5, 0), (9, 8, 1)], [], [], [], [], [(48, 54), (45, 53)]), [(0, .iconst 0, 1), (1, .istore 4, 2), (3, .iload 4, 2), (5, .aload_n 1, 1), (6, .getfield 34, 3), (9, .if_icmp .ge 68, 3), (12, .aload_n 1, 1), (13, .getfield 31, 3), (16, .iload 4, 2), (18, .iaload, 1), (19, .invokestatic 48, 3), (22, .istore 5, 2), (24, .aload_n 1, 1), (25, .getfield 31, 3), (28, .iload 4, 2), (30, .iaload, 1), (31, .invokestatic 45, 3), (34, .iconst 3, 1), (35, .if_icmp .ne 36, 3), (38, .iload 5, 2), (40, .aload_n 0, 1), (41, .getfield 9, 3), (44, .arraylength, 1), (45, .if_icmp .ge 26, 3), (48, .lload_n 2, 1), (49, .iload 5, 2), (51, .lshr, 1), (52, .lconst 1, 1), (53, .land, 1), (54, .lconst 1, 1), (55, .lcmp, 1), (56, .ifCond .ne 15, 3), (59, .aload_n 0, 1), (60, .getfield 9, 3), (63, .iload 5, 2), (65, .iaload, 1), (66, .ifCond .ge 5, 3), (69, .iconst 0, 1), (70, .ireturn, 1), (71, .iinc 4 1, 3), (74, .goto (-71), 3), (77, .iconst 1, 1), (78, .ireturn, 1)], 2, 8)
/-- EquationProofs$Rewriter.replaceAt(LEquationProofs$Term;ILEquationProofs$Term;LEquationProofs$Term;)Z -/
def mt_98 : am_M := (⟨"EquationProofs$Rewriter", "replaceAt", "(LEquationProofs$Term;ILEquationProofs$Term;LEquationProofs$Term;)Z"⟩, prog_9_method_6_code, 10, (some .boolean), ([(34, 5, 1), (31, 5, 0), (9, 8, 1)], [(34, 5, 1)], [], [], [], [(85, 58), (48, 54), (45, 53), (75, 57)]), [(0, .aload 4, 2), (2, .iconst 0, 1), (3, .putfield 34, 3), (6, .aload 4, 2), (8, .aload_n 1, 1), (9, .iconst 0, 1), (10, .iload_n 2, 1), (11, .invokevirtual 85, 3), (14, .ifCond .ne 5, 3), (17, .iconst 0, 1), (18, .ireturn, 1), (19, .iconst 0, 1), (20, .istore 5, 2), (22, .iload 5, 2), (24, .aload_n 3, 1), (25, .getfield 34, 3), (28, .if_icmp .ge 100, 3), (31, .aload_n 3, 1), (32, .getfield 31, 3), (35, .iload 5, 2), (37, .iaload, 1), (38, .istore 6, 2), (40, .iload 6, 2), (42, .invokestatic 48, 3), (45, .istore 7, 2), (47, .iload 6, 2), (49, .invokestatic 45, 3), (52, .iconst 3, 1), (53, .if_icmp .ne 23, 3), (56, .iload 7, 2), (58, .aload_n 0, 1), (59, .getfield 9, 3), (62, .arraylength, 1), (63, .if_icmp .ge 13, 3), (66, .aload_n 0, 1), (67, .getfield 9, 3), (70, .iload 7, 2), (72, .iaload, 1), (73, .goto 4, 3), (76, .iconst (-1), 1), (77, .istore 8, 2), (79, .iload 8, 2), (81, .ifCond .ge 18, 3), (84, .aload 4, 2), (86, .aload_n 3, 1), (87, .iload 5, 2), (89, .iload 5, 2), (91, .iconst 1, 1), (92, .iadd, 1), (93, .invokevirtual 85, 3), (96, .goto 17, 3), (99, .aload 4, 2), (101, .aload_n 1, 1), (102, .iload 8, 2), (104, .aload_n 1, 1), (105, .iload 8, 2), (107, .invokevirtual 75, 3), (110, .invokevirtual 85, 3), (113, .istore 9, 2), (115, .iload 9, 2), (117, .ifCond .ne 5, 3), (120, .iconst 0, 1), (121, .ireturn, 1), (122, .iinc 5 1, 3), (125, .goto (-103), 3), (128, .aload 4, 2), (130, .aload_n 1, 1), (131, .aload_n 1, 1), (132, .iload_n 2, 1), (133, .invokevirtual 75, 3), (136, .aload_n 1, 1), (137, .getfield 34, 3), (140, .invokevirtual 85, 3), (143, .ireturn, 1)], 4, 8)
/-- EquationProofs$Rewriter.workOut(LEquationProofs$Term;I)I -/
def mt_99 : am_M := (⟨"EquationProofs$Rewriter", "workOut", "(LEquationProofs$Term;I)I"⟩, prog_9_method_7_code, 6, (some .int), ([(89, 8, 6), (34, 5, 1), (78, 8, 5), (38, 8, 4), (24, 8, 3)], [(89, 8, 6)], [], [], [], [(92, 104), (96, 98), (100, 102), (104, 59)]), [(0, .aload_n 0, 1), (1, .iconst 0, 1), (2, .putfield 89, 3), (5, .aload_n 1, 1), (6, .invokestatic 92, 3), (9, .istore_n 3, 1), (10, .iload_n 3, 1), (11, .ifCond .lt 101, 3), (14, .aload_n 0, 1), (15, .getfield 89, 3), (18, .iload_n 2, 1), (19, .if_icmp .ge 93, 3), (22, .aload_n 0, 1), (23, .aload_n 1, 1), (24, .iload_n 3, 1), (25, .invokevirtual 96, 3), (28, .istore 4, 2), (30, .iconst 0, 1), (31, .istore 5, 2), (33, .iload 4, 2), (35, .iconst 2, 1), (36, .if_icmp .ne 31, 3), (39, .iload 5, 2), (41, .aload_n 1, 1), (42, .getfield 34, 3), (45, .if_icmp .ge 22, 3), (48, .aload_n 0, 1), (49, .getfield 78, 3), (52, .istore_n 3, 1), (53, .aload_n 0, 1), (54, .aload_n 1, 1), (55, .iload_n 3, 1), (56, .invokevirtual 96, 3), (59, .istore 4, 2), (61, .iinc 5 1, 3), (64, .goto (-31), 3), (67, .aload_n 0, 1), (68, .aload_n 1, 1), (69, .iload_n 3, 1), (70, .aload_n 0, 1), (71, .getfield 38, 3), (74, .aload_n 0, 1), (75, .getfield 24, 3), (78, .invokevirtual 100, 3), (81, .ifCond .ne 5, 3), (84, .iconst 2, 1), (85, .ireturn, 1), (86, .aload_n 1, 1), (87, .aload_n 0, 1), (88, .getfield 24, 3), (91, .invokevirtual 104, 3), (94, .aload_n 0, 1), (95, .dup, 1), (96, .getfield 89, 3), (99, .iconst 1, 1), (100, .iadd, 1), (101, .putfield 89, 3), (104, .aload_n 1, 1), (105, .invokestatic 92, 3), (108, .istore_n 3, 1), (109, .goto (-99), 3), (112, .iload_n 3, 1), (113, .ifCond .ge 7, 3), (116, .iconst 0, 1), (117, .goto 4, 3), (120, .iconst 1, 1), (121, .ireturn, 1)], 2, 8)
/-- EquationProofs$Rewriter.firstCall(LEquationProofs$Term;)I -/
def mt_100 : am_M := (⟨"EquationProofs$Rewriter", "firstCall", "(LEquationProofs$Term;)I"⟩, prog_9_method_8_code, 2, (some .int), ([(34, 5, 1), (31, 5, 0)], [], [], [], [], [(45, 53)]), [(0, .iconst 0, 1), (1, .istore_n 1, 1), (2, .iload_n 1, 1), (3, .aload_n 0, 1), (4, .getfield 34, 3), (7, .if_icmp .ge 24, 3), (10, .aload_n 0, 1), (11, .getfield 31, 3), (14, .iload_n 1, 1), (15, .iaload, 1), (16, .invokestatic 45, 3), (19, .iconst 2, 1), (20, .if_icmp .ne 5, 3), (23, .iload_n 1, 1), (24, .ireturn, 1), (25, .iinc 1 1, 3), (28, .goto (-26), 3), (31, .iconst (-1), 1), (32, .ireturn, 1)], 1, 1000)
/-- EquationProofs$Trial.<init>(LEquationProofs$Program;LEquationProofs$Rewriter;)V -/
def mt_101 : am_M := (⟨"EquationProofs$Trial", "<init>", "(LEquationProofs$Program;LEquationProofs$Rewriter;)V"⟩, prog_13_method_1_code, 4, none, ([(23, 9, 5), (27, 9, 6)], [(11, 9, 2), (15, 9, 3), (18, 9, 4), (23, 9, 5), (27, 9, 6), (33, 9, 7), (37, 9, 8), (40, 9, 10), (44, 9, 0), (48, 9, 1)], [(21, 5)], [(21, "EquationProofs$Term")], [], [(3, 0), (30, 51)]), [(0, .aload_n 0, 1), (1, .invokespecial 3, 3), (4, .aload_n 0, 1), (5, .bipush 42, 2), (7, .newarray .int, 2), (9, .putfield 11, 3), (12, .aload_n 0, 1), (13, .sipush 448, 3), (16, .newarray .int, 2), (18, .putfield 15, 3), (21, .aload_n 0, 1), (22, .bipush 6, 2), (24, .newarray .int, 2), (26, .putfield 18, 3), (29, .aload_n 0, 1), (30, .bipush 6, 2), (32, .anewarray 21, 3), (35, .putfield 23, 3), (38, .aload_n 0, 1), (39, .bipush 6, 2), (41, .anewarray 21, 3), (44, .putfield 27, 3), (47, .aload_n 0, 1), (48, .new 21, 3), (51, .dup, 1), (52, .sipush 240, 3), (55, .invokespecial 30, 3), (58, .putfield 33, 3), (61, .aload_n 0, 1), (62, .new 21, 3), (65, .dup, 1), (66, .sipush 240, 3), (69, .invokespecial 30, 3), (72, .putfield 37, 3), (75, .aload_n 0, 1), (76, .iconst (-1), 1), (77, .putfield 40, 3), (80, .aload_n 0, 1), (81, .aload_n 1, 1), (82, .putfield 44, 3), (85, .aload_n 0, 1), (86, .aload_n 2, 1), (87, .putfield 48, 3), (90, .iconst 0, 1), (91, .istore_n 3, 1), (92, .iload_n 3, 1), (93, .bipush 6, 2), (95, .if_icmp .ge 39, 3), (98, .aload_n 0, 1), (99, .getfield 23, 3), (102, .iload_n 3, 1), (103, .new 21, 3), (106, .dup, 1), (107, .bipush 6, 2), (109, .invokespecial 30, 3), (112, .aastore, 1), (113, .aload_n 0, 1), (114, .getfield 27, 3), (117, .iload_n 3, 1), (118, .new 21, 3), (121, .dup, 1), (122, .bipush 6, 2), (124, .invokespecial 30, 3), (127, .aastore, 1), (128, .iinc 3 1, 3), (131, .goto (-39), 3), (134, .return_, 1)], 2, 2000)
/-- EquationProofs$Trial.tryLaw(LEquationProofs$Equation;IZ)I -/
def mt_102 : am_M := (⟨"EquationProofs$Trial", "tryLaw", "(LEquationProofs$Equation;IZ)I"⟩, prog_13_method_2_code, 8, (some .int), ([], [(52, 9, 9)], [], [], [], [(56, 110), (59, 114), (63, 107), (66, 108), (70, 1)]), [(0, .aload_n 0, 1), (1, .iload_n 3, 1), (2, .putfield 52, 3), (5, .aload_n 0, 1), (6, .iload_n 2, 1), (7, .invokevirtual 56, 3), (10, .aload_n 0, 1), (11, .aload_n 1, 1), (12, .iload_n 2, 1), (13, .invokevirtual 59, 3), (16, .istore 4, 2), (18, .iload 4, 2), (20, .sipush 2000, 3), (23, .if_icmp .le 6, 3), (26, .bipush (-105), 2), (28, .ireturn, 1), (29, .iconst 0, 1), (30, .istore 5, 2), (32, .iconst 0, 1), (33, .istore 6, 2), (35, .iload 6, 2), (37, .iload 4, 2), (39, .if_icmp .ge 40, 3), (42, .aload_n 0, 1), (43, .aload_n 1, 1), (44, .iload 6, 2), (46, .invokevirtual 63, 3), (49, .istore 7, 2), (51, .iload 7, 2), (53, .iconst 1, 1), (54, .if_icmp .ne 10, 3), (57, .aload_n 0, 1), (58, .aload_n 1, 1), (59, .invokevirtual 66, 3), (62, .iconst 1, 1), (63, .ireturn, 1), (64, .iload 5, 2), (66, .iload 7, 2), (68, .invokestatic 70, 3), (71, .istore 5, 2), (73, .iinc 6 1, 3), (76, .goto (-41), 3), (79, .iload 5, 2), (81, .ireturn, 1)], 3, 9)
/-- EquationProofs$Trial.tryRow(LEquationProofs$Equation;I)I -/
def mt_103 : am_M := (⟨"EquationProofs$Trial", "tryRow", "(LEquationProofs$Equation;I)I"⟩, prog_13_method_3_code, 3, (some .int), ([(80, 4, 0), (33, 9, 7), (87, 4, 1), (37, 9, 8), (48, 9, 1)], [], [], [], [], [(76, 115), (83, 109), (88, 103), (94, 61)]), [(0, .aload_n 0, 1), (1, .aload_n 1, 1), (2, .iload_n 2, 1), (3, .invokevirtual 76, 3), (6, .aload_n 0, 1), (7, .aload_n 1, 1), (8, .getfield 80, 3), (11, .aload_n 0, 1), (12, .getfield 33, 3), (15, .invokevirtual 83, 3), (18, .aload_n 0, 1), (19, .aload_n 1, 1), (20, .getfield 87, 3), (23, .aload_n 0, 1), (24, .getfield 37, 3), (27, .invokevirtual 83, 3), (30, .aload_n 0, 1), (31, .getfield 48, 3), (34, .aload_n 0, 1), (35, .getfield 33, 3), (38, .sipush 300, 3), (41, .invokevirtual 88, 3), (44, .ifCond .ne 20, 3), (47, .aload_n 0, 1), (48, .getfield 48, 3), (51, .aload_n 0, 1), (52, .getfield 37, 3), (55, .sipush 300, 3), (58, .invokevirtual 88, 3), (61, .ifCond .eq 5, 3), (64, .iconst 2, 1), (65, .ireturn, 1), (66, .aload_n 0, 1), (67, .getfield 33, 3), (70, .aload_n 0, 1), (71, .getfield 37, 3), (74, .invokevirtual 94, 3), (77, .ifCond .eq 7, 3), (80, .iconst 0, 1), (81, .goto 4, 3), (84, .iconst 1, 1), (85, .ireturn, 1)], 2, 9)
/-- EquationProofs$Trial.tellRow(LEquationProofs$Equation;)V -/
def mt_104 : am_M := (⟨"EquationProofs$Trial", "tellRow", "(LEquationProofs$Equation;)V"⟩, prog_13_method_4_code, 3, none, ([(98, 4, 3), (40, 9, 10), (27, 9, 6), (23, 9, 5)], [(40, 9, 10)], [], [], [], [(101, 2), (104, 59)]), [(0, .aload_n 0, 1), (1, .aload_n 1, 1), (2, .getfield 98, 3), (5, .bipush 6, 2), (7, .invokestatic 101, 3), (10, .putfield 40, 3), (13, .iconst 0, 1), (14, .istore_n 2, 1), (15, .iload_n 2, 1), (16, .aload_n 0, 1), (17, .getfield 40, 3), (20, .if_icmp .ge 24, 3), (23, .aload_n 0, 1), (24, .getfield 27, 3), (27, .iload_n 2, 1), (28, .aaload, 1), (29, .aload_n 0, 1), (30, .getfield 23, 3), (33, .iload_n 2, 1), (34, .aaload, 1), (35, .invokevirtual 104, 3), (38, .iinc 2 1, 3), (41, .goto (-26), 3), (44, .return_, 1)], 1, 9)
/-- EquationProofs$Trial.fill(LEquationProofs$Term;LEquationProofs$Term;)V -/
def mt_105 : am_M := (⟨"EquationProofs$Trial", "fill", "(LEquationProofs$Term;LEquationProofs$Term;)V"⟩, prog_13_method_5_code, 5, none, ([(108, 5, 1), (111, 5, 0), (23, 9, 5)], [(108, 5, 1)], [], [], [], [(114, 54), (118, 53), (121, 58), (125, 56)]), [(0, .aload_n 2, 1), (1, .iconst 0, 1), (2, .putfield 108, 3), (5, .iconst 0, 1), (6, .istore_n 3, 1), (7, .iload_n 3, 1), (8, .aload_n 1, 1), (9, .getfield 108, 3), (12, .if_icmp .ge 79, 3), (15, .aload_n 1, 1), (16, .getfield 111, 3), (19, .iload_n 3, 1), (20, .iaload, 1), (21, .invokestatic 114, 3), (24, .istore 4, 2), (26, .aload_n 1, 1), (27, .getfield 111, 3), (30, .iload_n 3, 1), (31, .iaload, 1), (32, .invokestatic 118, 3), (35, .iconst 3, 1), (36, .if_icmp .ne 39, 3), (39, .iload 4, 2), (41, .aload_n 0, 1), (42, .getfield 23, 3), (45, .arraylength, 1), (46, .if_icmp .ge 29, 3), (49, .aload_n 2, 1), (50, .aload_n 0, 1), (51, .getfield 23, 3), (54, .iload 4, 2), (56, .aaload, 1), (57, .iconst 0, 1), (58, .aload_n 0, 1), (59, .getfield 23, 3), (62, .iload 4, 2), (64, .aaload, 1), (65, .getfield 108, 3), (68, .invokevirtual 121, 3), (71, .pop, 1), (72, .goto 13, 3), (75, .aload_n 2, 1), (76, .aload_n 1, 1), (77, .getfield 111, 3), (80, .iload_n 3, 1), (81, .iaload, 1), (82, .invokevirtual 125, 3), (85, .iinc 3 1, 3), (88, .goto (-81), 3), (91, .return_, 1)], 2, 9)
/-- EquationProofs$Trial.countValues(I)V -/
def mt_106 : am_M := (⟨"EquationProofs$Trial", "countValues", "(I)V"⟩, prog_13_method_6_code, 6, none, ([(44, 9, 0), (128, 2, 0), (134, 3, 4), (11, 9, 2), (52, 9, 9), (139, 2, 1), (142, 3, 1)], [], [], [], [], [(144, 111), (101, 2)]), [(0, .iconst 1, 1), (1, .istore_n 2, 1), (2, .iload_n 2, 1), (3, .iload_n 1, 1), (4, .if_icmp .gt 148, 3), (7, .iconst 0, 1), (8, .istore_n 3, 1), (9, .iload_n 3, 1), (10, .aload_n 0, 1), (11, .getfield 44, 3), (14, .getfield 128, 3), (17, .getfield 134, 3), (20, .if_icmp .ge 37, 3), (23, .aload_n 0, 1), (24, .getfield 11, 3), (27, .iload_n 3, 1), (28, .bipush 7, 2), (30, .imul, 1), (31, .iload_n 2, 1), (32, .iadd, 1), (33, .aload_n 0, 1), (34, .getfield 52, 3), (37, .ifCond .eq 12, 3), (40, .iload_n 2, 1), (41, .iconst 1, 1), (42, .if_icmp .ne 7, 3), (45, .iconst 1, 1), (46, .goto 4, 3), (49, .iconst 0, 1), (50, .iastore, 1), (51, .iinc 3 1, 3), (54, .goto (-45), 3), (57, .iconst 0, 1), (58, .istore_n 3, 1), (59, .iload_n 3, 1), (60, .aload_n 0, 1), (61, .getfield 44, 3), (64, .getfield 139, 3), (67, .getfield 134, 3), (70, .if_icmp .ge 76, 3), (73, .aload_n 0, 1), (74, .getfield 44, 3), (77, .getfield 139, 3), (80, .getfield 142, 3), (83, .iload_n 3, 1), (84, .iaload, 1), (85, .bipush 7, 2), (87, .imul, 1), (88, .iload_n 2, 1), (89, .iadd, 1), (90, .istore 4, 2), (92, .aload_n 0, 1), (93, .iload_n 3, 1), (94, .iload_n 2, 1), (95, .iconst 1, 1), (96, .isub, 1), (97, .invokevirtual 144, 3), (100, .istore 5, 2), (102, .iload 4, 2), (104, .ifCond .lt 36, 3), (107, .iload 4, 2), (109, .aload_n 0, 1), (110, .getfield 11, 3), (113, .arraylength, 1), (114, .if_icmp .ge 26, 3), (117, .aload_n 0, 1), (118, .getfield 11, 3), (121, .iload 4, 2), (123, .aload_n 0, 1), (124, .getfield 11, 3), (127, .iload 4, 2), (129, .iaload, 1), (130, .iload 5, 2), (132, .iadd, 1), (133, .sipush 2001, 3), (136, .invokestatic 101, 3), (139, .iastore, 1), (140, .iinc 3 1, 3), (143, .goto (-84), 3), (146, .iinc 2 1, 3), (149, .goto (-147), 3), (152, .return_, 1)], 1, 9)
/-- EquationProofs$Trial.countTuples(II)I -/
def mt_107 : am_M := (⟨"EquationProofs$Trial", "countTuples", "(II)I"⟩, prog_13_method_7_code, 7, (some .int), ([(44, 9, 0), (139, 2, 1), (147, 3, 2), (15, 9, 3)], [], [], [], [], [(101, 2), (150, 49), (153, 112), (156, 113)]), [(0, .aload_n 0, 1), (1, .getfield 44, 3), (4, .getfield 139, 3), (7, .getfield 147, 3), (10, .iload_n 1, 1), (11, .iaload, 1), (12, .iconst 3, 1), (13, .invokestatic 101, 3), (16, .istore_n 3, 1), (17, .iload_n 3, 1), (18, .istore 4, 2), (20, .iload 4, 2), (22, .ifCond .lt 109, 3), (25, .iload 4, 2), (27, .iload_n 3, 1), (28, .if_icmp .ne 11, 3), (31, .iload_n 2, 1), (32, .ifCond .ne 7, 3), (35, .iconst 1, 1), (36, .goto 4, 3), (39, .iconst 0, 1), (40, .istore 5, 2), (42, .iconst 1, 1), (43, .istore 6, 2), (45, .iload 4, 2), (47, .iload_n 3, 1), (48, .if_icmp .ge 53, 3), (51, .iload 6, 2), (53, .iload_n 2, 1), (54, .if_icmp .gt 47, 3), (57, .iload 5, 2), (59, .aload_n 0, 1), (60, .aload_n 0, 1), (61, .getfield 44, 3), (64, .getfield 139, 3), (67, .iload_n 1, 1), (68, .iload 4, 2), (70, .invokevirtual 150, 3), (73, .iload 6, 2), (75, .invokevirtual 153, 3), (78, .aload_n 0, 1), (79, .iload_n 1, 1), (80, .iload 4, 2), (82, .iconst 1, 1), (83, .iadd, 1), (84, .iload_n 2, 1), (85, .iload 6, 2), (87, .isub, 1), (88, .invokevirtual 156, 3), (91, .imul, 1), (92, .iadd, 1), (93, .istore 5, 2), (95, .iinc 6 1, 3), (98, .goto (-53), 3), (101, .aload_n 0, 1), (102, .getfield 15, 3), (105, .iload_n 1, 1), (106, .iconst 4, 1), (107, .imul, 1), (108, .iload 4, 2), (110, .iadd, 1), (111, .bipush 7, 2), (113, .imul, 1), (114, .iload_n 2, 1), (115, .iadd, 1), (116, .iload 5, 2), (118, .sipush 2001, 3), (121, .invokestatic 101, 3), (124, .iastore, 1), (125, .iinc 4 (-1), 3), (128, .goto (-108), 3), (131, .aload_n 0, 1), (132, .iload_n 1, 1), (133, .iconst 0, 1), (134, .iload_n 2, 1), (135, .invokevirtual 156, 3), (138, .ireturn, 1)], 2, 9)
/-- EquationProofs$Trial.valuesOf(II)I -/
def mt_108 : am_M := (⟨"EquationProofs$Trial", "valuesOf", "(II)I"⟩, prog_13_method_8_code, 4, (some .int), ([(11, 9, 2)], [], [], [], [], []), [(0, .iload_n 1, 1), (1, .bipush 7, 2), (3, .imul, 1), (4, .iload_n 2, 1), (5, .iadd, 1), (6, .istore_n 3, 1), (7, .iload_n 1, 1), (8, .ifCond .lt 31, 3), (11, .iload_n 2, 1), (12, .ifCond .lt 27, 3), (15, .iload_n 2, 1), (16, .bipush 7, 2), (18, .if_icmp .ge 21, 3), (21, .iload_n 3, 1), (22, .aload_n 0, 1), (23, .getfield 11, 3), (26, .arraylength, 1), (27, .if_icmp .ge 12, 3), (30, .aload_n 0, 1), (31, .getfield 11, 3), (34, .iload_n 3, 1), (35, .iaload, 1), (36, .goto 4, 3), (39, .iconst 0, 1), (40, .ireturn, 1)], 2, 9)
/-- EquationProofs$Trial.tuplesOf(III)I -/
def mt_109 : am_M := (⟨"EquationProofs$Trial", "tuplesOf", "(III)I"⟩, prog_13_method_9_code, 5, (some .int), ([(15, 9, 3)], [], [], [], [], []), [(0, .iload_n 1, 1), (1, .iconst 4, 1), (2, .imul, 1), (3, .iload_n 2, 1), (4, .iadd, 1), (5, .bipush 7, 2), (7, .imul, 1), (8, .iload_n 3, 1), (9, .iadd, 1), (10, .istore 4, 2), (12, .iload_n 1, 1), (13, .ifCond .lt 42, 3), (16, .iload_n 2, 1), (17, .ifCond .lt 38, 3), (20, .iload_n 2, 1), (21, .iconst 4, 1), (22, .if_icmp .ge 33, 3), (25, .iload_n 3, 1), (26, .ifCond .lt 29, 3), (29, .iload_n 3, 1), (30, .bipush 7, 2), (32, .if_icmp .ge 23, 3), (35, .iload 4, 2), (37, .aload_n 0, 1), (38, .getfield 15, 3), (41, .arraylength, 1), (42, .if_icmp .ge 13, 3), (45, .aload_n 0, 1), (46, .getfield 15, 3), (49, .iload 4, 2), (51, .iaload, 1), (52, .goto 4, 3), (55, .iconst 0, 1), (56, .ireturn, 1)], 3, 9)
/-- EquationProofs$Trial.countRows(LEquationProofs$Equation;I)I -/
def mt_110 : am_M := (⟨"EquationProofs$Trial", "countRows", "(LEquationProofs$Equation;I)I"⟩, prog_13_method_10_code, 7, (some .int), ([(98, 4, 3), (160, 4, 2), (18, 9, 4)], [], [], [], [], [(153, 112), (101, 2)]), [(0, .iconst 1, 1), (1, .istore_n 3, 1), (2, .iconst 0, 1), (3, .istore 4, 2), (5, .iload 4, 2), (7, .aload_n 1, 1), (8, .getfield 98, 3), (11, .if_icmp .ge 83, 3), (14, .iload 4, 2), (16, .bipush 6, 2), (18, .if_icmp .ge 76, 3), (21, .iconst 0, 1), (22, .istore 5, 2), (24, .iconst 1, 1), (25, .istore 6, 2), (27, .iload 6, 2), (29, .iload_n 2, 1), (30, .if_icmp .gt 27, 3), (33, .iload 5, 2), (35, .aload_n 0, 1), (36, .aload_n 1, 1), (37, .getfield 160, 3), (40, .iload 4, 2), (42, .iaload, 1), (43, .iload 6, 2), (45, .invokevirtual 153, 3), (48, .iadd, 1), (49, .istore 5, 2), (51, .iinc 6 1, 3), (54, .goto (-27), 3), (57, .aload_n 0, 1), (58, .getfield 18, 3), (61, .iload 4, 2), (63, .iload 5, 2), (65, .sipush 2001, 3), (68, .invokestatic 101, 3), (71, .iastore, 1), (72, .iload_n 3, 1), (73, .aload_n 0, 1), (74, .getfield 18, 3), (77, .iload 4, 2), (79, .iaload, 1), (80, .imul, 1), (81, .sipush 2001, 3), (84, .invokestatic 101, 3), (87, .istore_n 3, 1), (88, .iinc 4 1, 3), (91, .goto (-86), 3), (94, .iload_n 3, 1), (95, .ireturn, 1)], 2, 9)
/-- EquationProofs$Trial.setValues(LEquationProofs$Equation;I)V -/
def mt_111 : am_M := (⟨"EquationProofs$Trial", "setValues", "(LEquationProofs$Equation;I)V"⟩, prog_13_method_11_code, 8, none, ([(98, 4, 3), (18, 9, 4), (160, 4, 2), (23, 9, 5)], [(108, 5, 1)], [], [], [], [(101, 2), (70, 1), (153, 112), (161, 116)]), [(0, .iload_n 2, 1), (1, .istore_n 3, 1), (2, .aload_n 1, 1), (3, .getfield 98, 3), (6, .bipush 6, 2), (8, .invokestatic 101, 3), (11, .iconst 1, 1), (12, .isub, 1), (13, .istore 4, 2), (15, .iload 4, 2), (17, .ifCond .lt 118, 3), (20, .aload_n 0, 1), (21, .getfield 18, 3), (24, .iload 4, 2), (26, .iaload, 1), (27, .iconst 1, 1), (28, .invokestatic 70, 3), (31, .istore 5, 2), (33, .iload_n 3, 1), (34, .iload 5, 2), (36, .irem, 1), (37, .istore 6, 2), (39, .iload_n 3, 1), (40, .iload 5, 2), (42, .idiv, 1), (43, .istore_n 3, 1), (44, .iconst 1, 1), (45, .istore 7, 2), (47, .iload 7, 2), (49, .bipush 6, 2), (51, .if_icmp .ge 45, 3), (54, .iload 6, 2), (56, .aload_n 0, 1), (57, .aload_n 1, 1), (58, .getfield 160, 3), (61, .iload 4, 2), (63, .iaload, 1), (64, .iload 7, 2), (66, .invokevirtual 153, 3), (69, .if_icmp .lt 27, 3), (72, .iload 6, 2), (74, .aload_n 0, 1), (75, .aload_n 1, 1), (76, .getfield 160, 3), (79, .iload 4, 2), (81, .iaload, 1), (82, .iload 7, 2), (84, .invokevirtual 153, 3), (87, .isub, 1), (88, .istore 6, 2), (90, .iinc 7 1, 3), (93, .goto (-46), 3), (96, .aload_n 0, 1), (97, .getfield 23, 3), (100, .iload 4, 2), (102, .aaload, 1), (103, .iconst 0, 1), (104, .putfield 108, 3), (107, .aload_n 0, 1), (108, .aload_n 1, 1), (109, .getfield 160, 3), (112, .iload 4, 2), (114, .iaload, 1), (115, .iload 7, 2), (117, .iload 6, 2), (119, .aload_n 0, 1), (120, .getfield 23, 3), (123, .iload 4, 2), (125, .aaload, 1), (126, .invokevirtual 161, 3), (129, .iinc 4 (-1), 3), (132, .goto (-117), 3), (135, .return_, 1)], 2, 9)
/-- EquationProofs$Trial.putValue(IIILEquationProofs$Term;)V -/
def mt_112 : am_M := (⟨"EquationProofs$Trial", "putValue", "(IIILEquationProofs$Term;)V"⟩, prog_13_method_12_code, 8, none, ([(52, 9, 9), (44, 9, 0), (139, 2, 1), (134, 3, 4), (142, 3, 1)], [], [], [], [], [(125, 56), (156, 113), (165, 42), (168, 117)]), [(0, .iload_n 3, 1), (1, .istore 5, 2), (3, .aload_n 0, 1), (4, .getfield 52, 3), (7, .ifCond .eq 23, 3), (10, .iload_n 2, 1), (11, .iconst 1, 1), (12, .if_icmp .ne 18, 3), (15, .iload 5, 2), (17, .ifCond .ne 10, 3), (20, .aload 4, 2), (22, .iconst 0, 1), (23, .invokevirtual 125, 3), (26, .return_, 1), (27, .iinc 5 (-1), 3), (30, .iconst 0, 1), (31, .istore 6, 2), (33, .iload 6, 2), (35, .aload_n 0, 1), (36, .getfield 44, 3), (39, .getfield 139, 3), (42, .getfield 134, 3), (45, .if_icmp .ge 89, 3), (48, .iload_n 2, 1), (49, .iconst 1, 1), (50, .if_icmp .lt 84, 3), (53, .aload_n 0, 1), (54, .getfield 44, 3), (57, .getfield 139, 3), (60, .getfield 142, 3), (63, .iload 6, 2), (65, .iaload, 1), (66, .iload_n 1, 1), (67, .if_icmp .ne 16, 3), (70, .aload_n 0, 1), (71, .iload 6, 2), (73, .iconst 0, 1), (74, .iload_n 2, 1), (75, .iconst 1, 1), (76, .isub, 1), (77, .invokevirtual 156, 3), (80, .goto 4, 3), (83, .iconst 0, 1), (84, .istore 7, 2), (86, .iload 5, 2), (88, .iload 7, 2), (90, .if_icmp .ge 31, 3), (93, .aload 4, 2), (95, .aload_n 0, 1), (96, .getfield 44, 3), (99, .iload 6, 2), (101, .invokevirtual 165, 3), (104, .invokevirtual 125, 3), (107, .aload_n 0, 1), (108, .iload 6, 2), (110, .iload_n 2, 1), (111, .iconst 1, 1), (112, .isub, 1), (113, .iload 5, 2), (115, .aload 4, 2), (117, .invokevirtual 168, 3), (120, .return_, 1), (121, .iload 5, 2), (123, .iload 7, 2), (125, .isub, 1), (126, .istore 5, 2), (128, .iinc 6 1, 3), (131, .goto (-98), 3), (134, .return_, 1)], 4, 9)
/-- EquationProofs$Trial.putArguments(IIILEquationProofs$Term;)V -/
def mt_113 : am_M := (⟨"EquationProofs$Trial", "putArguments", "(IIILEquationProofs$Term;)V"⟩, prog_13_method_13_code, 12, none, ([(44, 9, 0), (139, 2, 1), (147, 3, 2)], [], [], [], [], [(150, 49), (153, 112), (156, 113), (70, 1), (161, 116)]), [(0, .iload_n 3, 1), (1, .istore 5, 2), (3, .iload_n 2, 1), (4, .istore 6, 2), (6, .iconst 0, 1), (7, .istore 7, 2), (9, .iload 7, 2), (11, .aload_n 0, 1), (12, .getfield 44, 3), (15, .getfield 139, 3), (18, .getfield 147, 3), (21, .iload_n 1, 1), (22, .iaload, 1), (23, .if_icmp .ge 159, 3), (26, .iload 6, 2), (28, .iconst 1, 1), (29, .if_icmp .lt 153, 3), (32, .aload_n 0, 1), (33, .getfield 44, 3), (36, .getfield 139, 3), (39, .iload_n 1, 1), (40, .iload 7, 2), (42, .invokevirtual 150, 3), (45, .istore 8, 2), (47, .iconst 1, 1), (48, .istore 9, 2), (50, .aload_n 0, 1), (51, .iload 8, 2), (53, .iload 9, 2), (55, .invokevirtual 153, 3), (58, .aload_n 0, 1), (59, .iload_n 1, 1), (60, .iload 7, 2), (62, .iconst 1, 1), (63, .iadd, 1), (64, .iload 6, 2), (66, .iload 9, 2), (68, .isub, 1), (69, .invokevirtual 156, 3), (72, .imul, 1), (73, .istore 10, 2), (75, .iload 9, 2), (77, .iload 6, 2), (79, .if_icmp .ge 48, 3), (82, .iload 5, 2), (84, .iload 10, 2), (86, .if_icmp .lt 41, 3), (89, .iload 5, 2), (91, .iload 10, 2), (93, .isub, 1), (94, .istore 5, 2), (96, .iinc 9 1, 3), (99, .aload_n 0, 1), (100, .iload 8, 2), (102, .iload 9, 2), (104, .invokevirtual 153, 3), (107, .aload_n 0, 1), (108, .iload_n 1, 1), (109, .iload 7, 2), (111, .iconst 1, 1), (112, .iadd, 1), (113, .iload 6, 2), (115, .iload 9, 2), (117, .isub, 1), (118, .invokevirtual 156, 3), (121, .imul, 1), (122, .istore 10, 2), (124, .goto (-49), 3), (127, .aload_n 0, 1), (128, .iload_n 1, 1), (129, .iload 7, 2), (131, .iconst 1, 1), (132, .iadd, 1), (133, .iload 6, 2), (135, .iload 9, 2), (137, .isub, 1), (138, .invokevirtual 156, 3), (141, .iconst 1, 1), (142, .invokestatic 70, 3), (145, .istore 11, 2), (147, .aload_n 0, 1), (148, .iload 8, 2), (150, .iload 9, 2), (152, .iload 5, 2), (154, .iload 11, 2), (156, .idiv, 1), (157, .aload 4, 2), (159, .invokevirtual 161, 3), (162, .iload 5, 2), (164, .iload 11, 2), (166, .irem, 1), (167, .istore 5, 2), (169, .iload 6, 2), (171, .iload 9, 2), (173, .isub, 1), (174, .istore 6, 2), (176, .iinc 7 1, 3), (179, .goto (-170), 3), (182, .return_, 1)], 4, 9)
/-- EquationProofs$Prover.<init>(LEquationProofs$Program;LEquationProofs$Rewriter;)V -/
def mt_114 : am_M := (⟨"EquationProofs$Prover", "<init>", "(LEquationProofs$Program;LEquationProofs$Rewriter;)V"⟩, prog_7_method_1_code, 4, none, ([(32, 10, 5), (12, 10, 2), (56, 11, 1), (23, 10, 4)], [(12, 10, 2), (18, 10, 3), (23, 10, 4), (32, 10, 5), (36, 10, 11), (39, 10, 12), (42, 10, 0), (46, 10, 1), (50, 10, 6), (53, 10, 7), (60, 10, 10)], [(9, 11), (27, 5), (21, 12)], [(21, "EquationProofs$Goal")], [], [(3, 0), (11, 147), (29, 51), (61, 151)]), [(0, .aload_n 0, 1), (1, .invokespecial 3, 3), (4, .aload_n 0, 1), (5, .new 9, 3), (8, .dup, 1), (9, .invokespecial 11, 3), (12, .putfield 12, 3), (15, .aload_n 0, 1), (16, .new 9, 3), (19, .dup, 1), (20, .invokespecial 11, 3), (23, .putfield 18, 3), (26, .aload_n 0, 1), (27, .bipush 12, 2), (29, .anewarray 21, 3), (32, .putfield 23, 3), (35, .aload_n 0, 1), (36, .new 27, 3), (39, .dup, 1), (40, .bipush 60, 2), (42, .invokespecial 29, 3), (45, .putfield 32, 3), (48, .aload_n 0, 1), (49, .new 27, 3), (52, .dup, 1), (53, .bipush 60, 2), (55, .invokespecial 29, 3), (58, .putfield 36, 3), (61, .aload_n 0, 1), (62, .new 27, 3), (65, .dup, 1), (66, .iconst 4, 1), (67, .invokespecial 29, 3), (70, .putfield 39, 3), (73, .aload_n 0, 1), (74, .aload_n 1, 1), (75, .putfield 42, 3), (78, .aload_n 0, 1), (79, .aload_n 2, 1), (80, .putfield 46, 3), (83, .aload_n 0, 1), (84, .aload_n 0, 1), (85, .getfield 32, 3), (88, .putfield 50, 3), (91, .aload_n 0, 1), (92, .aload_n 0, 1), (93, .getfield 32, 3), (96, .putfield 53, 3), (99, .aload_n 0, 1), (100, .aload_n 0, 1), (101, .getfield 12, 3), (104, .getfield 56, 3), (107, .putfield 60, 3), (110, .iconst 0, 1), (111, .istore_n 3, 1), (112, .iload_n 3, 1), (113, .aload_n 0, 1), (114, .getfield 23, 3), (117, .arraylength, 1), (118, .if_icmp .ge 22, 3), (121, .aload_n 0, 1), (122, .getfield 23, 3), (125, .iload_n 3, 1), (126, .new 21, 3), (129, .dup, 1), (130, .invokespecial 61, 3), (133, .aastore, 1), (134, .iinc 3 1, 3), (137, .goto (-25), 3), (140, .return_, 1)], 2, 2000)
/-- EquationProofs$Prover.sideOf(I)LEquationProofs$Term; -/
def mt_115 : am_M := (⟨"EquationProofs$Prover", "sideOf", "(I)LEquationProofs$Term;"⟩, prog_7_method_2_code, 2, (some (.object "EquationProofs$Term")), ([(12, 10, 2), (62, 11, 0), (65, 12, 0)], [], [], [], [], []), [(0, .aload_n 0, 1), (1, .getfield 12, 3), (4, .getfield 62, 3), (7, .iconst 0, 1), (8, .aaload, 1), (9, .getfield 65, 3), (12, .iload_n 1, 1), (13, .ifCond .ne 7, 3), (16, .iconst 0, 1), (17, .goto 4, 3), (20, .iconst 1, 1), (21, .aaload, 1), (22, .areturn, 1)], 1, 10)
/-- EquationProofs$Prover.positionOf(II)I -/
def mt_116 : am_M := (⟨"EquationProofs$Prover", "positionOf", "(II)I"⟩, prog_7_method_3_code, 9, (some .int), ([], [], [], [], [], [(69, 119), (73, 55), (77, 57)]), [(0, .aload_n 0, 1), (1, .iload_n 1, 1), (2, .invokevirtual 69, 3), (5, .astore_n 3, 1), (6, .iconst 1, 1), (7, .istore 4, 2), (9, .iconst 1, 1), (10, .istore 5, 2), (12, .iload 5, 2), (14, .bipush 10, 2), (16, .if_icmp .ge 25, 3), (19, .iload_n 2, 1), (20, .iload 4, 2), (22, .idiv, 1), (23, .bipush 10, 2), (25, .if_icmp .lt 16, 3), (28, .iload 4, 2), (30, .bipush 10, 2), (32, .imul, 1), (33, .istore 4, 2), (35, .iinc 5 1, 3), (38, .goto (-26), 3), (41, .iconst 0, 1), (42, .istore 5, 2), (44, .iload 4, 2), (46, .istore 6, 2), (48, .iload_n 2, 1), (49, .ifCond .le 76, 3), (52, .iload 6, 2), (54, .ifCond .le 71, 3), (57, .iload_n 2, 1), (58, .iload 6, 2), (60, .idiv, 1), (61, .bipush 10, 2), (63, .irem, 1), (64, .istore 7, 2), (66, .iload 7, 2), (68, .iconst 1, 1), (69, .if_icmp .lt 17, 3), (72, .iload 7, 2), (74, .aload_n 3, 1), (75, .iload 5, 2), (77, .invokevirtual 73, 3), (80, .bipush 7, 2), (82, .iand, 1), (83, .if_icmp .le 5, 3), (86, .iconst (-1), 1), (87, .ireturn, 1), (88, .iinc 5 1, 3), (91, .iconst 1, 1), (92, .istore 8, 2), (94, .iload 8, 2), (96, .iload 7, 2), (98, .if_icmp .ge 17, 3), (101, .aload_n 3, 1), (102, .iload 5, 2), (104, .invokevirtual 77, 3), (107, .istore 5, 2), (109, .iinc 8 1, 3), (112, .goto (-18), 3), (115, .iload 6, 2), (117, .bipush 10, 2), (119, .idiv, 1), (120, .istore 6, 2), (122, .goto (-74), 3), (125, .iload 5, 2), (127, .ireturn, 1)], 2, 10)
/-- EquationProofs$Prover.unfoldAt(II)I -/
def mt_117 : am_M := (⟨"EquationProofs$Prover", "unfoldAt", "(II)I"⟩, prog_7_method_4_code, 4, (some .int), ([(46, 10, 1), (89, 8, 4), (32, 10, 5)], [], [], [], [], [(69, 119), (73, 55), (80, 53), (83, 98), (92, 102), (96, 127)]), [(0, .aload_n 0, 1), (1, .iload_n 1, 1), (2, .invokevirtual 69, 3), (5, .astore_n 3, 1), (6, .iload_n 2, 1), (7, .ifCond .lt 15, 3), (10, .aload_n 3, 1), (11, .iload_n 2, 1), (12, .invokevirtual 73, 3), (15, .invokestatic 80, 3), (18, .iconst 2, 1), (19, .if_icmp .eq 6, 3), (22, .bipush (-104), 2), (24, .ireturn, 1), (25, .aload_n 0, 1), (26, .getfield 46, 3), (29, .aload_n 3, 1), (30, .iload_n 2, 1), (31, .invokevirtual 83, 3), (34, .iconst 2, 1), (35, .if_icmp .ne 6, 3), (38, .bipush (-104), 2), (40, .ireturn, 1), (41, .aload_n 0, 1), (42, .getfield 46, 3), (45, .aload_n 3, 1), (46, .iload_n 2, 1), (47, .aload_n 0, 1), (48, .getfield 46, 3), (51, .getfield 89, 3), (54, .aload_n 0, 1), (55, .getfield 32, 3), (58, .invokevirtual 92, 3), (61, .ifCond .eq 11, 3), (64, .aload_n 0, 1), (65, .aload_n 3, 1), (66, .invokevirtual 96, 3), (69, .goto 5, 3), (72, .bipush (-105), 2), (74, .ireturn, 1)], 2, 10)
/-- EquationProofs$Prover.chooseLaw(IZ)Z -/
def mt_118 : am_M := (⟨"EquationProofs$Prover", "chooseLaw", "(IZ)Z"⟩, prog_7_method_5_code, 4, (some .boolean), ([(42, 10, 0), (106, 2, 4), (110, 4, 1), (115, 4, 0), (124, 4, 6), (131, 4, 2), (12, 10, 2), (132, 11, 5)], [(50, 10, 6), (53, 10, 7), (120, 10, 8), (128, 10, 9), (60, 10, 10)], [], [], [(118, .long (-1))], [(100, 39)]), [(0, .aload_n 0, 1), (1, .getfield 42, 3), (4, .iload_n 1, 1), (5, .invokevirtual 100, 3), (8, .ifCond .ne 5, 3), (11, .iconst 0, 1), (12, .ireturn, 1), (13, .aload_n 0, 1), (14, .getfield 42, 3), (17, .getfield 106, 3), (20, .iload_n 1, 1), (21, .aaload, 1), (22, .astore_n 3, 1), (23, .aload_n 0, 1), (24, .iload_n 2, 1), (25, .ifCond .eq 10, 3), (28, .aload_n 3, 1), (29, .getfield 110, 3), (32, .goto 7, 3), (35, .aload_n 3, 1), (36, .getfield 115, 3), (39, .putfield 50, 3), (42, .aload_n 0, 1), (43, .iload_n 2, 1), (44, .ifCond .eq 10, 3), (47, .aload_n 3, 1), (48, .getfield 115, 3), (51, .goto 7, 3), (54, .aload_n 3, 1), (55, .getfield 110, 3), (58, .putfield 53, 3), (61, .aload_n 0, 1), (62, .ldc2_w 118, 3), (65, .putfield 120, 3), (68, .aload_n 0, 1), (69, .aload_n 3, 1), (70, .getfield 124, 3), (73, .iconst 2, 1), (74, .if_icmp .ne 7, 3), (77, .lconst 0, 1), (78, .goto 6, 3), (81, .ldc2_w 118, 3), (84, .putfield 128, 3), (87, .aload_n 0, 1), (88, .aload_n 3, 1), (89, .getfield 131, 3), (92, .putfield 60, 3), (95, .aload_n 3, 1), (96, .getfield 124, 3), (99, .aload_n 0, 1), (100, .getfield 12, 3), (103, .getfield 132, 3), (106, .ifCond .eq 7, 3), (109, .iconst 2, 1), (110, .goto 4, 3), (113, .iconst 1, 1), (114, .if_icmp .lt 7, 3), (117, .iconst 1, 1), (118, .goto 4, 3), (121, .iconst 0, 1), (122, .ireturn, 1)], 2, 10)
/-- EquationProofs$Prover.chooseHypothesis(IZ)Z -/
def mt_119 : am_M := (⟨"EquationProofs$Prover", "chooseHypothesis", "(IZ)Z"⟩, prog_7_method_6_code, 4, (some .boolean), ([(12, 10, 2), (62, 11, 0), (136, 12, 2), (65, 12, 0), (139, 12, 1), (132, 11, 5), (142, 11, 7), (56, 11, 1)], [(50, 10, 6), (53, 10, 7), (120, 10, 8), (128, 10, 9), (60, 10, 10)], [], [], [], []), [(0, .aload_n 0, 1), (1, .getfield 12, 3), (4, .getfield 62, 3), (7, .iconst 0, 1), (8, .aaload, 1), (9, .astore_n 3, 1), (10, .iload_n 1, 1), (11, .ifCond .lt 17, 3), (14, .iload_n 1, 1), (15, .aload_n 3, 1), (16, .getfield 136, 3), (19, .if_icmp .ge 9, 3), (22, .iload_n 1, 1), (23, .bipush 8, 2), (25, .if_icmp .lt 5, 3), (28, .iconst 0, 1), (29, .ireturn, 1), (30, .aload_n 0, 1), (31, .aload_n 3, 1), (32, .getfield 65, 3), (35, .iconst 2, 1), (36, .iconst 2, 1), (37, .iload_n 1, 1), (38, .imul, 1), (39, .iadd, 1), (40, .iload_n 2, 1), (41, .ifCond .eq 7, 3), (44, .iconst 1, 1), (45, .goto 4, 3), (48, .iconst 0, 1), (49, .iadd, 1), (50, .aaload, 1), (51, .putfield 50, 3), (54, .aload_n 0, 1), (55, .aload_n 3, 1), (56, .getfield 65, 3), (59, .iconst 2, 1), (60, .iconst 2, 1), (61, .iload_n 1, 1), (62, .imul, 1), (63, .iadd, 1), (64, .iload_n 2, 1), (65, .ifCond .eq 7, 3), (68, .iconst 0, 1), (69, .goto 4, 3), (72, .iconst 1, 1), (73, .iadd, 1), (74, .aaload, 1), (75, .putfield 53, 3), (78, .aload_n 0, 1), (79, .aload_n 3, 1), (80, .getfield 139, 3), (83, .iload_n 1, 1), (84, .laload, 1), (85, .putfield 120, 3), (88, .aload_n 0, 1), (89, .aload_n 0, 1), (90, .getfield 12, 3), (93, .getfield 132, 3), (96, .ifCond .eq 7, 3), (99, .lconst 0, 1), (100, .goto 10, 3), (103, .aload_n 0, 1), (104, .getfield 12, 3), (107, .getfield 142, 3), (110, .putfield 128, 3), (113, .aload_n 0, 1), (114, .aload_n 0, 1), (115, .getfield 12, 3), (118, .getfield 56, 3), (121, .putfield 60, 3), (124, .iconst 1, 1), (125, .ireturn, 1)], 2, 10)
/-- EquationProofs$Prover.rewriteAt(II)I -/
def mt_120 : am_M := (⟨"EquationProofs$Prover", "rewriteAt", "(II)I"⟩, prog_7_method_7_code, 4, (some .int), ([(46, 10, 1), (50, 10, 6), (120, 10, 8), (53, 10, 7), (32, 10, 5)], [], [], [], [], [(69, 119), (145, 100), (149, 125), (153, 101), (92, 102), (96, 127)]), [(0, .aload_n 0, 1), (1, .iload_n 1, 1), (2, .invokevirtual 69, 3), (5, .astore_n 3, 1), (6, .iload_n 2, 1), (7, .ifCond .lt 23, 3), (10, .aload_n 0, 1), (11, .getfield 46, 3), (14, .aload_n 0, 1), (15, .getfield 50, 3), (18, .aload_n 0, 1), (19, .getfield 120, 3), (22, .aload_n 3, 1), (23, .iload_n 2, 1), (24, .invokevirtual 145, 3), (27, .ifCond .ne 6, 3), (30, .bipush (-104), 2), (32, .ireturn, 1), (33, .aload_n 0, 1), (34, .aload_n 3, 1), (35, .invokevirtual 149, 3), (38, .ifCond .eq 21, 3), (41, .aload_n 0, 1), (42, .getfield 46, 3), (45, .aload_n 0, 1), (46, .getfield 53, 3), (49, .aload_n 0, 1), (50, .getfield 120, 3), (53, .invokevirtual 153, 3), (56, .ifCond .ne 6, 3), (59, .bipush (-104), 2), (61, .ireturn, 1), (62, .aload_n 0, 1), (63, .getfield 46, 3), (66, .aload_n 3, 1), (67, .iload_n 2, 1), (68, .aload_n 0, 1), (69, .getfield 53, 3), (72, .aload_n 0, 1), (73, .getfield 32, 3), (76, .invokevirtual 92, 3), (79, .ifCond .eq 11, 3), (82, .aload_n 0, 1), (83, .aload_n 3, 1), (84, .invokevirtual 96, 3), (87, .goto 5, 3), (90, .bipush (-105), 2), (92, .ireturn, 1)], 2, 10)
/-- EquationProofs$Prover.isAllowed(LEquationProofs$Term;)Z -/
def mt_121 : am_M := (⟨"EquationProofs$Prover", "isAllowed", "(LEquationProofs$Term;)Z"⟩, prog_7_method_8_code, 6, (some .boolean), ([(60, 10, 10), (46, 10, 1), (157, 8, 1), (42, 10, 0), (12, 10, 2), (56, 11, 1), (128, 10, 9)], [], [], [], [], [(73, 55), (160, 41), (164, 126)]), [(0, .iconst 0, 1), (1, .istore_n 2, 1), (2, .iload_n 2, 1), (3, .bipush 60, 2), (5, .if_icmp .ge 105, 3), (8, .iload_n 2, 1), (9, .aload_n 0, 1), (10, .getfield 60, 3), (13, .arraylength, 1), (14, .if_icmp .ge 96, 3), (17, .aload_n 0, 1), (18, .getfield 46, 3), (21, .getfield 157, 3), (24, .iload_n 2, 1), (25, .iaload, 1), (26, .istore_n 3, 1), (27, .iload_n 3, 1), (28, .ifCond .lt 76, 3), (31, .aload_n 0, 1), (32, .getfield 42, 3), (35, .aload_n 1, 1), (36, .iload_n 3, 1), (37, .invokevirtual 73, 3), (40, .aload_n 0, 1), (41, .getfield 12, 3), (44, .getfield 56, 3), (47, .invokevirtual 160, 3), (50, .istore 4, 2), (52, .aload_n 0, 1), (53, .getfield 128, 3), (56, .iload_n 2, 1), (57, .lshr, 1), (58, .lconst 1, 1), (59, .land, 1), (60, .lconst 1, 1), (61, .lcmp, 1), (62, .ifCond .ne 7, 3), (65, .iconst 1, 1), (66, .goto 4, 3), (69, .iconst 0, 1), (70, .istore 5, 2), (72, .iload 4, 2), (74, .ifCond .lt 14, 3), (77, .iload 4, 2), (79, .aload_n 0, 1), (80, .getfield 60, 3), (83, .iload_n 2, 1), (84, .iaload, 1), (85, .if_icmp .ne 17, 3), (88, .iload 5, 2), (90, .ifCond .eq 14, 3), (93, .aload_n 0, 1), (94, .aload_n 1, 1), (95, .iload_n 3, 1), (96, .invokevirtual 164, 3), (99, .ifCond .ne 5, 3), (102, .iconst 0, 1), (103, .ireturn, 1), (104, .iinc 2 1, 3), (107, .goto (-105), 3), (110, .iconst 1, 1), (111, .ireturn, 1)], 1, 10)
/-- EquationProofs$Prover.isSure(LEquationProofs$Term;I)Z -/
def mt_122 : am_M := (⟨"EquationProofs$Prover", "isSure", "(LEquationProofs$Term;I)Z"⟩, prog_7_method_9_code, 7, (some .boolean), ([(168, 5, 0), (12, 10, 2), (142, 11, 7)], [], [], [], [], [(77, 57), (80, 53), (171, 54)]), [(0, .aload_n 1, 1), (1, .iload_n 2, 1), (2, .invokevirtual 77, 3), (5, .istore_n 3, 1), (6, .iload_n 2, 1), (7, .istore 4, 2), (9, .iload 4, 2), (11, .iload_n 3, 1), (12, .if_icmp .ge 72, 3), (15, .aload_n 1, 1), (16, .getfield 168, 3), (19, .iload 4, 2), (21, .iaload, 1), (22, .invokestatic 80, 3), (25, .istore 5, 2), (27, .iload 5, 2), (29, .iconst 3, 1), (30, .if_icmp .ne 32, 3), (33, .aload_n 0, 1), (34, .getfield 12, 3), (37, .getfield 142, 3), (40, .aload_n 1, 1), (41, .getfield 168, 3), (44, .iload 4, 2), (46, .iaload, 1), (47, .invokestatic 171, 3), (50, .lshr, 1), (51, .lconst 1, 1), (52, .land, 1), (53, .lconst 1, 1), (54, .lcmp, 1), (55, .ifCond .ne 7, 3), (58, .iconst 1, 1), (59, .goto 4, 3), (62, .iconst 0, 1), (63, .istore 6, 2), (65, .iload 5, 2), (67, .iconst 1, 1), (68, .if_icmp .eq 10, 3), (71, .iload 6, 2), (73, .ifCond .ne 5, 3), (76, .iconst 0, 1), (77, .ireturn, 1), (78, .iinc 4 1, 3), (81, .goto (-72), 3), (84, .iconst 1, 1), (85, .ireturn, 1)], 2, 10)
/-- EquationProofs$Prover.changeSide(LEquationProofs$Term;)I -/
def mt_123 : am_M := (⟨"EquationProofs$Prover", "changeSide", "(LEquationProofs$Term;)I"⟩, prog_7_method_10_code, 2, (some .int), ([(32, 10, 5), (12, 10, 2), (178, 11, 3), (181, 11, 2)], [(178, 11, 3)], [], [], [], [(174, 59)]), [(0, .aload_n 1, 1), (1, .aload_n 0, 1), (2, .getfield 32, 3), (5, .invokevirtual 174, 3), (8, .aload_n 0, 1), (9, .getfield 12, 3), (12, .dup, 1), (13, .getfield 178, 3), (16, .iconst 1, 1), (17, .iadd, 1), (18, .putfield 178, 3), (21, .aload_n 0, 1), (22, .getfield 12, 3), (25, .getfield 181, 3), (28, .ireturn, 1)], 1, 10)
/-- EquationProofs$Prover.inductOver(I)I -/
def mt_124 : am_M := (⟨"EquationProofs$Prover", "inductOver", "(I)I"⟩, prog_7_method_11_code, 5, (some .int), ([(12, 10, 2), (62, 11, 0), (188, 11, 6), (196, 12, 3)], [(199, 10, 15), (202, 10, 16), (205, 10, 17)], [], [], [(118, .long (-1))], [(184, 155), (190, 154), (193, 130), (208, 131)]), [(0, .aload_n 0, 1), (1, .getfield 12, 3), (4, .getfield 62, 3), (7, .iconst 0, 1), (8, .aaload, 1), (9, .astore_n 2, 1), (10, .aload_n 2, 1), (11, .invokevirtual 184, 3), (14, .lstore_n 3, 1), (15, .iload_n 1, 1), (16, .ifCond .lt 32, 3), (19, .iload_n 1, 1), (20, .aload_n 0, 1), (21, .getfield 12, 3), (24, .getfield 188, 3), (27, .if_icmp .ge 21, 3), (30, .lload_n 3, 1), (31, .iload_n 1, 1), (32, .lshr, 1), (33, .lconst 1, 1), (34, .land, 1), (35, .lconst 0, 1), (36, .lcmp, 1), (37, .ifCond .eq 11, 3), (40, .aload_n 2, 1), (41, .iload_n 1, 1), (42, .invokevirtual 190, 3), (45, .ifCond .eq 6, 3), (48, .bipush (-104), 2), (50, .ireturn, 1), (51, .aload_n 0, 1), (52, .iload_n 1, 1), (53, .invokevirtual 193, 3), (56, .aload_n 0, 1), (57, .lload_n 3, 1), (58, .aload_n 2, 1), (59, .getfield 196, 3), (62, .ldc2_w 118, 3), (65, .lxor, 1), (66, .land, 1), (67, .lconst 1, 1), (68, .iload_n 1, 1), (69, .lshl, 1), (70, .ldc2_w 118, 3), (73, .lxor, 1), (74, .land, 1), (75, .putfield 199, 3), (78, .aload_n 0, 1), (79, .iconst 1, 1), (80, .putfield 202, 3), (83, .aload_n 0, 1), (84, .iconst 1, 1), (85, .putfield 205, 3), (88, .aload_n 0, 1), (89, .invokevirtual 208, 3), (92, .ireturn, 1)], 1, 10)
/-- EquationProofs$Prover.splitAt(II)I -/
def mt_125 : am_M := (⟨"EquationProofs$Prover", "splitAt", "(II)I"⟩, prog_7_method_12_code, 6, (some .int), ([(12, 10, 2), (188, 11, 6), (62, 11, 0), (42, 10, 0), (212, 2, 2), (216, 3, 4), (36, 10, 11), (231, 3, 1)], [(202, 10, 16), (205, 10, 17), (221, 5, 1), (228, 10, 13), (232, 10, 14), (235, 10, 18)], [], [], [], [(69, 119), (73, 55), (171, 54), (80, 53), (193, 130), (190, 154), (208, 131), (77, 57), (224, 58)]), [(0, .aload_n 0, 1), (1, .iload_n 1, 1), (2, .invokevirtual 69, 3), (5, .astore_n 3, 1), (6, .aload_n 3, 1), (7, .iload_n 2, 1), (8, .invokevirtual 73, 3), (11, .istore 4, 2), (13, .iload 4, 2), (15, .invokestatic 171, 3), (18, .istore 5, 2), (20, .aload_n 0, 1), (21, .iconst 0, 1), (22, .putfield 202, 3), (25, .iload_n 2, 1), (26, .ifCond .lt 53, 3), (29, .iload 4, 2), (31, .invokestatic 80, 3), (34, .iconst 3, 1), (35, .if_icmp .ne 44, 3), (38, .iload 5, 2), (40, .aload_n 0, 1), (41, .getfield 12, 3), (44, .getfield 188, 3), (47, .if_icmp .ge 32, 3), (50, .aload_n 0, 1), (51, .iload 5, 2), (53, .invokevirtual 193, 3), (56, .aload_n 0, 1), (57, .aload_n 0, 1), (58, .getfield 12, 3), (61, .getfield 62, 3), (64, .iconst 0, 1), (65, .aaload, 1), (66, .iload 5, 2), (68, .invokevirtual 190, 3), (71, .putfield 205, 3), (74, .aload_n 0, 1), (75, .invokevirtual 208, 3), (78, .ireturn, 1), (79, .iload_n 2, 1), (80, .ifCond .lt 87, 3), (83, .iload 4, 2), (85, .invokestatic 80, 3), (88, .iconst 2, 1), (89, .if_icmp .ne 78, 3), (92, .iload 5, 2), (94, .aload_n 0, 1), (95, .getfield 42, 3), (98, .getfield 212, 3), (101, .getfield 216, 3), (104, .if_icmp .ge 63, 3), (107, .aload_n 0, 1), (108, .getfield 36, 3), (111, .iconst 0, 1), (112, .putfield 221, 3), (115, .aload_n 0, 1), (116, .getfield 36, 3), (119, .aload_n 3, 1), (120, .iload_n 2, 1), (121, .aload_n 3, 1), (122, .iload_n 2, 1), (123, .invokevirtual 77, 3), (126, .invokevirtual 224, 3), (129, .pop, 1), (130, .aload_n 0, 1), (131, .iconst (-1), 1), (132, .putfield 228, 3), (135, .aload_n 0, 1), (136, .aload_n 0, 1), (137, .getfield 42, 3), (140, .getfield 212, 3), (143, .getfield 231, 3), (146, .iload 5, 2), (148, .iaload, 1), (149, .putfield 232, 3), (152, .aload_n 0, 1), (153, .iconst 1, 1), (154, .putfield 205, 3), (157, .aload_n 0, 1), (158, .iconst 0, 1), (159, .putfield 235, 3), (162, .aload_n 0, 1), (163, .invokevirtual 208, 3), (166, .ireturn, 1), (167, .bipush (-104), 2), (169, .ireturn, 1)], 2, 10)
/-- EquationProofs$Prover.aimAtVariable(I)V -/
def mt_126 : am_M := (⟨"EquationProofs$Prover", "aimAtVariable", "(I)V"⟩, prog_7_method_13_code, 2, none, ([(36, 10, 11), (12, 10, 2), (56, 11, 1), (142, 11, 7)], [(221, 5, 1), (228, 10, 13), (232, 10, 14), (235, 10, 18)], [], [], [], [(238, 52), (242, 56)]), [(0, .aload_n 0, 1), (1, .getfield 36, 3), (4, .iconst 0, 1), (5, .putfield 221, 3), (8, .aload_n 0, 1), (9, .getfield 36, 3), (12, .iconst 3, 1), (13, .iload_n 1, 1), (14, .iconst 0, 1), (15, .invokestatic 238, 3), (18, .invokevirtual 242, 3), (21, .aload_n 0, 1), (22, .iload_n 1, 1), (23, .putfield 228, 3), (26, .aload_n 0, 1), (27, .iload_n 1, 1), (28, .ifCond .lt 27, 3), (31, .iload_n 1, 1), (32, .aload_n 0, 1), (33, .getfield 12, 3), (36, .getfield 56, 3), (39, .arraylength, 1), (40, .if_icmp .ge 15, 3), (43, .aload_n 0, 1), (44, .getfield 12, 3), (47, .getfield 56, 3), (50, .iload_n 1, 1), (51, .iaload, 1), (52, .goto 4, 3), (55, .iconst (-1), 1), (56, .putfield 232, 3), (59, .aload_n 0, 1), (60, .aload_n 0, 1), (61, .getfield 12, 3), (64, .getfield 142, 3), (67, .iload_n 1, 1), (68, .lshr, 1), (69, .lconst 1, 1), (70, .land, 1), (71, .lconst 1, 1), (72, .lcmp, 1), (73, .ifCond .ne 7, 3), (76, .iconst 1, 1), (77, .goto 4, 3), (80, .iconst 0, 1), (81, .putfield 235, 3), (84, .return_, 1)], 1, 10)
/-- EquationProofs$Prover.split()I -/
def mt_127 : am_M := (⟨"EquationProofs$Prover", "split", "()I"⟩, prog_7_method_14_code, 7, (some .int), ([(12, 10, 2), (188, 11, 6), (235, 10, 18), (42, 10, 0), (245, 2, 1), (216, 3, 4), (231, 3, 1), (232, 10, 14), (23, 10, 4), (202, 10, 16), (228, 10, 13), (205, 10, 17), (181, 11, 2), (142, 11, 7)], [(142, 11, 7), (188, 11, 6)], [], [], [], [(248, 132), (252, 133), (256, 134), (259, 135), (263, 136), (266, 137), (270, 140)]), [(0, .iconst 0, 1), (1, .istore_n 1, 1), (2, .aload_n 0, 1), (3, .getfield 12, 3), (6, .getfield 188, 3), (9, .istore_n 2, 1), (10, .aload_n 0, 1), (11, .getfield 235, 3), (14, .ifCond .eq 7, 3), (17, .iconst 0, 1), (18, .goto 4, 3), (21, .iconst (-1), 1), (22, .istore_n 3, 1), (23, .iload_n 3, 1), (24, .aload_n 0, 1), (25, .getfield 42, 3), (28, .getfield 245, 3), (31, .getfield 216, 3), (34, .if_icmp .ge 151, 3), (37, .iload_n 3, 1), (38, .ifCond .lt 22, 3), (41, .aload_n 0, 1), (42, .getfield 42, 3), (45, .getfield 245, 3), (48, .getfield 231, 3), (51, .iload_n 3, 1), (52, .iaload, 1), (53, .aload_n 0, 1), (54, .getfield 232, 3), (57, .if_icmp .ne 122, 3), (60, .aload_n 0, 1), (61, .iload_n 3, 1), (62, .iload_n 2, 1), (63, .invokevirtual 248, 3), (66, .istore 4, 2), (68, .iload 4, 2), (70, .bipush 60, 2), (72, .if_icmp .gt 26, 3), (75, .iload_n 1, 1), (76, .aload_n 0, 1), (77, .getfield 23, 3), (80, .arraylength, 1), (81, .if_icmp .ge 17, 3), (84, .aload_n 0, 1), (85, .aload_n 0, 1), (86, .getfield 23, 3), (89, .iload_n 1, 1), (90, .aaload, 1), (91, .iload_n 2, 1), (92, .invokevirtual 252, 3), (95, .ifCond .ne 6, 3), (98, .bipush (-105), 2), (100, .ireturn, 1), (101, .aload_n 0, 1), (102, .getfield 23, 3), (105, .iload_n 1, 1), (106, .aaload, 1), (107, .astore 5, 2), (109, .aload_n 0, 1), (110, .getfield 202, 3), (113, .ifCond .eq 13, 3), (116, .aload_n 0, 1), (117, .aload 5, 2), (119, .iload_n 2, 1), (120, .invokevirtual 256, 3), (123, .goto 40, 3), (126, .aload_n 0, 1), (127, .getfield 228, 3), (130, .ifCond .ge 12, 3), (133, .aload_n 0, 1), (134, .aload 5, 2), (136, .invokevirtual 259, 3), (139, .goto 24, 3), (142, .aload_n 0, 1), (143, .getfield 205, 3), (146, .ifCond .eq 12, 3), (149, .aload_n 0, 1), (150, .aload 5, 2), (152, .invokevirtual 263, 3), (155, .ifCond .eq 7, 3), (158, .iconst 1, 1), (159, .goto 4, 3), (162, .iconst 0, 1), (163, .istore 6, 2), (165, .iload 6, 2), (167, .ifCond .ne 6, 3), (170, .bipush (-105), 2), (172, .ireturn, 1), (173, .iload 4, 2), (175, .istore_n 2, 1), (176, .iinc 1 1, 3), (179, .iinc 3 1, 3), (182, .goto (-159), 3), (185, .aload_n 0, 1), (186, .getfield 12, 3), (189, .getfield 181, 3), (192, .iconst 1, 1), (193, .isub, 1), (194, .iload_n 1, 1), (195, .iadd, 1), (196, .bipush 12, 2), (198, .if_icmp .le 6, 3), (201, .bipush (-105), 2), (203, .ireturn, 1), (204, .aload_n 0, 1), (205, .getfield 235, 3), (208, .ifCond .eq 26, 3), (211, .aload_n 0, 1), (212, .getfield 12, 3), (215, .dup, 1), (216, .getfield 142, 3), (219, .aload_n 0, 1), (220, .getfield 12, 3), (223, .getfield 188, 3), (226, .iload_n 2, 1), (227, .invokestatic 266, 3), (230, .lor, 1), (231, .putfield 142, 3), (234, .aload_n 0, 1), (235, .getfield 12, 3), (238, .iload_n 2, 1), (239, .putfield 188, 3), (242, .aload_n 0, 1), (243, .iload_n 1, 1), (244, .invokevirtual 270, 3), (247, .ireturn, 1)], 0, 10)
/-- EquationProofs$Prover.putInstead(II)I -/
def mt_128 : am_M := (⟨"EquationProofs$Prover", "putInstead", "(II)I"⟩, prog_7_method_15_code, 5, (some .int), ([(39, 10, 12), (42, 10, 0), (245, 2, 1), (276, 3, 2), (12, 10, 2), (56, 11, 1)], [(221, 5, 1)], [], [], [], [(273, 42), (242, 56), (279, 49), (238, 52)]), [(0, .aload_n 0, 1), (1, .getfield 39, 3), (4, .iconst 0, 1), (5, .putfield 221, 3), (8, .aload_n 0, 1), (9, .getfield 39, 3), (12, .iload_n 1, 1), (13, .ifCond .ge 7, 3), (16, .iconst 0, 1), (17, .goto 11, 3), (20, .aload_n 0, 1), (21, .getfield 42, 3), (24, .iload_n 1, 1), (25, .invokevirtual 273, 3), (28, .invokevirtual 242, 3), (31, .iload_n 1, 1), (32, .ifCond .ge 7, 3), (35, .iconst 0, 1), (36, .goto 15, 3), (39, .aload_n 0, 1), (40, .getfield 42, 3), (43, .getfield 245, 3), (46, .getfield 276, 3), (49, .iload_n 1, 1), (50, .iaload, 1), (51, .istore_n 3, 1), (52, .iconst 0, 1), (53, .istore 4, 2), (55, .iload 4, 2), (57, .iload_n 3, 1), (58, .if_icmp .ge 59, 3), (61, .iload_n 2, 1), (62, .iload 4, 2), (64, .iadd, 1), (65, .bipush 60, 2), (67, .if_icmp .ge 50, 3), (70, .aload_n 0, 1), (71, .getfield 12, 3), (74, .getfield 56, 3), (77, .iload_n 2, 1), (78, .iload 4, 2), (80, .iadd, 1), (81, .aload_n 0, 1), (82, .getfield 42, 3), (85, .getfield 245, 3), (88, .iload_n 1, 1), (89, .iload 4, 2), (91, .invokevirtual 279, 3), (94, .iastore, 1), (95, .aload_n 0, 1), (96, .getfield 39, 3), (99, .iconst 3, 1), (100, .iload_n 2, 1), (101, .iload 4, 2), (103, .iadd, 1), (104, .iconst 0, 1), (105, .invokestatic 238, 3), (108, .invokevirtual 242, 3), (111, .iinc 4 1, 3), (114, .goto (-59), 3), (117, .iload_n 2, 1), (118, .iload_n 3, 1), (119, .iadd, 1), (120, .ireturn, 1)], 2, 10)
/-- EquationProofs$Prover.makeGoal(LEquationProofs$Goal;I)Z -/
def mt_129 : am_M := (⟨"EquationProofs$Prover", "makeGoal", "(LEquationProofs$Goal;I)Z"⟩, prog_7_method_16_code, 4, (some .boolean), ([(12, 10, 2), (62, 11, 0), (286, 12, 4), (205, 10, 17), (196, 12, 3), (39, 10, 12), (221, 5, 1), (65, 12, 0), (36, 10, 11)], [(286, 12, 4), (196, 12, 3)], [], [], [], [(282, 153), (266, 137), (289, 63)]), [(0, .aload_n 0, 1), (1, .getfield 12, 3), (4, .getfield 62, 3), (7, .iconst 0, 1), (8, .aaload, 1), (9, .astore_n 3, 1), (10, .aload_n 1, 1), (11, .aload_n 3, 1), (12, .invokevirtual 282, 3), (15, .aload_n 1, 1), (16, .dup, 1), (17, .getfield 286, 3), (20, .iconst 1, 1), (21, .iadd, 1), (22, .putfield 286, 3), (25, .aload_n 0, 1), (26, .getfield 205, 3), (29, .ifCond .eq 27, 3), (32, .aload_n 1, 1), (33, .dup, 1), (34, .getfield 196, 3), (37, .iload_n 2, 1), (38, .iload_n 2, 1), (39, .aload_n 0, 1), (40, .getfield 39, 3), (43, .getfield 221, 3), (46, .iadd, 1), (47, .iconst 1, 1), (48, .isub, 1), (49, .invokestatic 266, 3), (52, .lor, 1), (53, .putfield 196, 3), (56, .aload_n 1, 1), (57, .getfield 65, 3), (60, .iconst 0, 1), (61, .aaload, 1), (62, .aload_n 3, 1), (63, .getfield 65, 3), (66, .iconst 0, 1), (67, .aaload, 1), (68, .aload_n 0, 1), (69, .getfield 36, 3), (72, .aload_n 0, 1), (73, .getfield 39, 3), (76, .invokevirtual 289, 3), (79, .ifCond .eq 33, 3), (82, .aload_n 1, 1), (83, .getfield 65, 3), (86, .iconst 1, 1), (87, .aaload, 1), (88, .aload_n 3, 1), (89, .getfield 65, 3), (92, .iconst 1, 1), (93, .aaload, 1), (94, .aload_n 0, 1), (95, .getfield 36, 3), (98, .aload_n 0, 1), (99, .getfield 39, 3), (102, .invokevirtual 289, 3), (105, .ifCond .eq 7, 3), (108, .iconst 1, 1), (109, .goto 4, 3), (112, .iconst 0, 1), (113, .ireturn, 1)], 2, 10)
/-- EquationProofs$Prover.addInductionHypotheses(LEquationProofs$Goal;I)Z -/
def mt_130 : am_M := (⟨"EquationProofs$Prover", "addInductionHypotheses", "(LEquationProofs$Goal;I)Z"⟩, prog_7_method_17_code, 7, (some .boolean), ([(12, 10, 2), (62, 11, 0), (39, 10, 12), (221, 5, 1), (56, 11, 1), (232, 10, 14), (32, 10, 5), (136, 12, 2), (65, 12, 0), (36, 10, 11), (139, 12, 1), (199, 10, 15)], [(221, 5, 1), (136, 12, 2)], [], [], [], [(238, 52), (242, 56), (289, 63)]), [(0, .aload_n 0, 1), (1, .getfield 12, 3), (4, .getfield 62, 3), (7, .iconst 0, 1), (8, .aaload, 1), (9, .astore_n 3, 1), (10, .iload_n 2, 1), (11, .aload_n 0, 1), (12, .getfield 39, 3), (15, .getfield 221, 3), (18, .iadd, 1), (19, .iconst 1, 1), (20, .isub, 1), (21, .istore 4, 2), (23, .iload_n 2, 1), (24, .istore 5, 2), (26, .iload 5, 2), (28, .iload 4, 2), (30, .if_icmp .ge 159, 3), (33, .iload 5, 2), (35, .aload_n 0, 1), (36, .getfield 12, 3), (39, .getfield 56, 3), (42, .arraylength, 1), (43, .if_icmp .ge 146, 3), (46, .aload_n 0, 1), (47, .getfield 12, 3), (50, .getfield 56, 3), (53, .iload 5, 2), (55, .iaload, 1), (56, .aload_n 0, 1), (57, .getfield 232, 3), (60, .if_icmp .ne 123, 3), (63, .aload_n 0, 1), (64, .getfield 32, 3), (67, .iconst 0, 1), (68, .putfield 221, 3), (71, .aload_n 0, 1), (72, .getfield 32, 3), (75, .iconst 3, 1), (76, .iload 5, 2), (78, .iconst 0, 1), (79, .invokestatic 238, 3), (82, .invokevirtual 242, 3), (85, .aload_n 1, 1), (86, .getfield 136, 3), (89, .istore 6, 2), (91, .iload 6, 2), (93, .bipush 8, 2), (95, .if_icmp .ge 65, 3), (98, .aload_n 1, 1), (99, .getfield 65, 3), (102, .iconst 2, 1), (103, .iconst 2, 1), (104, .iload 6, 2), (106, .imul, 1), (107, .iadd, 1), (108, .aaload, 1), (109, .aload_n 3, 1), (110, .getfield 65, 3), (113, .iconst 0, 1), (114, .aaload, 1), (115, .aload_n 0, 1), (116, .getfield 36, 3), (119, .aload_n 0, 1), (120, .getfield 32, 3), (123, .invokevirtual 289, 3), (126, .ifCond .eq 34, 3), (129, .aload_n 1, 1), (130, .getfield 65, 3), (133, .iconst 3, 1), (134, .iconst 2, 1), (135, .iload 6, 2), (137, .imul, 1), (138, .iadd, 1), (139, .aaload, 1), (140, .aload_n 3, 1), (141, .getfield 65, 3), (144, .iconst 1, 1), (145, .aaload, 1), (146, .aload_n 0, 1), (147, .getfield 36, 3), (150, .aload_n 0, 1), (151, .getfield 32, 3), (154, .invokevirtual 289, 3), (157, .ifCond .ne 5, 3), (160, .iconst 0, 1), (161, .ireturn, 1), (162, .aload_n 1, 1), (163, .getfield 139, 3), (166, .iload 6, 2), (168, .aload_n 0, 1), (169, .getfield 199, 3), (172, .lastore, 1), (173, .aload_n 1, 1), (174, .dup, 1), (175, .getfield 136, 3), (178, .iconst 1, 1), (179, .iadd, 1), (180, .putfield 136, 3), (183, .iinc 5 1, 3), (186, .goto (-160), 3), (189, .iconst 1, 1), (190, .ireturn, 1)], 2, 10)
/-- EquationProofs$Prover.addCallHypothesis(LEquationProofs$Goal;)Z -/
def mt_131 : am_M := (⟨"EquationProofs$Prover", "addCallHypothesis", "(LEquationProofs$Goal;)Z"⟩, prog_7_method_18_code, 3, (some .boolean), ([(196, 12, 3), (36, 10, 11), (136, 12, 2), (65, 12, 0), (39, 10, 12), (139, 12, 1)], [(196, 12, 3), (136, 12, 2)], [], [], [], [(293, 64), (174, 59)]), [(0, .aload_n 1, 1), (1, .dup, 1), (2, .getfield 196, 3), (5, .aload_n 0, 1), (6, .getfield 36, 3), (9, .invokevirtual 293, 3), (12, .lor, 1), (13, .putfield 196, 3), (16, .aload_n 1, 1), (17, .getfield 136, 3), (20, .istore_n 2, 1), (21, .iload_n 2, 1), (22, .bipush 8, 2), (24, .if_icmp .lt 5, 3), (27, .iconst 0, 1), (28, .ireturn, 1), (29, .aload_n 1, 1), (30, .getfield 65, 3), (33, .iconst 2, 1), (34, .iconst 2, 1), (35, .iload_n 2, 1), (36, .imul, 1), (37, .iadd, 1), (38, .aaload, 1), (39, .aload_n 0, 1), (40, .getfield 36, 3), (43, .invokevirtual 174, 3), (46, .aload_n 1, 1), (47, .getfield 65, 3), (50, .iconst 3, 1), (51, .iconst 2, 1), (52, .iload_n 2, 1), (53, .imul, 1), (54, .iadd, 1), (55, .aaload, 1), (56, .aload_n 0, 1), (57, .getfield 39, 3), (60, .invokevirtual 174, 3), (63, .aload_n 1, 1), (64, .getfield 139, 3), (67, .iload_n 2, 1), (68, .lconst 0, 1), (69, .lastore, 1), (70, .aload_n 1, 1), (71, .dup, 1), (72, .getfield 136, 3), (75, .iconst 1, 1), (76, .iadd, 1), (77, .putfield 136, 3), (80, .iconst 1, 1), (81, .ireturn, 1)], 1, 10)
/-- EquationProofs$Prover.replaceInHypotheses(LEquationProofs$Goal;)Z -/
def mt_132 : am_M := (⟨"EquationProofs$Prover", "replaceInHypotheses", "(LEquationProofs$Goal;)Z"⟩, prog_7_method_19_code, 5, (some .boolean), ([(12, 10, 2), (62, 11, 0), (136, 12, 2), (139, 12, 1), (228, 10, 13), (65, 12, 0), (36, 10, 11), (39, 10, 12)], [], [], [], [], [(289, 63)]), [(0, .aload_n 0, 1), (1, .getfield 12, 3), (4, .getfield 62, 3), (7, .iconst 0, 1), (8, .aaload, 1), (9, .astore_n 2, 1), (10, .iconst 1, 1), (11, .istore_n 3, 1), (12, .iconst 0, 1), (13, .istore 4, 2), (15, .iload_n 3, 1), (16, .ifCond .eq 122, 3), (19, .iload 4, 2), (21, .aload_n 2, 1), (22, .getfield 136, 3), (25, .if_icmp .ge 113, 3), (28, .iload 4, 2), (30, .bipush 8, 2), (32, .if_icmp .ge 106, 3), (35, .aload_n 2, 1), (36, .getfield 139, 3), (39, .iload 4, 2), (41, .laload, 1), (42, .aload_n 0, 1), (43, .getfield 228, 3), (46, .lshr, 1), (47, .lconst 1, 1), (48, .land, 1), (49, .lconst 0, 1), (50, .lcmp, 1), (51, .ifCond .ne 81, 3), (54, .aload_n 1, 1), (55, .getfield 65, 3), (58, .iconst 2, 1), (59, .iconst 2, 1), (60, .iload 4, 2), (62, .imul, 1), (63, .iadd, 1), (64, .aaload, 1), (65, .aload_n 2, 1), (66, .getfield 65, 3), (69, .iconst 2, 1), (70, .iconst 2, 1), (71, .iload 4, 2), (73, .imul, 1), (74, .iadd, 1), (75, .aaload, 1), (76, .aload_n 0, 1), (77, .getfield 36, 3), (80, .aload_n 0, 1), (81, .getfield 39, 3), (84, .invokevirtual 289, 3), (87, .ifCond .eq 43, 3), (90, .aload_n 1, 1), (91, .getfield 65, 3), (94, .iconst 3, 1), (95, .iconst 2, 1), (96, .iload 4, 2), (98, .imul, 1), (99, .iadd, 1), (100, .aaload, 1), (101, .aload_n 2, 1), (102, .getfield 65, 3), (105, .iconst 3, 1), (106, .iconst 2, 1), (107, .iload 4, 2), (109, .imul, 1), (110, .iadd, 1), (111, .aaload, 1), (112, .aload_n 0, 1), (113, .getfield 36, 3), (116, .aload_n 0, 1), (117, .getfield 39, 3), (120, .invokevirtual 289, 3), (123, .ifCond .eq 7, 3), (126, .iconst 1, 1), (127, .goto 4, 3), (130, .iconst 0, 1), (131, .istore_n 3, 1), (132, .iinc 4 1, 3), (135, .goto (-120), 3), (138, .iload_n 3, 1), (139, .ireturn, 1)], 1, 10)
/-- EquationProofs$Prover.bits(II)J -/
def mt_133 : am_M := (⟨"EquationProofs$Prover", "bits", "(II)J"⟩, prog_7_method_20_code, 5, (some .long), ([], [], [], [], [], []), [(0, .lconst 0, 1), (1, .lstore_n 2, 1), (2, .iload_n 0, 1), (3, .istore 4, 2), (5, .iload 4, 2), (7, .iload_n 1, 1), (8, .if_icmp .ge 23, 3), (11, .iload 4, 2), (13, .bipush 60, 2), (15, .if_icmp .ge 16, 3), (18, .lload_n 2, 1), (19, .lconst 1, 1), (20, .iload 4, 2), (22, .lshl, 1), (23, .lor, 1), (24, .lstore_n 2, 1), (25, .iinc 4 1, 3), (28, .goto (-23), 3), (31, .lload_n 2, 1), (32, .lreturn, 1)], 2, 1000)
/-- EquationProofs$Prover.dropSame()I -/
def mt_134 : am_M := (⟨"EquationProofs$Prover", "dropSame", "()I"⟩, prog_7_method_21_code, 2, (some .int), ([(12, 10, 2), (62, 11, 0), (65, 12, 0)], [], [], [], [], [(294, 61), (270, 140)]), [(0, .aload_n 0, 1), (1, .getfield 12, 3), (4, .getfield 62, 3), (7, .iconst 0, 1), (8, .aaload, 1), (9, .astore_n 1, 1), (10, .aload_n 1, 1), (11, .getfield 65, 3), (14, .iconst 0, 1), (15, .aaload, 1), (16, .aload_n 1, 1), (17, .getfield 65, 3), (20, .iconst 1, 1), (21, .aaload, 1), (22, .invokevirtual 294, 3), (25, .ifCond .eq 11, 3), (28, .aload_n 0, 1), (29, .iconst 0, 1), (30, .invokevirtual 270, 3), (33, .goto 5, 3), (36, .bipush (-104), 2), (38, .ireturn, 1)], 0, 10)
/-- EquationProofs$Prover.takeApart()I -/
def mt_135 : am_M := (⟨"EquationProofs$Prover", "takeApart", "()I"⟩, prog_7_method_22_code, 8, (some .int), ([(12, 10, 2), (62, 11, 0), (65, 12, 0), (181, 11, 2), (23, 10, 4)], [(221, 5, 1)], [], [], [], [(73, 55), (80, 53), (282, 153), (77, 57), (224, 58), (270, 140)]), [(0, .aload_n 0, 1), (1, .getfield 12, 3), (4, .getfield 62, 3), (7, .iconst 0, 1), (8, .aaload, 1), (9, .astore_n 1, 1), (10, .aload_n 1, 1), (11, .getfield 65, 3), (14, .iconst 0, 1), (15, .aaload, 1), (16, .iconst 0, 1), (17, .invokevirtual 73, 3), (20, .istore_n 2, 1), (21, .iload_n 2, 1), (22, .invokestatic 80, 3), (25, .iconst 1, 1), (26, .if_icmp .ne 17, 3), (29, .iload_n 2, 1), (30, .aload_n 1, 1), (31, .getfield 65, 3), (34, .iconst 1, 1), (35, .aaload, 1), (36, .iconst 0, 1), (37, .invokevirtual 73, 3), (40, .if_icmp .eq 6, 3), (43, .bipush (-104), 2), (45, .ireturn, 1), (46, .iload_n 2, 1), (47, .bipush 7, 2), (49, .iand, 1), (50, .istore_n 3, 1), (51, .aload_n 0, 1), (52, .getfield 12, 3), (55, .getfield 181, 3), (58, .iconst 1, 1), (59, .isub, 1), (60, .iload_n 3, 1), (61, .iadd, 1), (62, .bipush 12, 2), (64, .if_icmp .le 6, 3), (67, .bipush (-105), 2), (69, .ireturn, 1), (70, .iconst 1, 1), (71, .istore 4, 2), (73, .iconst 1, 1), (74, .istore 5, 2), (76, .iconst 0, 1), (77, .istore 6, 2), (79, .iload 6, 2), (81, .iload_n 3, 1), (82, .if_icmp .ge 142, 3), (85, .iload 6, 2), (87, .aload_n 0, 1), (88, .getfield 23, 3), (91, .arraylength, 1), (92, .if_icmp .ge 132, 3), (95, .aload_n 0, 1), (96, .getfield 23, 3), (99, .iload 6, 2), (101, .aaload, 1), (102, .astore 7, 2), (104, .aload 7, 2), (106, .aload_n 1, 1), (107, .invokevirtual 282, 3), (110, .aload 7, 2), (112, .getfield 65, 3), (115, .iconst 0, 1), (116, .aaload, 1), (117, .iconst 0, 1), (118, .putfield 221, 3), (121, .aload 7, 2), (123, .getfield 65, 3), (126, .iconst 0, 1), (127, .aaload, 1), (128, .aload_n 1, 1), (129, .getfield 65, 3), (132, .iconst 0, 1), (133, .aaload, 1), (134, .iload 4, 2), (136, .aload_n 1, 1), (137, .getfield 65, 3), (140, .iconst 0, 1), (141, .aaload, 1), (142, .iload 4, 2), (144, .invokevirtual 77, 3), (147, .invokevirtual 224, 3), (150, .pop, 1), (151, .aload 7, 2), (153, .getfield 65, 3), (156, .iconst 1, 1), (157, .aaload, 1), (158, .iconst 0, 1), (159, .putfield 221, 3), (162, .aload 7, 2), (164, .getfield 65, 3), (167, .iconst 1, 1), (168, .aaload, 1), (169, .aload_n 1, 1), (170, .getfield 65, 3), (173, .iconst 1, 1), (174, .aaload, 1), (175, .iload 5, 2), (177, .aload_n 1, 1), (178, .getfield 65, 3), (181, .iconst 1, 1), (182, .aaload, 1), (183, .iload 5, 2), (185, .invokevirtual 77, 3), (188, .invokevirtual 224, 3), (191, .pop, 1), (192, .aload_n 1, 1), (193, .getfield 65, 3), (196, .iconst 0, 1), (197, .aaload, 1), (198, .iload 4, 2), (200, .invokevirtual 77, 3), (203, .istore 4, 2), (205, .aload_n 1, 1), (206, .getfield 65, 3), (209, .iconst 1, 1), (210, .aaload, 1), (211, .iload 5, 2), (213, .invokevirtual 77, 3), (216, .istore 5, 2), (218, .iinc 6 1, 3), (221, .goto (-142), 3), (224, .aload_n 0, 1), (225, .iload_n 3, 1), (226, .invokevirtual 270, 3), (229, .ireturn, 1)], 0, 10)
/-- EquationProofs$Prover.putGoals(I)I -/
def mt_136 : am_M := (⟨"EquationProofs$Prover", "putGoals", "(I)I"⟩, prog_7_method_23_code, 5, (some .int), ([(12, 10, 2), (181, 11, 2), (23, 10, 4), (62, 11, 0), (178, 11, 3), (42, 10, 0), (301, 11, 4), (106, 2, 4), (124, 4, 6), (132, 11, 5)], [(181, 11, 2), (178, 11, 3), (124, 4, 6)], [], [], [], [(297, 141), (100, 39), (304, 1)]), [(0, .iload_n 1, 1), (1, .iconst 1, 1), (2, .isub, 1), (3, .istore_n 2, 1), (4, .iload_n 1, 1), (5, .ifCond .ne 30, 3), (8, .iconst 1, 1), (9, .istore_n 3, 1), (10, .iload_n 3, 1), (11, .aload_n 0, 1), (12, .getfield 12, 3), (15, .getfield 181, 3), (18, .if_icmp .ge 17, 3), (21, .aload_n 0, 1), (22, .iload_n 3, 1), (23, .iconst 1, 1), (24, .isub, 1), (25, .iload_n 3, 1), (26, .invokevirtual 297, 3), (29, .iinc 3 1, 3), (32, .goto (-22), 3), (35, .aload_n 0, 1), (36, .getfield 12, 3), (39, .getfield 181, 3), (42, .iconst 1, 1), (43, .isub, 1), (44, .istore_n 3, 1), (45, .iload_n 2, 1), (46, .ifCond .le 22, 3), (49, .iload_n 3, 1), (50, .iconst 1, 1), (51, .if_icmp .lt 17, 3), (54, .aload_n 0, 1), (55, .iload_n 3, 1), (56, .iload_n 3, 1), (57, .iload_n 2, 1), (58, .iadd, 1), (59, .invokevirtual 297, 3), (62, .iinc 3 (-1), 3), (65, .goto (-20), 3), (68, .iconst 0, 1), (69, .istore_n 3, 1), (70, .iload_n 3, 1), (71, .iload_n 1, 1), (72, .if_icmp .ge 58, 3), (75, .iload_n 3, 1), (76, .aload_n 0, 1), (77, .getfield 23, 3), (80, .arraylength, 1), (81, .if_icmp .ge 49, 3), (84, .iload_n 3, 1), (85, .bipush 12, 2), (87, .if_icmp .ge 43, 3), (90, .aload_n 0, 1), (91, .getfield 12, 3), (94, .getfield 62, 3), (97, .iload_n 3, 1), (98, .aaload, 1), (99, .astore 4, 2), (101, .aload_n 0, 1), (102, .getfield 12, 3), (105, .getfield 62, 3), (108, .iload_n 3, 1), (109, .aload_n 0, 1), (110, .getfield 23, 3), (113, .iload_n 3, 1), (114, .aaload, 1), (115, .aastore, 1), (116, .aload_n 0, 1), (117, .getfield 23, 3), (120, .iload_n 3, 1), (121, .aload 4, 2), (123, .aastore, 1), (124, .iinc 3 1, 3), (127, .goto (-57), 3), (130, .aload_n 0, 1), (131, .getfield 12, 3), (134, .dup, 1), (135, .getfield 181, 3), (138, .iload_n 2, 1), (139, .iadd, 1), (140, .putfield 181, 3), (143, .aload_n 0, 1), (144, .getfield 12, 3), (147, .dup, 1), (148, .getfield 178, 3), (151, .iconst 1, 1), (152, .iadd, 1), (153, .putfield 178, 3), (156, .aload_n 0, 1), (157, .getfield 12, 3), (160, .getfield 181, 3), (163, .ifCond .ne 62, 3), (166, .aload_n 0, 1), (167, .getfield 42, 3), (170, .aload_n 0, 1), (171, .getfield 12, 3), (174, .getfield 301, 3), (177, .invokevirtual 100, 3), (180, .ifCond .eq 45, 3), (183, .aload_n 0, 1), (184, .getfield 42, 3), (187, .getfield 106, 3), (190, .aload_n 0, 1), (191, .getfield 12, 3), (194, .getfield 301, 3), (197, .aaload, 1), (198, .astore_n 3, 1), (199, .aload_n 3, 1), (200, .aload_n 3, 1), (201, .getfield 124, 3), (204, .aload_n 0, 1), (205, .getfield 12, 3), (208, .getfield 132, 3), (211, .ifCond .eq 7, 3), (214, .iconst 2, 1), (215, .goto 4, 3), (218, .iconst 1, 1), (219, .invokestatic 304, 3), (222, .putfield 124, 3), (225, .aload_n 0, 1), (226, .getfield 12, 3), (229, .getfield 181, 3), (232, .ireturn, 1)], 1, 10)
/-- EquationProofs$Prover.swapGoals(II)V -/
def mt_137 : am_M := (⟨"EquationProofs$Prover", "swapGoals", "(II)V"⟩, prog_7_method_24_code, 4, none, ([(12, 10, 2), (62, 11, 0)], [], [], [], [], []), [(0, .iload_n 1, 1), (1, .ifCond .lt 57, 3), (4, .iload_n 1, 1), (5, .bipush 12, 2), (7, .if_icmp .ge 51, 3), (10, .iload_n 2, 1), (11, .ifCond .lt 47, 3), (14, .iload_n 2, 1), (15, .bipush 12, 2), (17, .if_icmp .ge 41, 3), (20, .aload_n 0, 1), (21, .getfield 12, 3), (24, .getfield 62, 3), (27, .iload_n 1, 1), (28, .aaload, 1), (29, .astore_n 3, 1), (30, .aload_n 0, 1), (31, .getfield 12, 3), (34, .getfield 62, 3), (37, .iload_n 1, 1), (38, .aload_n 0, 1), (39, .getfield 12, 3), (42, .getfield 62, 3), (45, .iload_n 2, 1), (46, .aaload, 1), (47, .aastore, 1), (48, .aload_n 0, 1), (49, .getfield 12, 3), (52, .getfield 62, 3), (55, .iload_n 2, 1), (56, .aload_n 3, 1), (57, .aastore, 1), (58, .return_, 1)], 2, 10)
/-- EquationProofs$Prover.nextRow()Z -/
def mt_138 : am_M := (⟨"EquationProofs$Prover", "nextRow", "()Z"⟩, prog_7_method_25_code, 1, (some .boolean), ([], [], [], [], [], [(309, 138), (312, 143), (316, 144), (319, 139), (322, 146)]), [(0, .aload_n 0, 1), (1, .invokevirtual 309, 3), (4, .ifCond .ge 31, 3), (7, .aload_n 0, 1), (8, .invokevirtual 312, 3), (11, .ifCond .ne 24, 3), (14, .aload_n 0, 1), (15, .invokevirtual 316, 3), (18, .ifCond .ne 17, 3), (21, .aload_n 0, 1), (22, .invokevirtual 319, 3), (25, .ifCond .ge 10, 3), (28, .aload_n 0, 1), (29, .invokevirtual 322, 3), (32, .ifCond .eq 7, 3), (35, .iconst 1, 1), (36, .goto 4, 3), (39, .iconst 0, 1), (40, .ireturn, 1)], 0, 10)
/-- EquationProofs$Prover.unfoldFirst()Z -/
def mt_139 : am_M := (⟨"EquationProofs$Prover", "unfoldFirst", "()Z"⟩, prog_7_method_26_code, 4, (some .boolean), ([(221, 5, 1)], [], [], [], [], [(69, 119), (325, 121)]), [(0, .iconst 0, 1), (1, .istore_n 1, 1), (2, .iload_n 1, 1), (3, .iconst 1, 1), (4, .if_icmp .gt 42, 3), (7, .aload_n 0, 1), (8, .iload_n 1, 1), (9, .invokevirtual 69, 3), (12, .getfield 221, 3), (15, .istore_n 2, 1), (16, .iconst 0, 1), (17, .istore_n 3, 1), (18, .iload_n 3, 1), (19, .iload_n 2, 1), (20, .if_icmp .ge 20, 3), (23, .aload_n 0, 1), (24, .iload_n 1, 1), (25, .iload_n 3, 1), (26, .invokevirtual 325, 3), (29, .ifCond .lt 5, 3), (32, .iconst 1, 1), (33, .ireturn, 1), (34, .iinc 3 1, 3), (37, .goto (-19), 3), (40, .iinc 1 1, 3), (43, .goto (-41), 3), (46, .iconst 0, 1), (47, .ireturn, 1)], 0, 10)
/-- EquationProofs$Prover.useFirst()Z -/
def mt_140 : am_M := (⟨"EquationProofs$Prover", "useFirst", "()Z"⟩, prog_7_method_27_code, 3, (some .boolean), ([(12, 10, 2), (62, 11, 0), (136, 12, 2), (42, 10, 0), (335, 2, 6), (301, 11, 4)], [], [], [], [], [(328, 123), (332, 145), (338, 122)]), [(0, .aload_n 0, 1), (1, .getfield 12, 3), (4, .getfield 62, 3), (7, .iconst 0, 1), (8, .aaload, 1), (9, .getfield 136, 3), (12, .istore_n 1, 1), (13, .iconst 0, 1), (14, .istore_n 2, 1), (15, .iload_n 2, 1), (16, .iload_n 1, 1), (17, .if_icmp .ge 27, 3), (20, .aload_n 0, 1), (21, .iload_n 2, 1), (22, .iconst 0, 1), (23, .invokevirtual 328, 3), (26, .ifCond .eq 12, 3), (29, .aload_n 0, 1), (30, .invokevirtual 332, 3), (33, .ifCond .eq 5, 3), (36, .iconst 1, 1), (37, .ireturn, 1), (38, .iinc 2 1, 3), (41, .goto (-26), 3), (44, .iconst 0, 1), (45, .istore_n 2, 1), (46, .iload_n 2, 1), (47, .aload_n 0, 1), (48, .getfield 42, 3), (51, .getfield 335, 3), (54, .if_icmp .ge 38, 3), (57, .iload_n 2, 1), (58, .aload_n 0, 1), (59, .getfield 12, 3), (62, .getfield 301, 3), (65, .if_icmp .eq 21, 3), (68, .aload_n 0, 1), (69, .iload_n 2, 1), (70, .iconst 0, 1), (71, .invokevirtual 338, 3), (74, .ifCond .eq 12, 3), (77, .aload_n 0, 1), (78, .invokevirtual 332, 3), (81, .ifCond .eq 5, 3), (84, .iconst 1, 1), (85, .ireturn, 1), (86, .iinc 2 1, 3), (89, .goto (-43), 3), (92, .iconst 0, 1), (93, .ireturn, 1)], 0, 10)
/-- EquationProofs$Prover.rewriteFirst()Z -/
def mt_141 : am_M := (⟨"EquationProofs$Prover", "rewriteFirst", "()Z"⟩, prog_7_method_28_code, 4, (some .boolean), ([(221, 5, 1)], [], [], [], [], [(69, 119), (341, 124)]), [(0, .iconst 0, 1), (1, .istore_n 1, 1), (2, .iload_n 1, 1), (3, .iconst 1, 1), (4, .if_icmp .gt 42, 3), (7, .aload_n 0, 1), (8, .iload_n 1, 1), (9, .invokevirtual 69, 3), (12, .getfield 221, 3), (15, .istore_n 2, 1), (16, .iconst 0, 1), (17, .istore_n 3, 1), (18, .iload_n 3, 1), (19, .iload_n 2, 1), (20, .if_icmp .ge 20, 3), (23, .aload_n 0, 1), (24, .iload_n 1, 1), (25, .iload_n 3, 1), (26, .invokevirtual 341, 3), (29, .ifCond .lt 5, 3), (32, .iconst 1, 1), (33, .ireturn, 1), (34, .iinc 3 1, 3), (37, .goto (-19), 3), (40, .iinc 1 1, 3), (43, .goto (-41), 3), (46, .iconst 0, 1), (47, .ireturn, 1)], 0, 10)
/-- EquationProofs$Prover.splitFirst()Z -/
def mt_142 : am_M := (⟨"EquationProofs$Prover", "splitFirst", "()Z"⟩, prog_7_method_29_code, 7, (some .boolean), ([(12, 10, 2), (62, 11, 0), (286, 12, 4), (221, 5, 1), (46, 10, 1), (344, 8, 5)], [], [], [], [], [(69, 119), (83, 98), (73, 55), (171, 54), (80, 53), (190, 154), (347, 129), (350, 128)]), [(0, .aload_n 0, 1), (1, .getfield 12, 3), (4, .getfield 62, 3), (7, .iconst 0, 1), (8, .aaload, 1), (9, .getfield 286, 3), (12, .iconst 4, 1), (13, .if_icmp .lt 5, 3), (16, .iconst 0, 1), (17, .ireturn, 1), (18, .iconst 0, 1), (19, .istore_n 1, 1), (20, .iload_n 1, 1), (21, .iconst 1, 1), (22, .if_icmp .gt 124, 3), (25, .aload_n 0, 1), (26, .iload_n 1, 1), (27, .invokevirtual 69, 3), (30, .astore_n 2, 1), (31, .iconst 0, 1), (32, .istore_n 3, 1), (33, .iload_n 3, 1), (34, .aload_n 2, 1), (35, .getfield 221, 3), (38, .if_icmp .ge 102, 3), (41, .aload_n 0, 1), (42, .getfield 46, 3), (45, .aload_n 2, 1), (46, .iload_n 3, 1), (47, .invokevirtual 83, 3), (50, .iconst 2, 1), (51, .if_icmp .ne 83, 3), (54, .aload_n 2, 1), (55, .aload_n 0, 1), (56, .getfield 46, 3), (59, .getfield 344, 3), (62, .invokevirtual 73, 3), (65, .istore 4, 2), (67, .iload 4, 2), (69, .invokestatic 171, 3), (72, .istore 5, 2), (74, .iload 4, 2), (76, .invokestatic 80, 3), (79, .iconst 3, 1), (80, .if_icmp .ne 54, 3), (83, .aload_n 0, 1), (84, .getfield 12, 3), (87, .getfield 62, 3), (90, .iconst 0, 1), (91, .aaload, 1), (92, .iload 5, 2), (94, .invokevirtual 190, 3), (97, .ifCond .eq 18, 3), (100, .aload_n 0, 1), (101, .iload_n 1, 1), (102, .aload_n 0, 1), (103, .getfield 46, 3), (106, .getfield 344, 3), (109, .invokevirtual 347, 3), (112, .goto 9, 3), (115, .aload_n 0, 1), (116, .iload 5, 2), (118, .invokevirtual 350, 3), (121, .istore 6, 2), (123, .iload 6, 2), (125, .ifCond .lt 7, 3), (128, .iconst 1, 1), (129, .goto 4, 3), (132, .iconst 0, 1), (133, .ireturn, 1), (134, .iinc 3 1, 3), (137, .goto (-104), 3), (140, .iinc 1 1, 3), (143, .goto (-123), 3), (146, .iconst 0, 1), (147, .ireturn, 1)], 0, 10)
/-- EquationProofs$Proof.<init>()V -/
def mt_143 : am_M := (⟨"EquationProofs$Proof", "<init>", "()V"⟩, prog_6_method_1_code, 2, none, ([(11, 11, 0)], [(11, 11, 0), (17, 11, 1)], [(9, 12)], [(9, "EquationProofs$Goal")], [], [(3, 0), (21, 151)]), [(0, .aload_n 0, 1), (1, .invokespecial 3, 3), (4, .aload_n 0, 1), (5, .bipush 12, 2), (7, .anewarray 9, 3), (10, .putfield 11, 3), (13, .aload_n 0, 1), (14, .bipush 60, 2), (16, .newarray .int, 2), (18, .putfield 17, 3), (21, .iconst 0, 1), (22, .istore_n 1, 1), (23, .iload_n 1, 1), (24, .aload_n 0, 1), (25, .getfield 11, 3), (28, .arraylength, 1), (29, .if_icmp .ge 22, 3), (32, .aload_n 0, 1), (33, .getfield 11, 3), (36, .iload_n 1, 1), (37, .new 9, 3), (40, .dup, 1), (41, .invokespecial 21, 3), (44, .aastore, 1), (45, .iinc 1 1, 3), (48, .goto (-25), 3), (51, .return_, 1)], 0, 2000)
/-- EquationProofs$Proof.forget()V -/
def mt_144 : am_M := (⟨"EquationProofs$Proof", "forget", "()V"⟩, prog_6_method_2_code, 1, none, ([], [(22, 11, 2), (26, 11, 3)], [], [], [], []), [(0, .aload_n 0, 1), (1, .iconst 0, 1), (2, .putfield 22, 3), (5, .aload_n 0, 1), (6, .iconst 0, 1), (7, .putfield 26, 3), (10, .return_, 1)], 0, 11)
/-- EquationProofs$Proof.start(LEquationProofs$Equation;IZ)V -/
def mt_145 : am_M := (⟨"EquationProofs$Proof", "start", "(LEquationProofs$Equation;IZ)V"⟩, prog_6_method_3_code, 5, none, ([(36, 4, 3), (47, 11, 6), (52, 4, 2), (17, 11, 1), (11, 11, 0), (53, 12, 0), (57, 4, 0), (67, 4, 1)], [(29, 11, 4), (32, 11, 5), (26, 11, 3), (22, 11, 2), (47, 11, 6), (48, 11, 7), (70, 12, 2), (73, 12, 3), (76, 12, 4)], [], [], [], [(41, 2), (61, 59)]), [(0, .aload_n 0, 1), (1, .iload_n 2, 1), (2, .putfield 29, 3), (5, .aload_n 0, 1), (6, .iload_n 3, 1), (7, .putfield 32, 3), (10, .aload_n 0, 1), (11, .iconst 0, 1), (12, .putfield 26, 3), (15, .aload_n 0, 1), (16, .iconst 1, 1), (17, .putfield 22, 3), (20, .aload_n 0, 1), (21, .aload_n 1, 1), (22, .getfield 36, 3), (25, .bipush 60, 2), (27, .invokestatic 41, 3), (30, .putfield 47, 3), (33, .aload_n 0, 1), (34, .iload_n 3, 1), (35, .ifCond .eq 7, 3), (38, .lconst 0, 1), (39, .goto 11, 3), (42, .lconst 1, 1), (43, .aload_n 0, 1), (44, .getfield 47, 3), (47, .lshl, 1), (48, .lconst 1, 1), (49, .lsub, 1), (50, .putfield 48, 3), (53, .iconst 0, 1), (54, .istore 4, 2), (56, .iload 4, 2), (58, .aload_n 0, 1), (59, .getfield 47, 3), (62, .if_icmp .ge 33, 3), (65, .iload 4, 2), (67, .aload_n 1, 1), (68, .getfield 52, 3), (71, .arraylength, 1), (72, .if_icmp .ge 23, 3), (75, .aload_n 0, 1), (76, .getfield 17, 3), (79, .iload 4, 2), (81, .aload_n 1, 1), (82, .getfield 52, 3), (85, .iload 4, 2), (87, .iaload, 1), (88, .iastore, 1), (89, .iinc 4 1, 3), (92, .goto (-36), 3), (95, .aload_n 0, 1), (96, .getfield 11, 3), (99, .iconst 0, 1), (100, .aaload, 1), (101, .astore 4, 2), (103, .aload 4, 2), (105, .getfield 53, 3), (108, .iconst 0, 1), (109, .aaload, 1), (110, .aload_n 1, 1), (111, .getfield 57, 3), (114, .invokevirtual 61, 3), (117, .aload 4, 2), (119, .getfield 53, 3), (122, .iconst 1, 1), (123, .aaload, 1), (124, .aload_n 1, 1), (125, .getfield 67, 3), (128, .invokevirtual 61, 3), (131, .aload 4, 2), (133, .iconst 0, 1), (134, .putfield 70, 3), (137, .aload 4, 2), (139, .lconst 0, 1), (140, .putfield 73, 3), (143, .aload 4, 2), (145, .iconst 0, 1), (146, .putfield 76, 3), (149, .return_, 1)], 3, 11)
end
section
/-! the methods -/
/-- EquationProofs$Proof.copy(LEquationProofs$Proof;)V -/
def mt_146 : am_M := (⟨"EquationProofs$Proof", "copy", "(LEquationProofs$Proof;)V"⟩, prog_6_method_4_code, 3, none, ([(22, 11, 2), (26, 11, 3), (29, 11, 4), (32, 11, 5), (47, 11, 6), (48, 11, 7), (17, 11, 1), (11, 11, 0)], [(22, 11, 2), (26, 11, 3), (29, 11, 4), (32, 11, 5), (47, 11, 6), (48, 11, 7)], [], [], [], [(79, 152)]), [(0, .aload_n 0, 1), (1, .aload_n 1, 1), (2, .getfield 22, 3), (5, .putfield 22, 3), (8, .aload_n 0, 1), (9, .aload_n 1, 1), (10, .getfield 26, 3), (13, .putfield 26, 3), (16, .aload_n 0, 1), (17, .aload_n 1, 1), (18, .getfield 29, 3), (21, .putfield 29, 3), (24, .aload_n 0, 1), (25, .aload_n 1, 1), (26, .getfield 32, 3), (29, .putfield 32, 3), (32, .aload_n 0, 1), (33, .aload_n 1, 1), (34, .getfield 47, 3), (37, .putfield 47, 3), (40, .aload_n 0, 1), (41, .aload_n 1, 1), (42, .getfield 48, 3), (45, .putfield 48, 3), (48, .iconst 0, 1), (49, .istore_n 2, 1), (50, .iload_n 2, 1), (51, .aload_n 0, 1), (52, .getfield 47, 3), (55, .if_icmp .ge 30, 3), (58, .iload_n 2, 1), (59, .aload_n 0, 1), (60, .getfield 17, 3), (63, .arraylength, 1), (64, .if_icmp .ge 21, 3), (67, .aload_n 0, 1), (68, .getfield 17, 3), (71, .iload_n 2, 1), (72, .aload_n 1, 1), (73, .getfield 17, 3), (76, .iload_n 2, 1), (77, .iaload, 1), (78, .iastore, 1), (79, .iinc 2 1, 3), (82, .goto (-32), 3), (85, .iconst 0, 1), (86, .istore_n 2, 1), (87, .iload_n 2, 1), (88, .aload_n 0, 1), (89, .getfield 22, 3), (92, .if_icmp .ge 33, 3), (95, .iload_n 2, 1), (96, .aload_n 0, 1), (97, .getfield 11, 3), (100, .arraylength, 1), (101, .if_icmp .ge 24, 3), (104, .aload_n 0, 1), (105, .getfield 11, 3), (108, .iload_n 2, 1), (109, .aaload, 1), (110, .aload_n 1, 1), (111, .getfield 11, 3), (114, .iload_n 2, 1), (115, .aaload, 1), (116, .invokevirtual 79, 3), (119, .iinc 2 1, 3), (122, .goto (-35), 3), (125, .return_, 1)], 1, 11)
/-- EquationProofs$Goal.<init>()V -/
def mt_147 : am_M := (⟨"EquationProofs$Goal", "<init>", "()V"⟩, prog_3_method_1_code, 2, none, ([(11, 12, 0)], [(11, 12, 0), (17, 12, 1)], [(9, 5)], [(9, "EquationProofs$Term")], [], [(3, 0), (21, 51)]), [(0, .aload_n 0, 1), (1, .invokespecial 3, 3), (4, .aload_n 0, 1), (5, .bipush 18, 2), (7, .anewarray 9, 3), (10, .putfield 11, 3), (13, .aload_n 0, 1), (14, .bipush 8, 2), (16, .newarray .long, 2), (18, .putfield 17, 3), (21, .iconst 0, 1), (22, .istore_n 1, 1), (23, .iload_n 1, 1), (24, .aload_n 0, 1), (25, .getfield 11, 3), (28, .arraylength, 1), (29, .if_icmp .ge 24, 3), (32, .aload_n 0, 1), (33, .getfield 11, 3), (36, .iload_n 1, 1), (37, .new 9, 3), (40, .dup, 1), (41, .bipush 60, 2), (43, .invokespecial 21, 3), (46, .aastore, 1), (47, .iinc 1 1, 3), (50, .goto (-27), 3), (53, .return_, 1)], 0, 2000)
/-- EquationProofs$Goal.copy(LEquationProofs$Goal;)V -/
def mt_148 : am_M := (⟨"EquationProofs$Goal", "copy", "(LEquationProofs$Goal;)V"⟩, prog_3_method_2_code, 2, none, ([(11, 12, 0)], [], [], [], [], [(24, 59), (28, 153)]), [(0, .aload_n 0, 1), (1, .getfield 11, 3), (4, .iconst 0, 1), (5, .aaload, 1), (6, .aload_n 1, 1), (7, .getfield 11, 3), (10, .iconst 0, 1), (11, .aaload, 1), (12, .invokevirtual 24, 3), (15, .aload_n 0, 1), (16, .getfield 11, 3), (19, .iconst 1, 1), (20, .aaload, 1), (21, .aload_n 1, 1), (22, .getfield 11, 3), (25, .iconst 1, 1), (26, .aaload, 1), (27, .invokevirtual 24, 3), (30, .aload_n 0, 1), (31, .aload_n 1, 1), (32, .invokevirtual 28, 3), (35, .return_, 1)], 1, 12)
/-- EquationProofs$Goal.copyRest(LEquationProofs$Goal;)V -/
def mt_149 : am_M := (⟨"EquationProofs$Goal", "copyRest", "(LEquationProofs$Goal;)V"⟩, prog_3_method_3_code, 3, none, ([(32, 12, 2), (36, 12, 3), (40, 12, 4), (17, 12, 1), (11, 12, 0)], [(32, 12, 2), (36, 12, 3), (40, 12, 4)], [], [], [], [(24, 59)]), [(0, .aload_n 0, 1), (1, .aload_n 1, 1), (2, .getfield 32, 3), (5, .putfield 32, 3), (8, .aload_n 0, 1), (9, .aload_n 1, 1), (10, .getfield 36, 3), (13, .putfield 36, 3), (16, .aload_n 0, 1), (17, .aload_n 1, 1), (18, .getfield 40, 3), (21, .putfield 40, 3), (24, .iconst 0, 1), (25, .istore_n 2, 1), (26, .iload_n 2, 1), (27, .aload_n 0, 1), (28, .getfield 32, 3), (31, .if_icmp .ge 76, 3), (34, .iload_n 2, 1), (35, .aload_n 0, 1), (36, .getfield 17, 3), (39, .arraylength, 1), (40, .if_icmp .ge 67, 3), (43, .aload_n 0, 1), (44, .getfield 17, 3), (47, .iload_n 2, 1), (48, .aload_n 1, 1), (49, .getfield 17, 3), (52, .iload_n 2, 1), (53, .laload, 1), (54, .lastore, 1), (55, .aload_n 0, 1), (56, .getfield 11, 3), (59, .iconst 2, 1), (60, .iconst 2, 1), (61, .iload_n 2, 1), (62, .imul, 1), (63, .iadd, 1), (64, .aaload, 1), (65, .aload_n 1, 1), (66, .getfield 11, 3), (69, .iconst 2, 1), (70, .iconst 2, 1), (71, .iload_n 2, 1), (72, .imul, 1), (73, .iadd, 1), (74, .aaload, 1), (75, .invokevirtual 24, 3), (78, .aload_n 0, 1), (79, .getfield 11, 3), (82, .iconst 3, 1), (83, .iconst 2, 1), (84, .iload_n 2, 1), (85, .imul, 1), (86, .iadd, 1), (87, .aaload, 1), (88, .aload_n 1, 1), (89, .getfield 11, 3), (92, .iconst 3, 1), (93, .iconst 2, 1), (94, .iload_n 2, 1), (95, .imul, 1), (96, .iadd, 1), (97, .aaload, 1), (98, .invokevirtual 24, 3), (101, .iinc 2 1, 3), (104, .goto (-78), 3), (107, .return_, 1)], 1, 12)
/-- EquationProofs$Goal.isFixed(I)Z -/
def mt_150 : am_M := (⟨"EquationProofs$Goal", "isFixed", "(I)Z"⟩, prog_3_method_4_code, 2, (some .boolean), ([(36, 12, 3)], [], [], [], [], []), [(0, .aload_n 0, 1), (1, .getfield 36, 3), (4, .iload_n 1, 1), (5, .lshr, 1), (6, .lconst 1, 1), (7, .land, 1), (8, .lconst 1, 1), (9, .lcmp, 1), (10, .ifCond .ne 7, 3), (13, .iconst 1, 1), (14, .goto 4, 3), (17, .iconst 0, 1), (18, .ireturn, 1)], 1, 12)
/-- EquationProofs$Goal.variables()J -/
def mt_151 : am_M := (⟨"EquationProofs$Goal", "variables", "()J"⟩, prog_3_method_5_code, 1, (some .long), ([(11, 12, 0)], [], [], [], [], [(43, 64)]), [(0, .aload_n 0, 1), (1, .getfield 11, 3), (4, .iconst 0, 1), (5, .aaload, 1), (6, .invokevirtual 43, 3), (9, .aload_n 0, 1), (10, .getfield 11, 3), (13, .iconst 1, 1), (14, .aaload, 1), (15, .invokevirtual 43, 3), (18, .lor, 1), (19, .lreturn, 1)], 0, 12)
/-- EquationProofsModel.<init>()V -/
def mt_152 : am_M := (⟨"EquationProofsModel", "<init>", "()V"⟩, prog_15_method_1_code, 1, none, ([], [(7, 13, 2), (13, 13, 4), (16, 13, 5), (20, 13, 6), (23, 13, 7), (26, 13, 9), (29, 13, 10), (32, 13, 11), (35, 13, 12), (38, 13, 14), (41, 13, 15), (44, 13, 16), (47, 13, 17), (50, 13, 18), (53, 13, 20), (56, 13, 21), (59, 13, 22), (62, 13, 23), (65, 13, 24), (68, 13, 25), (71, 13, 26), (74, 13, 27), (78, 13, 37), (81, 13, 38), (84, 13, 42), (87, 13, 45), (90, 13, 46), (93, 13, 48), (96, 13, 49), (99, 13, 52), (102, 13, 54), (105, 13, 58), (108, 13, 60), (111, 13, 61), (116, 13, 62), (119, 13, 63), (122, 13, 64), (125, 13, 65), (128, 13, 66), (131, 13, 67), (135, 13, 68), (138, 13, 69), (141, 13, 70), (144, 13, 71), (147, 13, 73), (150, 13, 74), (153, 13, 78), (156, 13, 79), (159, 13, 80), (162, 13, 81), (165, 13, 82), (168, 13, 83), (171, 13, 84), (174, 13, 85), (177, 13, 86), (181, 13, 87), (184, 13, 88), (187, 13, 90), (190, 13, 91), (193, 13, 92), (196, 13, 94), (199, 13, 96), (202, 13, 97), (205, 13, 98), (208, 13, 100), (211, 13, 102), (214, 13, 103), (217, 13, 104), (220, 13, 105), (223, 13, 106), (226, 13, 107), (229, 13, 108), (232, 13, 109), (235, 13, 110), (238, 13, 111)], [], [], [(115, .int 84042), (180, .int 40960)], [(1, 0)]), [(0, .aload_n 0, 1), (1, .invokespecial 1, 3), (4, .aload_n 0, 1), (5, .bipush 6, 2), (7, .newarray .long, 2), (9, .putfield 7, 3), (12, .aload_n 0, 1), (13, .bipush 16, 2), (15, .newarray .long, 2), (17, .putfield 13, 3), (20, .aload_n 0, 1), (21, .bipush 16, 2), (23, .newarray .int, 2), (25, .putfield 16, 3), (28, .aload_n 0, 1), (29, .bipush 16, 2), (31, .newarray .int, 2), (33, .putfield 20, 3), (36, .aload_n 0, 1), (37, .bipush 48, 2), (39, .newarray .int, 2), (41, .putfield 23, 3), (44, .aload_n 0, 1), (45, .bipush 16, 2), (47, .newarray .long, 2), (49, .putfield 26, 3), (52, .aload_n 0, 1), (53, .bipush 16, 2), (55, .newarray .int, 2), (57, .putfield 29, 3), (60, .aload_n 0, 1), (61, .bipush 64, 2), (63, .newarray .int, 2), (65, .putfield 32, 3), (68, .aload_n 0, 1), (69, .bipush 16, 2), (71, .newarray .int, 2), (73, .putfield 35, 3), (76, .aload_n 0, 1), (77, .bipush 40, 2), (79, .newarray .int, 2), (81, .putfield 38, 3), (84, .aload_n 0, 1), (85, .sipush 1920, 3), (88, .newarray .int, 2), (90, .putfield 41, 3), (93, .aload_n 0, 1), (94, .bipush 40, 2), (96, .newarray .int, 2), (98, .putfield 44, 3), (101, .aload_n 0, 1), (102, .sipush 1920, 3), (105, .newarray .int, 2), (107, .putfield 47, 3), (110, .aload_n 0, 1), (111, .bipush 40, 2), (113, .newarray .int, 2), (115, .putfield 50, 3), (118, .aload_n 0, 1), (119, .bipush 16, 2), (121, .newarray .long, 2), (123, .putfield 53, 3), (126, .aload_n 0, 1), (127, .sipush 1536, 3), (130, .newarray .int, 2), (132, .putfield 56, 3), (135, .aload_n 0, 1), (136, .bipush 32, 2), (138, .newarray .int, 2), (140, .putfield 59, 3), (143, .aload_n 0, 1), (144, .bipush 16, 2), (146, .newarray .int, 2), (148, .putfield 62, 3), (151, .aload_n 0, 1), (152, .bipush 16, 2), (154, .newarray .int, 2), (156, .putfield 65, 3), (159, .aload_n 0, 1), (160, .bipush 96, 2), (162, .newarray .int, 2), (164, .putfield 68, 3), (167, .aload_n 0, 1), (168, .bipush 16, 2), (170, .newarray .int, 2), (172, .putfield 71, 3), (175, .aload_n 0, 1), (176, .sipush 1000, 3), (179, .newarray .byte, 2), (181, .putfield 74, 3), (184, .aload_n 0, 1), (185, .bipush 48, 2), (187, .newarray .long, 2), (189, .putfield 78, 3), (192, .aload_n 0, 1), (193, .bipush 48, 2), (195, .newarray .int, 2), (197, .putfield 81, 3), (200, .aload_n 0, 1), (201, .bipush 48, 2), (203, .newarray .int, 2), (205, .putfield 84, 3), (208, .aload_n 0, 1), (209, .bipush 64, 2), (211, .newarray .int, 2), (213, .putfield 87, 3), (216, .aload_n 0, 1), (217, .bipush 64, 2), (219, .newarray .int, 2), (221, .putfield 90, 3), (224, .aload_n 0, 1), (225, .bipush 64, 2), (227, .newarray .int, 2), (229, .putfield 93, 3), (232, .aload_n 0, 1), (233, .bipush 48, 2), (235, .newarray .int, 2), (237, .putfield 96, 3), (240, .aload_n 0, 1), (241, .sipush 12000, 3), (244, .newarray .int, 2), (246, .putfield 99, 3), (249, .aload_n 0, 1), (250, .sipush 400, 3), (253, .newarray .int, 2), (255, .putfield 102, 3), (258, .aload_n 0, 1), (259, .sipush 8000, 3), (262, .newarray .byte, 2), (264, .putfield 105, 3), (267, .aload_n 0, 1), (268, .sipush 400, 3), (271, .newarray .int, 2), (273, .putfield 108, 3), (276, .aload_n 0, 1), (277, .sipush 400, 3), (280, .newarray .boolean, 2), (282, .putfield 111, 3), (285, .aload_n 0, 1), (286, .ldc 115, 2), (288, .newarray .int, 2), (290, .putfield 116, 3), (293, .aload_n 0, 1), (294, .sipush 12006, 3), (297, .newarray .int, 2), (299, .putfield 119, 3), (302, .aload_n 0, 1), (303, .bipush 6, 2), (305, .newarray .int, 2), (307, .putfield 122, 3), (310, .aload_n 0, 1), (311, .bipush 48, 2), (313, .newarray .long, 2), (315, .putfield 125, 3), (318, .aload_n 0, 1), (319, .bipush 64, 2), (321, .newarray .int, 2), (323, .putfield 128, 3), (326, .aload_n 0, 1), (327, .iconst (-1), 1), (328, .putfield 131, 3), (331, .aload_n 0, 1), (332, .bipush 6, 2), (334, .newarray .int, 2), (336, .putfield 135, 3), (339, .aload_n 0, 1), (340, .bipush 42, 2), (342, .newarray .int, 2), (344, .putfield 138, 3), (347, .aload_n 0, 1), (348, .bipush 6, 2), (350, .newarray .int, 2), (352, .putfield 141, 3), (355, .aload_n 0, 1), (356, .sipush 400, 3), (359, .newarray .int, 2), (361, .putfield 144, 3), (364, .aload_n 0, 1), (365, .sipush 400, 3), (368, .newarray .int, 2), (370, .putfield 147, 3), (373, .aload_n 0, 1), (374, .iconst (-1), 1), (375, .putfield 150, 3), (378, .aload_n 0, 1), (379, .bipush 13, 2), (381, .newarray .int, 2), (383, .putfield 153, 3), (386, .aload_n 0, 1), (387, .bipush 40, 2), (389, .newarray .boolean, 2), (391, .putfield 156, 3), (394, .aload_n 0, 1), (395, .sipush 5120, 3), (398, .newarray .int, 2), (400, .putfield 159, 3), (403, .aload_n 0, 1), (404, .bipush 80, 2), (406, .newarray .int, 2), (408, .putfield 162, 3), (411, .aload_n 0, 1), (412, .bipush 40, 2), (414, .newarray .int, 2), (416, .putfield 165, 3), (419, .aload_n 0, 1), (420, .bipush 40, 2), (422, .newarray .long, 2), (424, .putfield 168, 3), (427, .aload_n 0, 1), (428, .bipush 40, 2), (430, .newarray .int, 2), (432, .putfield 171, 3), (435, .aload_n 0, 1), (436, .iconst 1, 1), (437, .newarray .int, 2), (439, .putfield 174, 3), (442, .aload_n 0, 1), (443, .bipush 40, 2), (445, .newarray .int, 2), (447, .putfield 177, 3), (450, .aload_n 0, 1), (451, .ldc 180, 2), (453, .newarray .int, 2), (455, .putfield 181, 3), (458, .aload_n 0, 1), (459, .sipush 640, 3), (462, .newarray .int, 2), (464, .putfield 184, 3), (467, .aload_n 0, 1), (468, .bipush 60, 2), (470, .newarray .int, 2), (472, .putfield 187, 3), (475, .aload_n 0, 1), (476, .bipush 60, 2), (478, .newarray .boolean, 2), (480, .putfield 190, 3), (483, .aload_n 0, 1), (484, .sipush 128, 3), (487, .newarray .int, 2), (489, .putfield 193, 3), (492, .aload_n 0, 1), (493, .bipush 24, 2), (495, .newarray .int, 2), (497, .putfield 196, 3), (500, .aload_n 0, 1), (501, .bipush 60, 2), (503, .newarray .int, 2), (505, .putfield 199, 3), (508, .aload_n 0, 1), (509, .iconst (-1), 1), (510, .putfield 202, 3), (513, .aload_n 0, 1), (514, .bipush 8, 2), (516, .newarray .int, 2), (518, .putfield 205, 3), (521, .aload_n 0, 1), (522, .bipush 64, 2), (524, .newarray .int, 2), (526, .putfield 208, 3), (529, .aload_n 0, 1), (530, .sipush 5120, 3), (533, .newarray .int, 2), (535, .putfield 211, 3), (538, .aload_n 0, 1), (539, .bipush 80, 2), (541, .newarray .int, 2), (543, .putfield 214, 3), (546, .aload_n 0, 1), (547, .bipush 40, 2), (549, .newarray .int, 2), (551, .putfield 217, 3), (554, .aload_n 0, 1), (555, .bipush 40, 2), (557, .newarray .long, 2), (559, .putfield 220, 3), (562, .aload_n 0, 1), (563, .bipush 40, 2), (565, .newarray .int, 2), (567, .putfield 223, 3), (570, .aload_n 0, 1), (571, .bipush 40, 2), (573, .newarray .int, 2), (575, .putfield 226, 3), (578, .aload_n 0, 1), (579, .ldc 180, 2), (581, .newarray .int, 2), (583, .putfield 229, 3), (586, .aload_n 0, 1), (587, .sipush 640, 3), (590, .newarray .int, 2), (592, .putfield 232, 3), (595, .aload_n 0, 1), (596, .bipush 13, 2), (598, .newarray .int, 2), (600, .putfield 235, 3), (603, .aload_n 0, 1), (604, .bipush 40, 2), (606, .newarray .boolean, 2), (608, .putfield 238, 3), (611, .return_, 1)], 0, 2000)
/-- EquationProofsModel.thrown()I -/
def mt_153 : am_M := (⟨"EquationProofsModel", "thrown", "()I"⟩, prog_15_method_2_code, 1, (some .int), ([(241, 13, 0)], [], [], [], [], []), [(0, .aload_n 0, 1), (1, .getfield 241, 3), (4, .ireturn, 1)], 0, 13)
/-- EquationProofsModel.arity(I)I -/
def mt_154 : am_M := (⟨"EquationProofsModel", "arity", "(I)I"⟩, prog_15_method_3_code, 2, (some .int), ([(29, 13, 10), (20, 13, 6)], [], [], [], [], []), [(0, .iload_n 1, 1), (1, .sipush 1000, 3), (4, .if_icmp .ge 7, 3), (7, .iload_n 1, 1), (8, .ifCond .ne 7, 3), (11, .iconst 0, 1), (12, .goto 29, 3), (15, .iload_n 1, 1), (16, .bipush 100, 2), (18, .if_icmp .lt 15, 3), (21, .aload_n 0, 1), (22, .getfield 29, 3), (25, .iload_n 1, 1), (26, .bipush 100, 2), (28, .isub, 1), (29, .iaload, 1), (30, .goto 11, 3), (33, .aload_n 0, 1), (34, .getfield 20, 3), (37, .iload_n 1, 1), (38, .iconst 1, 1), (39, .isub, 1), (40, .iaload, 1), (41, .ireturn, 1)], 1, 13)
/-- EquationProofsModel.behind([II)I -/
def mt_155 : am_M := (⟨"EquationProofsModel", "behind", "([II)I"⟩, prog_15_method_4_code, 5, (some .int), ([], [], [], [], [], [(244, 158)]), [(0, .iconst 1, 1), (1, .istore_n 3, 1), (2, .iload_n 2, 1), (3, .istore 4, 2), (5, .iload_n 3, 1), (6, .ifCond .le 22, 3), (9, .iload_n 3, 1), (10, .aload_n 0, 1), (11, .aload_n 1, 1), (12, .iload 4, 2), (14, .iaload, 1), (15, .invokevirtual 244, 3), (18, .iconst 1, 1), (19, .isub, 1), (20, .iadd, 1), (21, .istore_n 3, 1), (22, .iinc 4 1, 3), (25, .goto (-20), 3), (28, .iload 4, 2), (30, .ireturn, 1)], 2, 13)
/-- EquationProofsModel.isCall(I)Z -/
def mt_156 : am_M := (⟨"EquationProofsModel", "isCall", "(I)Z"⟩, prog_15_method_5_code, 1, (some .boolean), ([], [], [], [], [], []), [(0, .iload_n 0, 1), (1, .bipush 100, 2), (3, .if_icmp .lt 14, 3), (6, .iload_n 0, 1), (7, .sipush 1000, 3), (10, .if_icmp .ge 7, 3), (13, .iconst 1, 1), (14, .goto 4, 3), (17, .iconst 0, 1), (18, .ireturn, 1)], 1, 1000)
/-- EquationProofsModel.isCon(I)Z -/
def mt_157 : am_M := (⟨"EquationProofsModel", "isCon", "(I)Z"⟩, prog_15_method_6_code, 1, (some .boolean), ([], [], [], [], [], []), [(0, .iload_n 0, 1), (1, .iconst 1, 1), (2, .if_icmp .lt 13, 3), (5, .iload_n 0, 1), (6, .bipush 100, 2), (8, .if_icmp .ge 7, 3), (11, .iconst 1, 1), (12, .goto 4, 3), (15, .iconst 0, 1), (16, .ireturn, 1)], 1, 1000)
/-- EquationProofsModel.good()Z -/
def mt_158 : am_M := (⟨"EquationProofsModel", "good", "()Z"⟩, prog_15_method_7_code, 1, (some .boolean), ([(248, 13, 35)], [], [], [], [], []), [(0, .aload_n 0, 1), (1, .getfield 248, 3), (4, .ifCond .ne 7, 3), (7, .iconst 1, 1), (8, .goto 4, 3), (11, .iconst 0, 1), (12, .ireturn, 1)], 0, 13)
/-- EquationProofsModel.bad(I)V -/
def mt_159 : am_M := (⟨"EquationProofsModel", "bad", "(I)V"⟩, prog_15_method_8_code, 2, none, ([(251, 13, 32)], [], [], [], [], [(254, 164)]), [(0, .aload_n 0, 1), (1, .iload_n 1, 1), (2, .aload_n 0, 1), (3, .getfield 251, 3), (6, .invokevirtual 254, 3), (9, .return_, 1)], 1, 13)
/-- EquationProofsModel.badAt(II)V -/
def mt_160 : am_M := (⟨"EquationProofsModel", "badAt", "(II)V"⟩, prog_15_method_9_code, 3, none, ([(248, 13, 35)], [(248, 13, 35), (258, 13, 36)], [], [], [], []), [(0, .aload_n 0, 1), (1, .getfield 248, 3), (4, .ifCond .ne 13, 3), (7, .aload_n 0, 1), (8, .iload_n 1, 1), (9, .putfield 248, 3), (12, .aload_n 0, 1), (13, .iload_n 2, 1), (14, .putfield 258, 3), (17, .return_, 1)], 2, 13)
/-- EquationProofsModel.look()I -/
def mt_161 : am_M := (⟨"EquationProofsModel", "look", "()I"⟩, prog_15_method_10_code, 1, (some .int), ([(261, 13, 30), (264, 13, 29), (74, 13, 27)], [], [], [], [], []), [(0, .aload_n 0, 1), (1, .getfield 261, 3), (4, .aload_n 0, 1), (5, .getfield 264, 3), (8, .if_icmp .ge 19, 3), (11, .aload_n 0, 1), (12, .getfield 74, 3), (15, .aload_n 0, 1), (16, .getfield 261, 3), (19, .baload, 1), (20, .sipush 255, 3), (23, .iand, 1), (24, .goto 4, 3), (27, .iconst (-1), 1), (28, .ireturn, 1)], 0, 13)
/-- EquationProofsModel.isLetter(I)Z -/
def mt_162 : am_M := (⟨"EquationProofsModel", "isLetter", "(I)Z"⟩, prog_15_method_11_code, 1, (some .boolean), ([], [], [], [], [], []), [(0, .iload_n 0, 1), (1, .bipush 97, 2), (3, .if_icmp .lt 9, 3), (6, .iload_n 0, 1), (7, .bipush 122, 2), (9, .if_icmp .le 15, 3), (12, .iload_n 0, 1), (13, .bipush 65, 2), (15, .if_icmp .lt 13, 3), (18, .iload_n 0, 1), (19, .bipush 90, 2), (21, .if_icmp .gt 7, 3), (24, .iconst 1, 1), (25, .goto 4, 3), (28, .iconst 0, 1), (29, .ireturn, 1)], 1, 1000)
/-- EquationProofsModel.isDigit(I)Z -/
def mt_163 : am_M := (⟨"EquationProofsModel", "isDigit", "(I)Z"⟩, prog_15_method_12_code, 1, (some .boolean), ([], [], [], [], [], []), [(0, .iload_n 0, 1), (1, .bipush 48, 2), (3, .if_icmp .lt 13, 3), (6, .iload_n 0, 1), (7, .bipush 57, 2), (9, .if_icmp .gt 7, 3), (12, .iconst 1, 1), (13, .goto 4, 3), (16, .iconst 0, 1), (17, .ireturn, 1)], 1, 1000)
/-- EquationProofsModel.word(IIII)J -/
def mt_164 : am_M := (⟨"EquationProofsModel", "word", "(IIII)J"⟩, prog_15_method_13_code, 6, (some .long), ([], [], [], [], [], []), [(0, .iload_n 0, 1), (1, .i2l, 1), (2, .bipush 16, 2), (4, .lshl, 1), (5, .iload_n 1, 1), (6, .bipush 8, 2), (8, .ishl, 1), (9, .i2l, 1), (10, .lor, 1), (11, .iload_n 2, 1), (12, .i2l, 1), (13, .lor, 1), (14, .lstore 4, 2), (16, .iload_n 3, 1), (17, .ifCond .ne 8, 3), (20, .lload 4, 2), (22, .goto 11, 3), (25, .lload 4, 2), (27, .bipush 8, 2), (29, .lshl, 1), (30, .iload_n 3, 1), (31, .i2l, 1), (32, .lor, 1), (33, .lreturn, 1)], 4, 1000)
/-- EquationProofsModel.next()V -/
def mt_165 : am_M := (⟨"EquationProofsModel", "next", "()V"⟩, prog_15_method_14_code, 3, none, ([(261, 13, 30), (251, 13, 32), (282, 13, 33), (271, 13, 31)], [(261, 13, 30), (251, 13, 32), (271, 13, 31), (282, 13, 33)], [], [], [], [(267, 165), (274, 166), (278, 163), (286, 167), (289, 168)]), [(0, .aload_n 0, 1), (1, .invokevirtual 267, 3), (4, .bipush 32, 2), (6, .if_icmp .eq 12, 3), (9, .aload_n 0, 1), (10, .invokevirtual 267, 3), (13, .bipush 10, 2), (15, .if_icmp .ne 16, 3), (18, .aload_n 0, 1), (19, .dup, 1), (20, .getfield 261, 3), (23, .iconst 1, 1), (24, .iadd, 1), (25, .putfield 261, 3), (28, .goto (-28), 3), (31, .aload_n 0, 1), (32, .aload_n 0, 1), (33, .getfield 261, 3), (36, .putfield 251, 3), (39, .aload_n 0, 1), (40, .invokevirtual 267, 3), (43, .istore_n 1, 1), (44, .iload_n 1, 1), (45, .iconst (-1), 1), (46, .if_icmp .ne 9, 3), (49, .aload_n 0, 1), (50, .iconst 0, 1), (51, .putfield 271, 3), (54, .return_, 1), (55, .iload_n 1, 1), (56, .invokestatic 274, 3), (59, .ifCond .ne 82, 3), (62, .iload_n 1, 1), (63, .bipush 61, 2), (65, .if_icmp .eq 45, 3), (68, .iload_n 1, 1), (69, .bipush 124, 2), (71, .if_icmp .eq 39, 3), (74, .iload_n 1, 1), (75, .bipush 58, 2), (77, .if_icmp .eq 33, 3), (80, .iload_n 1, 1), (81, .bipush 59, 2), (83, .if_icmp .eq 27, 3), (86, .iload_n 1, 1), (87, .bipush 62, 2), (89, .if_icmp .eq 21, 3), (92, .iload_n 1, 1), (93, .bipush 40, 2), (95, .if_icmp .eq 15, 3), (98, .iload_n 1, 1), (99, .bipush 41, 2), (101, .if_icmp .eq 9, 3), (104, .iload_n 1, 1), (105, .bipush 95, 2), (107, .if_icmp .ne 7, 3), (110, .iconst 1, 1), (111, .goto 4, 3), (114, .iconst 0, 1), (115, .istore_n 2, 1), (116, .iload_n 2, 1), (117, .ifCond .ne 8, 3), (120, .aload_n 0, 1), (121, .iconst 1, 1), (122, .invokevirtual 278, 3), (125, .aload_n 0, 1), (126, .iload_n 1, 1), (127, .putfield 271, 3), (130, .aload_n 0, 1), (131, .dup, 1), (132, .getfield 261, 3), (135, .iconst 1, 1), (136, .iadd, 1), (137, .putfield 261, 3), (140, .return_, 1), (141, .aload_n 0, 1), (142, .lconst 0, 1), (143, .putfield 282, 3), (146, .aload_n 0, 1), (147, .invokevirtual 267, 3), (150, .invokestatic 274, 3), (153, .ifCond .ne 13, 3), (156, .aload_n 0, 1), (157, .invokevirtual 267, 3), (160, .invokestatic 286, 3), (163, .ifCond .eq 53, 3), (166, .aload_n 0, 1), (167, .getfield 261, 3), (170, .aload_n 0, 1), (171, .getfield 251, 3), (174, .isub, 1), (175, .bipush 6, 2), (177, .if_icmp .ne 9, 3), (180, .aload_n 0, 1), (181, .iconst 1, 1), (182, .invokevirtual 278, 3), (185, .return_, 1), (186, .aload_n 0, 1), (187, .aload_n 0, 1), (188, .getfield 282, 3), (191, .bipush 8, 2), (193, .lshl, 1), (194, .aload_n 0, 1), (195, .invokevirtual 267, 3), (198, .i2l, 1), (199, .lor, 1), (200, .putfield 282, 3), (203, .aload_n 0, 1), (204, .dup, 1), (205, .getfield 261, 3), (208, .iconst 1, 1), (209, .iadd, 1), (210, .putfield 261, 3), (213, .goto (-67), 3), (216, .aload_n 0, 1), (217, .iload_n 1, 1), (218, .bipush 97, 2), (220, .if_icmp .lt 7, 3), (223, .iconst 1, 1), (224, .goto 4, 3), (227, .iconst 2, 1), (228, .putfield 271, 3), (231, .aload_n 0, 1), (232, .aload_n 0, 1), (233, .getfield 282, 3), (236, .bipush 100, 2), (238, .bipush 97, 2), (240, .bipush 116, 2), (242, .bipush 97, 2), (244, .invokestatic 289, 3), (247, .lcmp, 1), (248, .ifCond .ne 7, 3), (251, .iconst 3, 1), (252, .goto 75, 3), (255, .aload_n 0, 1), (256, .getfield 282, 3), (259, .bipush 102, 2), (261, .bipush 117, 2), (263, .bipush 110, 2), (265, .iconst 0, 1), (266, .invokestatic 289, 3), (269, .lcmp, 1), (270, .ifCond .ne 7, 3), (273, .iconst 4, 1), (274, .goto 53, 3), (277, .aload_n 0, 1), (278, .getfield 282, 3), (281, .bipush 114, 2), (283, .bipush 117, 2), (285, .bipush 108, 2), (287, .bipush 101, 2), (289, .invokestatic 289, 3), (292, .lcmp, 1), (293, .ifCond .ne 7, 3), (296, .iconst 5, 1), (297, .goto 30, 3), (300, .aload_n 0, 1), (301, .getfield 282, 3), (304, .bipush 108, 2), (306, .bipush 97, 2), (308, .bipush 119, 2), (310, .iconst 0, 1), (311, .invokestatic 289, 3), (314, .lcmp, 1), (315, .ifCond .ne 8, 3), (318, .bipush 6, 2), (320, .goto 7, 3), (323, .aload_n 0, 1), (324, .getfield 271, 3), (327, .putfield 271, 3), (330, .return_, 1)], 0, 13)
/-- EquationProofsModel.want(I)V -/
def mt_166 : am_M := (⟨"EquationProofsModel", "want", "(I)V"⟩, prog_15_method_15_code, 2, none, ([(271, 13, 31)], [], [], [], [], [(293, 162), (278, 163), (297, 169)]), [(0, .aload_n 0, 1), (1, .invokevirtual 293, 3), (4, .ifCond .eq 16, 3), (7, .aload_n 0, 1), (8, .getfield 271, 3), (11, .iload_n 1, 1), (12, .if_icmp .eq 8, 3), (15, .aload_n 0, 1), (16, .iconst 2, 1), (17, .invokevirtual 278, 3), (20, .aload_n 0, 1), (21, .invokevirtual 293, 3), (24, .ifCond .eq 7, 3), (27, .aload_n 0, 1), (28, .invokevirtual 297, 3), (31, .return_, 1)], 1, 13)
/-- EquationProofsModel.find([JIJ)I -/
def mt_167 : am_M := (⟨"EquationProofsModel", "find", "([JIJ)I"⟩, prog_15_method_16_code, 5, (some .int), ([], [], [], [], [], []), [(0, .iconst 0, 1), (1, .istore 4, 2), (3, .iload 4, 2), (5, .iload_n 1, 1), (6, .if_icmp .ge 21, 3), (9, .aload_n 0, 1), (10, .iload 4, 2), (12, .laload, 1), (13, .lload_n 2, 1), (14, .lcmp, 1), (15, .ifCond .ne 6, 3), (18, .iload 4, 2), (20, .ireturn, 1), (21, .iinc 4 1, 3), (24, .goto (-21), 3), (27, .iconst (-1), 1), (28, .ireturn, 1)], 3, 1000)
/-- EquationProofsModel.countName()V -/
def mt_168 : am_M := (⟨"EquationProofsModel", "countName", "()V"⟩, prog_15_method_17_code, 1, none, ([(300, 13, 40)], [(300, 13, 40)], [], [], [], [(293, 162), (278, 163)]), [(0, .aload_n 0, 1), (1, .invokevirtual 293, 3), (4, .ifCond .eq 17, 3), (7, .aload_n 0, 1), (8, .getfield 300, 3), (11, .bipush 40, 2), (13, .if_icmp .ne 8, 3), (16, .aload_n 0, 1), (17, .iconst 5, 1), (18, .invokevirtual 278, 3), (21, .aload_n 0, 1), (22, .dup, 1), (23, .getfield 300, 3), (26, .iconst 1, 1), (27, .iadd, 1), (28, .putfield 300, 3), (31, .return_, 1)], 0, 13)
/-- EquationProofsModel.put(I)V -/
def mt_169 : am_M := (⟨"EquationProofsModel", "put", "(I)V"⟩, prog_15_method_18_code, 2, none, ([(84, 13, 42), (303, 13, 43)], [(303, 13, 43)], [], [], [], [(293, 162)]), [(0, .aload_n 0, 1), (1, .invokevirtual 293, 3), (4, .ifCond .eq 23, 3), (7, .aload_n 0, 1), (8, .getfield 84, 3), (11, .aload_n 0, 1), (12, .getfield 303, 3), (15, .iload_n 1, 1), (16, .iastore, 1), (17, .aload_n 0, 1), (18, .dup, 1), (19, .getfield 303, 3), (22, .iconst 1, 1), (23, .iadd, 1), (24, .putfield 303, 3), (27, .return_, 1)], 1, 13)
/-- EquationProofsModel.data()V -/
def mt_170 : am_M := (⟨"EquationProofsModel", "data", "()V"⟩, prog_15_method_19_code, 1, none, ([(271, 13, 31), (7, 13, 2), (306, 13, 1), (282, 13, 33)], [(306, 13, 1)], [], [], [], [(297, 169), (293, 162), (278, 163), (309, 171), (313, 170), (316, 175)]), [(0, .aload_n 0, 1), (1, .invokevirtual 297, 3), (4, .aload_n 0, 1), (5, .invokevirtual 293, 3), (8, .ifCond .eq 16, 3), (11, .aload_n 0, 1), (12, .getfield 271, 3), (15, .iconst 2, 1), (16, .if_icmp .eq 8, 3), (19, .aload_n 0, 1), (20, .iconst 2, 1), (21, .invokevirtual 278, 3), (24, .aload_n 0, 1), (25, .invokevirtual 293, 3), (28, .ifCond .eq 27, 3), (31, .aload_n 0, 1), (32, .getfield 7, 3), (35, .aload_n 0, 1), (36, .getfield 306, 3), (39, .aload_n 0, 1), (40, .getfield 282, 3), (43, .invokestatic 309, 3), (46, .iconst (-1), 1), (47, .if_icmp .eq 8, 3), (50, .aload_n 0, 1), (51, .iconst 3, 1), (52, .invokevirtual 278, 3), (55, .aload_n 0, 1), (56, .invokevirtual 293, 3), (59, .ifCond .eq 17, 3), (62, .aload_n 0, 1), (63, .getfield 306, 3), (66, .bipush 6, 2), (68, .if_icmp .ne 8, 3), (71, .aload_n 0, 1), (72, .iconst 5, 1), (73, .invokevirtual 278, 3), (76, .aload_n 0, 1), (77, .invokevirtual 293, 3), (80, .ifCond .ne 4, 3), (83, .return_, 1), (84, .aload_n 0, 1), (85, .getfield 7, 3), (88, .aload_n 0, 1), (89, .getfield 306, 3), (92, .aload_n 0, 1), (93, .getfield 282, 3), (96, .lastore, 1), (97, .aload_n 0, 1), (98, .dup, 1), (99, .getfield 306, 3), (102, .iconst 1, 1), (103, .iadd, 1), (104, .putfield 306, 3), (107, .aload_n 0, 1), (108, .invokevirtual 297, 3), (111, .aload_n 0, 1), (112, .bipush 61, 2), (114, .invokevirtual 313, 3), (117, .aload_n 0, 1), (118, .invokevirtual 316, 3), (121, .aload_n 0, 1), (122, .invokevirtual 293, 3), (125, .ifCond .eq 23, 3), (128, .aload_n 0, 1), (129, .getfield 271, 3), (132, .bipush 124, 2), (134, .if_icmp .ne 14, 3), (137, .aload_n 0, 1), (138, .invokevirtual 297, 3), (141, .aload_n 0, 1), (142, .invokevirtual 316, 3), (145, .goto (-24), 3), (148, .return_, 1)], 0, 13)
/-- EquationProofsModel.constructor()V -/
def mt_171 : am_M := (⟨"EquationProofsModel", "constructor", "()V"⟩, prog_15_method_20_code, 3, none, ([(271, 13, 31), (13, 13, 4), (319, 13, 3), (282, 13, 33), (16, 13, 5), (306, 13, 1), (20, 13, 6), (23, 13, 7)], [(319, 13, 3)], [], [], [], [(293, 162), (278, 163), (309, 171), (297, 169), (322, 176)]), [(0, .aload_n 0, 1), (1, .invokevirtual 293, 3), (4, .ifCond .eq 16, 3), (7, .aload_n 0, 1), (8, .getfield 271, 3), (11, .iconst 2, 1), (12, .if_icmp .eq 8, 3), (15, .aload_n 0, 1), (16, .iconst 2, 1), (17, .invokevirtual 278, 3), (20, .aload_n 0, 1), (21, .invokevirtual 293, 3), (24, .ifCond .eq 27, 3), (27, .aload_n 0, 1), (28, .getfield 13, 3), (31, .aload_n 0, 1), (32, .getfield 319, 3), (35, .aload_n 0, 1), (36, .getfield 282, 3), (39, .invokestatic 309, 3), (42, .iconst (-1), 1), (43, .if_icmp .eq 8, 3), (46, .aload_n 0, 1), (47, .iconst 3, 1), (48, .invokevirtual 278, 3), (51, .aload_n 0, 1), (52, .invokevirtual 293, 3), (55, .ifCond .eq 17, 3), (58, .aload_n 0, 1), (59, .getfield 319, 3), (62, .bipush 16, 2), (64, .if_icmp .ne 8, 3), (67, .aload_n 0, 1), (68, .iconst 5, 1), (69, .invokevirtual 278, 3), (72, .aload_n 0, 1), (73, .invokevirtual 293, 3), (76, .ifCond .ne 4, 3), (79, .return_, 1), (80, .aload_n 0, 1), (81, .getfield 319, 3), (84, .istore_n 1, 1), (85, .aload_n 0, 1), (86, .getfield 13, 3), (89, .iload_n 1, 1), (90, .aload_n 0, 1), (91, .getfield 282, 3), (94, .lastore, 1), (95, .aload_n 0, 1), (96, .getfield 16, 3), (99, .iload_n 1, 1), (100, .aload_n 0, 1), (101, .getfield 306, 3), (104, .iconst 1, 1), (105, .isub, 1), (106, .iastore, 1), (107, .aload_n 0, 1), (108, .getfield 20, 3), (111, .iload_n 1, 1), (112, .iconst 0, 1), (113, .iastore, 1), (114, .aload_n 0, 1), (115, .dup, 1), (116, .getfield 319, 3), (119, .iconst 1, 1), (120, .iadd, 1), (121, .putfield 319, 3), (124, .aload_n 0, 1), (125, .invokevirtual 297, 3), (128, .aload_n 0, 1), (129, .invokevirtual 293, 3), (132, .ifCond .eq 78, 3), (135, .aload_n 0, 1), (136, .getfield 271, 3), (139, .iconst 2, 1), (140, .if_icmp .ne 70, 3), (143, .aload_n 0, 1), (144, .invokevirtual 322, 3), (147, .istore_n 2, 1), (148, .aload_n 0, 1), (149, .invokevirtual 293, 3), (152, .ifCond .eq 18, 3), (155, .aload_n 0, 1), (156, .getfield 20, 3), (159, .iload_n 1, 1), (160, .iaload, 1), (161, .iconst 3, 1), (162, .if_icmp .ne 8, 3), (165, .aload_n 0, 1), (166, .iconst 5, 1), (167, .invokevirtual 278, 3), (170, .aload_n 0, 1), (171, .invokevirtual 293, 3), (174, .ifCond .eq 33, 3), (177, .aload_n 0, 1), (178, .getfield 23, 3), (181, .iconst 3, 1), (182, .iload_n 1, 1), (183, .imul, 1), (184, .aload_n 0, 1), (185, .getfield 20, 3), (188, .iload_n 1, 1), (189, .iaload, 1), (190, .iadd, 1), (191, .iload_n 2, 1), (192, .iastore, 1), (193, .aload_n 0, 1), (194, .getfield 20, 3), (197, .iload_n 1, 1), (198, .dup2, 1), (199, .iaload, 1), (200, .iconst 1, 1), (201, .iadd, 1), (202, .iastore, 1), (203, .aload_n 0, 1), (204, .invokevirtual 297, 3), (207, .goto (-79), 3), (210, .return_, 1)], 0, 13)
/-- EquationProofsModel.type()I -/
def mt_172 : am_M := (⟨"EquationProofsModel", "type", "()I"⟩, prog_15_method_21_code, 2, (some .int), ([(271, 13, 31), (7, 13, 2), (306, 13, 1), (282, 13, 33)], [], [], [], [], [(293, 162), (278, 163), (309, 171)]), [(0, .aload_n 0, 1), (1, .invokevirtual 293, 3), (4, .ifCond .eq 16, 3), (7, .aload_n 0, 1), (8, .getfield 271, 3), (11, .iconst 2, 1), (12, .if_icmp .eq 8, 3), (15, .aload_n 0, 1), (16, .iconst 2, 1), (17, .invokevirtual 278, 3), (20, .aload_n 0, 1), (21, .invokevirtual 293, 3), (24, .ifCond .eq 21, 3), (27, .aload_n 0, 1), (28, .getfield 7, 3), (31, .aload_n 0, 1), (32, .getfield 306, 3), (35, .aload_n 0, 1), (36, .getfield 282, 3), (39, .invokestatic 309, 3), (42, .goto 4, 3), (45, .iconst (-1), 1), (46, .istore_n 1, 1), (47, .aload_n 0, 1), (48, .invokevirtual 293, 3), (51, .ifCond .eq 13, 3), (54, .iload_n 1, 1), (55, .iconst (-1), 1), (56, .if_icmp .ne 8, 3), (59, .aload_n 0, 1), (60, .iconst 3, 1), (61, .invokevirtual 278, 3), (64, .iload_n 1, 1), (65, .ireturn, 1)], 0, 13)
/-- EquationProofsModel.function()V -/
def mt_173 : am_M := (⟨"EquationProofsModel", "function", "()V"⟩, prog_15_method_22_code, 3, none, ([(271, 13, 31), (26, 13, 9), (325, 13, 8), (282, 13, 33), (29, 13, 10), (32, 13, 11), (35, 13, 12)], [(325, 13, 8)], [], [], [], [(297, 169), (293, 162), (278, 163), (309, 171), (313, 170), (322, 176)]), [(0, .aload_n 0, 1), (1, .invokevirtual 297, 3), (4, .aload_n 0, 1), (5, .invokevirtual 293, 3), (8, .ifCond .eq 16, 3), (11, .aload_n 0, 1), (12, .getfield 271, 3), (15, .iconst 1, 1), (16, .if_icmp .eq 8, 3), (19, .aload_n 0, 1), (20, .iconst 2, 1), (21, .invokevirtual 278, 3), (24, .aload_n 0, 1), (25, .invokevirtual 293, 3), (28, .ifCond .eq 27, 3), (31, .aload_n 0, 1), (32, .getfield 26, 3), (35, .aload_n 0, 1), (36, .getfield 325, 3), (39, .aload_n 0, 1), (40, .getfield 282, 3), (43, .invokestatic 309, 3), (46, .iconst (-1), 1), (47, .if_icmp .eq 8, 3), (50, .aload_n 0, 1), (51, .iconst 3, 1), (52, .invokevirtual 278, 3), (55, .aload_n 0, 1), (56, .invokevirtual 293, 3), (59, .ifCond .eq 17, 3), (62, .aload_n 0, 1), (63, .getfield 325, 3), (66, .bipush 16, 2), (68, .if_icmp .ne 8, 3), (71, .aload_n 0, 1), (72, .iconst 5, 1), (73, .invokevirtual 278, 3), (76, .aload_n 0, 1), (77, .invokevirtual 293, 3), (80, .ifCond .ne 4, 3), (83, .return_, 1), (84, .aload_n 0, 1), (85, .getfield 325, 3), (88, .istore_n 1, 1), (89, .aload_n 0, 1), (90, .getfield 26, 3), (93, .iload_n 1, 1), (94, .aload_n 0, 1), (95, .getfield 282, 3), (98, .lastore, 1), (99, .aload_n 0, 1), (100, .getfield 29, 3), (103, .iload_n 1, 1), (104, .iconst 0, 1), (105, .iastore, 1), (106, .aload_n 0, 1), (107, .dup, 1), (108, .getfield 325, 3), (111, .iconst 1, 1), (112, .iadd, 1), (113, .putfield 325, 3), (116, .aload_n 0, 1), (117, .invokevirtual 297, 3), (120, .aload_n 0, 1), (121, .bipush 58, 2), (123, .invokevirtual 313, 3), (126, .aload_n 0, 1), (127, .invokevirtual 322, 3), (130, .istore_n 2, 1), (131, .aload_n 0, 1), (132, .invokevirtual 293, 3), (135, .ifCond .eq 7, 3), (138, .aload_n 0, 1), (139, .invokevirtual 297, 3), (142, .aload_n 0, 1), (143, .invokevirtual 293, 3), (146, .ifCond .eq 77, 3), (149, .aload_n 0, 1), (150, .getfield 271, 3), (153, .bipush 62, 2), (155, .if_icmp .ne 68, 3), (158, .aload_n 0, 1), (159, .getfield 29, 3), (162, .iload_n 1, 1), (163, .iaload, 1), (164, .iconst 4, 1), (165, .if_icmp .ne 9, 3), (168, .aload_n 0, 1), (169, .iconst 5, 1), (170, .invokevirtual 278, 3), (173, .return_, 1), (174, .aload_n 0, 1), (175, .getfield 32, 3), (178, .iconst 4, 1), (179, .iload_n 1, 1), (180, .imul, 1), (181, .aload_n 0, 1), (182, .getfield 29, 3), (185, .iload_n 1, 1), (186, .iaload, 1), (187, .iadd, 1), (188, .iload_n 2, 1), (189, .iastore, 1), (190, .aload_n 0, 1), (191, .getfield 29, 3), (194, .iload_n 1, 1), (195, .dup2, 1), (196, .iaload, 1), (197, .iconst 1, 1), (198, .iadd, 1), (199, .iastore, 1), (200, .aload_n 0, 1), (201, .invokevirtual 297, 3), (204, .aload_n 0, 1), (205, .invokevirtual 322, 3), (208, .istore_n 2, 1), (209, .aload_n 0, 1), (210, .invokevirtual 293, 3), (213, .ifCond .eq (-71), 3), (216, .aload_n 0, 1), (217, .invokevirtual 297, 3), (220, .goto (-78), 3), (223, .aload_n 0, 1), (224, .getfield 35, 3), (227, .iload_n 1, 1), (228, .iload_n 2, 1), (229, .iastore, 1), (230, .return_, 1)], 0, 13)
/-- EquationProofsModel.wanted()I -/
def mt_174 : am_M := (⟨"EquationProofsModel", "wanted", "()I"⟩, prog_15_method_23_code, 3, (some .int), ([(87, 13, 45), (328, 13, 47), (90, 13, 46)], [], [], [], [], [(244, 158), (331, 179)]), [(0, .aload_n 0, 1), (1, .getfield 87, 3), (4, .aload_n 0, 1), (5, .getfield 328, 3), (8, .iconst 1, 1), (9, .isub, 1), (10, .iaload, 1), (11, .istore_n 1, 1), (12, .aload_n 0, 1), (13, .getfield 90, 3), (16, .aload_n 0, 1), (17, .getfield 328, 3), (20, .iconst 1, 1), (21, .isub, 1), (22, .iaload, 1), (23, .istore_n 2, 1), (24, .iload_n 2, 1), (25, .aload_n 0, 1), (26, .iload_n 1, 1), (27, .invokevirtual 244, 3), (30, .if_icmp .lt 5, 3), (33, .iconst (-1), 1), (34, .ireturn, 1), (35, .aload_n 0, 1), (36, .iload_n 1, 1), (37, .iload_n 2, 1), (38, .invokevirtual 331, 3), (41, .ireturn, 1)], 0, 13)
/-- EquationProofsModel.argType(II)I -/
def mt_175 : am_M := (⟨"EquationProofsModel", "argType", "(II)I"⟩, prog_15_method_24_code, 3, (some .int), ([(32, 13, 11), (23, 13, 7)], [], [], [], [], []), [(0, .iload_n 1, 1), (1, .bipush 100, 2), (3, .if_icmp .lt 19, 3), (6, .aload_n 0, 1), (7, .getfield 32, 3), (10, .iconst 4, 1), (11, .iload_n 1, 1), (12, .bipush 100, 2), (14, .isub, 1), (15, .imul, 1), (16, .iload_n 2, 1), (17, .iadd, 1), (18, .iaload, 1), (19, .goto 15, 3), (22, .aload_n 0, 1), (23, .getfield 23, 3), (26, .iconst 3, 1), (27, .iload_n 1, 1), (28, .iconst 1, 1), (29, .isub, 1), (30, .imul, 1), (31, .iload_n 2, 1), (32, .iadd, 1), (33, .iaload, 1), (34, .ireturn, 1)], 2, 13)
/-- EquationProofsModel.deeper()V -/
def mt_176 : am_M := (⟨"EquationProofsModel", "deeper", "()V"⟩, prog_15_method_25_code, 1, none, ([(335, 13, 41)], [(335, 13, 41)], [], [], [], [(293, 162), (278, 163)]), [(0, .aload_n 0, 1), (1, .invokevirtual 293, 3), (4, .ifCond .eq 17, 3), (7, .aload_n 0, 1), (8, .getfield 335, 3), (11, .bipush 10, 2), (13, .if_icmp .ne 8, 3), (16, .aload_n 0, 1), (17, .iconst 5, 1), (18, .invokevirtual 278, 3), (21, .aload_n 0, 1), (22, .dup, 1), (23, .getfield 335, 3), (26, .iconst 1, 1), (27, .iadd, 1), (28, .putfield 335, 3), (31, .return_, 1)], 0, 13)
/-- EquationProofsModel.addVariable(I)I -/
def mt_177 : am_M := (⟨"EquationProofsModel", "addVariable", "(I)I"⟩, prog_15_method_26_code, 2, (some .int), ([(78, 13, 37), (338, 13, 39), (282, 13, 33), (81, 13, 38)], [(338, 13, 39)], [], [], [], []), [(0, .aload_n 0, 1), (1, .getfield 78, 3), (4, .aload_n 0, 1), (5, .getfield 338, 3), (8, .aload_n 0, 1), (9, .getfield 282, 3), (12, .lastore, 1), (13, .aload_n 0, 1), (14, .getfield 81, 3), (17, .aload_n 0, 1), (18, .getfield 338, 3), (21, .iload_n 1, 1), (22, .iastore, 1), (23, .aload_n 0, 1), (24, .dup, 1), (25, .getfield 338, 3), (28, .iconst 1, 1), (29, .iadd, 1), (30, .putfield 338, 3), (33, .aload_n 0, 1), (34, .getfield 338, 3), (37, .iconst 1, 1), (38, .isub, 1), (39, .ireturn, 1)], 1, 13)
/-- EquationProofsModel.patterns(I)V -/
def mt_178 : am_M := (⟨"EquationProofsModel", "patterns", "(I)V"⟩, prog_15_method_27_code, 3, none, ([(87, 13, 45), (90, 13, 46), (328, 13, 47), (335, 13, 41), (271, 13, 31), (26, 13, 9), (325, 13, 8), (282, 13, 33), (78, 13, 37), (338, 13, 39)], [(328, 13, 47), (335, 13, 41)], [], [], [], [(293, 162), (341, 178), (313, 170), (309, 171), (278, 163), (344, 172), (347, 181), (350, 173), (297, 169), (353, 183), (357, 180)]), [(0, .aload_n 0, 1), (1, .iconst 1, 1), (2, .putfield 328, 3), (5, .aload_n 0, 1), (6, .getfield 87, 3), (9, .iconst 0, 1), (10, .bipush 100, 2), (12, .iload_n 1, 1), (13, .iadd, 1), (14, .iastore, 1), (15, .aload_n 0, 1), (16, .getfield 90, 3), (19, .iconst 0, 1), (20, .iconst 0, 1), (21, .iastore, 1), (22, .aload_n 0, 1), (23, .invokevirtual 293, 3), (26, .ifCond .eq 241, 3), (29, .aload_n 0, 1), (30, .getfield 328, 3), (33, .iconst 1, 1), (34, .if_icmp .gt 11, 3), (37, .aload_n 0, 1), (38, .invokevirtual 341, 3), (41, .iconst (-1), 1), (42, .if_icmp .eq 225, 3), (45, .aload_n 0, 1), (46, .invokevirtual 341, 3), (49, .istore_n 2, 1), (50, .iload_n 2, 1), (51, .iconst (-1), 1), (52, .if_icmp .ne 32, 3), (55, .aload_n 0, 1), (56, .bipush 41, 2), (58, .invokevirtual 313, 3), (61, .aload_n 0, 1), (62, .dup, 1), (63, .getfield 335, 3), (66, .iconst 1, 1), (67, .isub, 1), (68, .putfield 335, 3), (71, .aload_n 0, 1), (72, .dup, 1), (73, .getfield 328, 3), (76, .iconst 1, 1), (77, .isub, 1), (78, .putfield 328, 3), (81, .goto 183, 3), (84, .aload_n 0, 1), (85, .getfield 271, 3), (88, .iconst 1, 1), (89, .if_icmp .ne 100, 3), (92, .aload_n 0, 1), (93, .getfield 26, 3), (96, .aload_n 0, 1), (97, .getfield 325, 3), (100, .aload_n 0, 1), (101, .getfield 282, 3), (104, .invokestatic 309, 3), (107, .iconst (-1), 1), (108, .if_icmp .eq 11, 3), (111, .aload_n 0, 1), (112, .iconst 2, 1), (113, .invokevirtual 278, 3), (116, .goto 27, 3), (119, .aload_n 0, 1), (120, .getfield 78, 3), (123, .aload_n 0, 1), (124, .getfield 338, 3), (127, .aload_n 0, 1), (128, .getfield 282, 3), (131, .invokestatic 309, 3), (134, .iconst (-1), 1), (135, .if_icmp .eq 8, 3), (138, .aload_n 0, 1), (139, .iconst 3, 1), (140, .invokevirtual 278, 3), (143, .aload_n 0, 1), (144, .invokevirtual 344, 3), (147, .aload_n 0, 1), (148, .invokevirtual 293, 3), (151, .ifCond .eq 113, 3), (154, .aload_n 0, 1), (155, .sipush 1000, 3), (158, .aload_n 0, 1), (159, .iload_n 2, 1), (160, .invokevirtual 347, 3), (163, .iadd, 1), (164, .invokevirtual 350, 3), (167, .aload_n 0, 1), (168, .getfield 90, 3), (171, .aload_n 0, 1), (172, .getfield 328, 3), (175, .iconst 1, 1), (176, .isub, 1), (177, .dup2, 1), (178, .iaload, 1), (179, .iconst 1, 1), (180, .iadd, 1), (181, .iastore, 1), (182, .aload_n 0, 1), (183, .invokevirtual 297, 3), (186, .goto 78, 3), (189, .aload_n 0, 1), (190, .getfield 271, 3), (193, .iconst 2, 1), (194, .if_icmp .ne 12, 3), (197, .aload_n 0, 1), (198, .iload_n 2, 1), (199, .iconst 0, 1), (200, .invokevirtual 353, 3), (203, .goto 61, 3), (206, .aload_n 0, 1), (207, .getfield 271, 3), (210, .bipush 40, 2), (212, .if_icmp .ne 47, 3), (215, .aload_n 0, 1), (216, .invokevirtual 357, 3), (219, .aload_n 0, 1), (220, .invokevirtual 293, 3), (223, .ifCond .eq 7, 3), (226, .aload_n 0, 1), (227, .invokevirtual 297, 3), (230, .aload_n 0, 1), (231, .invokevirtual 293, 3), (234, .ifCond .eq 16, 3), (237, .aload_n 0, 1), (238, .getfield 271, 3), (241, .iconst 2, 1), (242, .if_icmp .eq 8, 3), (245, .aload_n 0, 1), (246, .iconst 2, 1), (247, .invokevirtual 278, 3), (250, .aload_n 0, 1), (251, .iload_n 2, 1), (252, .iconst 1, 1), (253, .invokevirtual 353, 3), (256, .goto 8, 3), (259, .aload_n 0, 1), (260, .iconst 2, 1), (261, .invokevirtual 278, 3), (264, .goto (-242), 3), (267, .return_, 1)], 1, 13)
/-- EquationProofsModel.patternCon(IZ)V -/
def mt_179 : am_M := (⟨"EquationProofsModel", "patternCon", "(IZ)V"⟩, prog_15_method_28_code, 4, none, ([(13, 13, 4), (319, 13, 3), (282, 13, 33), (20, 13, 6), (16, 13, 5), (90, 13, 46), (328, 13, 47), (87, 13, 45)], [(328, 13, 47)], [], [], [], [(293, 162), (309, 171), (278, 163), (344, 172), (350, 173), (297, 169)]), [(0, .aload_n 0, 1), (1, .invokevirtual 293, 3), (4, .ifCond .eq 21, 3), (7, .aload_n 0, 1), (8, .getfield 13, 3), (11, .aload_n 0, 1), (12, .getfield 319, 3), (15, .aload_n 0, 1), (16, .getfield 282, 3), (19, .invokestatic 309, 3), (22, .goto 4, 3), (25, .iconst (-1), 1), (26, .istore_n 3, 1), (27, .aload_n 0, 1), (28, .invokevirtual 293, 3), (31, .ifCond .eq 13, 3), (34, .iload_n 3, 1), (35, .iconst (-1), 1), (36, .if_icmp .ne 8, 3), (39, .aload_n 0, 1), (40, .iconst 3, 1), (41, .invokevirtual 278, 3), (44, .aload_n 0, 1), (45, .invokevirtual 293, 3), (48, .ifCond .eq 21, 3), (51, .iload_n 2, 1), (52, .ifCond .ne 17, 3), (55, .aload_n 0, 1), (56, .getfield 20, 3), (59, .iload_n 3, 1), (60, .iaload, 1), (61, .ifCond .le 8, 3), (64, .aload_n 0, 1), (65, .iconst 2, 1), (66, .invokevirtual 278, 3), (69, .aload_n 0, 1), (70, .invokevirtual 293, 3), (73, .ifCond .eq 18, 3), (76, .aload_n 0, 1), (77, .getfield 16, 3), (80, .iload_n 3, 1), (81, .iaload, 1), (82, .iload_n 1, 1), (83, .if_icmp .eq 8, 3), (86, .aload_n 0, 1), (87, .iconst 4, 1), (88, .invokevirtual 278, 3), (91, .aload_n 0, 1), (92, .invokevirtual 344, 3), (95, .aload_n 0, 1), (96, .invokevirtual 293, 3), (99, .ifCond .ne 4, 3), (102, .return_, 1), (103, .aload_n 0, 1), (104, .iconst 1, 1), (105, .iload_n 3, 1), (106, .iadd, 1), (107, .invokevirtual 350, 3), (110, .aload_n 0, 1), (111, .getfield 90, 3), (114, .aload_n 0, 1), (115, .getfield 328, 3), (118, .iconst 1, 1), (119, .isub, 1), (120, .dup2, 1), (121, .iaload, 1), (122, .iconst 1, 1), (123, .iadd, 1), (124, .iastore, 1), (125, .iload_n 2, 1), (126, .ifCond .eq 35, 3), (129, .aload_n 0, 1), (130, .getfield 87, 3), (133, .aload_n 0, 1), (134, .getfield 328, 3), (137, .iconst 1, 1), (138, .iload_n 3, 1), (139, .iadd, 1), (140, .iastore, 1), (141, .aload_n 0, 1), (142, .getfield 90, 3), (145, .aload_n 0, 1), (146, .getfield 328, 3), (149, .iconst 0, 1), (150, .iastore, 1), (151, .aload_n 0, 1), (152, .dup, 1), (153, .getfield 328, 3), (156, .iconst 1, 1), (157, .iadd, 1), (158, .putfield 328, 3), (161, .aload_n 0, 1), (162, .invokevirtual 297, 3), (165, .return_, 1)], 2, 13)
/-- EquationProofsModel.term(I)I -/
def mt_180 : am_M := (⟨"EquationProofsModel", "term", "(I)I"⟩, prog_15_method_29_code, 8, (some .int), ([(335, 13, 41), (328, 13, 47), (87, 13, 45), (90, 13, 46), (93, 13, 48)], [(328, 13, 47), (335, 13, 41)], [], [], [], [(293, 162), (360, 186), (313, 170), (244, 158), (331, 179)]), [(0, .iconst (-1), 1), (1, .istore_n 2, 1), (2, .aload_n 0, 1), (3, .iconst 0, 1), (4, .putfield 328, 3), (7, .iconst 1, 1), (8, .istore_n 3, 1), (9, .iload_n 1, 1), (10, .istore 4, 2), (12, .iconst 1, 1), (13, .istore 5, 2), (15, .aload_n 0, 1), (16, .getfield 335, 3), (19, .istore 6, 2), (21, .aload_n 0, 1), (22, .invokevirtual 293, 3), (25, .ifCond .eq 227, 3), (28, .iload_n 3, 1), (29, .ifCond .eq 25, 3), (32, .aload_n 0, 1), (33, .iload 4, 2), (35, .iload 5, 2), (37, .invokevirtual 360, 3), (40, .istore 7, 2), (42, .iload_n 2, 1), (43, .iconst (-1), 1), (44, .if_icmp .ne 8, 3), (47, .iload 7, 2), (49, .goto 4, 3), (52, .iload_n 2, 1), (53, .istore_n 2, 1), (54, .iconst 0, 1), (55, .istore_n 3, 1), (56, .aload_n 0, 1), (57, .invokevirtual 293, 3), (60, .ifCond .eq 186, 3), (63, .iload_n 3, 1), (64, .ifCond .ne 182, 3), (67, .aload_n 0, 1), (68, .getfield 328, 3), (71, .ifCond .le 175, 3), (74, .aload_n 0, 1), (75, .getfield 87, 3), (78, .aload_n 0, 1), (79, .getfield 328, 3), (82, .iconst 1, 1), (83, .isub, 1), (84, .iaload, 1), (85, .istore 7, 2), (87, .iload 7, 2), (89, .sipush 5000, 3), (92, .if_icmp .ne 79, 3), (95, .aload_n 0, 1), (96, .getfield 90, 3), (99, .aload_n 0, 1), (100, .getfield 328, 3), (103, .iconst 1, 1), (104, .isub, 1), (105, .iaload, 1), (106, .ifCond .ne 36, 3), (109, .aload_n 0, 1), (110, .getfield 90, 3), (113, .aload_n 0, 1), (114, .getfield 328, 3), (117, .iconst 1, 1), (118, .isub, 1), (119, .iconst 1, 1), (120, .iastore, 1), (121, .iconst 1, 1), (122, .istore_n 3, 1), (123, .iconst 1, 1), (124, .istore 5, 2), (126, .aload_n 0, 1), (127, .getfield 93, 3), (130, .aload_n 0, 1), (131, .getfield 328, 3), (134, .iconst 1, 1), (135, .isub, 1), (136, .iaload, 1), (137, .istore 4, 2), (139, .goto 104, 3), (142, .aload_n 0, 1), (143, .bipush 41, 2), (145, .invokevirtual 313, 3), (148, .aload_n 0, 1), (149, .dup, 1), (150, .getfield 335, 3), (153, .iconst 1, 1), (154, .isub, 1), (155, .putfield 335, 3), (158, .aload_n 0, 1), (159, .dup, 1), (160, .getfield 328, 3), (163, .iconst 1, 1), (164, .isub, 1), (165, .putfield 328, 3), (168, .goto 75, 3), (171, .aload_n 0, 1), (172, .getfield 90, 3), (175, .aload_n 0, 1), (176, .getfield 328, 3), (179, .iconst 1, 1), (180, .isub, 1), (181, .iaload, 1), (182, .aload_n 0, 1), (183, .iload 7, 2), (185, .invokevirtual 244, 3), (188, .if_icmp .ge 45, 3), (191, .aload_n 0, 1), (192, .iload 7, 2), (194, .aload_n 0, 1), (195, .getfield 90, 3), (198, .aload_n 0, 1), (199, .getfield 328, 3), (202, .iconst 1, 1), (203, .isub, 1), (204, .iaload, 1), (205, .invokevirtual 331, 3), (208, .istore 4, 2), (210, .aload_n 0, 1), (211, .getfield 90, 3), (214, .aload_n 0, 1), (215, .getfield 328, 3), (218, .iconst 1, 1), (219, .isub, 1), (220, .dup2, 1), (221, .iaload, 1), (222, .iconst 1, 1), (223, .iadd, 1), (224, .iastore, 1), (225, .iconst 1, 1), (226, .istore_n 3, 1), (227, .iconst 0, 1), (228, .istore 5, 2), (230, .goto 13, 3), (233, .aload_n 0, 1), (234, .dup, 1), (235, .getfield 328, 3), (238, .iconst 1, 1), (239, .isub, 1), (240, .putfield 328, 3), (243, .goto (-187), 3), (246, .iload_n 3, 1), (247, .ifCond .ne (-226), 3), (250, .iload_n 2, 1), (251, .ireturn, 1), (252, .aload_n 0, 1), (253, .iload 6, 2), (255, .putfield 335, 3), (258, .iload_n 2, 1), (259, .ireturn, 1)], 1, 13)
/-- EquationProofsModel.enter(II)V -/
def mt_181 : am_M := (⟨"EquationProofsModel", "enter", "(II)V"⟩, prog_15_method_30_code, 3, none, ([(87, 13, 45), (328, 13, 47), (90, 13, 46), (93, 13, 48)], [(328, 13, 47)], [], [], [], []), [(0, .aload_n 0, 1), (1, .getfield 87, 3), (4, .aload_n 0, 1), (5, .getfield 328, 3), (8, .iload_n 1, 1), (9, .iastore, 1), (10, .aload_n 0, 1), (11, .getfield 90, 3), (14, .aload_n 0, 1), (15, .getfield 328, 3), (18, .iconst 0, 1), (19, .iastore, 1), (20, .aload_n 0, 1), (21, .getfield 93, 3), (24, .aload_n 0, 1), (25, .getfield 328, 3), (28, .iload_n 2, 1), (29, .iastore, 1), (30, .aload_n 0, 1), (31, .dup, 1), (32, .getfield 328, 3), (35, .iconst 1, 1), (36, .iadd, 1), (37, .putfield 328, 3), (40, .return_, 1)], 2, 13)
/-- EquationProofsModel.head(IZ)I -/
def mt_182 : am_M := (⟨"EquationProofsModel", "head", "(IZ)I"⟩, prog_15_method_31_code, 3, (some .int), ([(271, 13, 31), (367, 13, 44)], [], [], [], [], [(357, 180), (293, 162), (364, 185), (297, 169), (278, 163), (344, 172), (350, 173), (370, 187), (373, 188)]), [(0, .aload_n 0, 1), (1, .getfield 271, 3), (4, .bipush 40, 2), (6, .if_icmp .ne 28, 3), (9, .aload_n 0, 1), (10, .invokevirtual 357, 3), (13, .aload_n 0, 1), (14, .invokevirtual 293, 3), (17, .ifCond .eq 15, 3), (20, .aload_n 0, 1), (21, .sipush 5000, 3), (24, .iload_n 1, 1), (25, .invokevirtual 364, 3), (28, .aload_n 0, 1), (29, .invokevirtual 297, 3), (32, .iload_n 1, 1), (33, .ireturn, 1), (34, .aload_n 0, 1), (35, .getfield 271, 3), (38, .bipush 95, 2), (40, .if_icmp .ne 43, 3), (43, .aload_n 0, 1), (44, .getfield 367, 3), (47, .iconst 2, 1), (48, .if_icmp .ne 13, 3), (51, .iload_n 1, 1), (52, .iconst (-1), 1), (53, .if_icmp .ne 8, 3), (56, .aload_n 0, 1), (57, .iconst 2, 1), (58, .invokevirtual 278, 3), (61, .aload_n 0, 1), (62, .invokevirtual 344, 3), (65, .aload_n 0, 1), (66, .iconst 0, 1), (67, .invokevirtual 350, 3), (70, .aload_n 0, 1), (71, .invokevirtual 293, 3), (74, .ifCond .eq 7, 3), (77, .aload_n 0, 1), (78, .invokevirtual 297, 3), (81, .iload_n 1, 1), (82, .ireturn, 1), (83, .aload_n 0, 1), (84, .getfield 271, 3), (87, .iconst 1, 1), (88, .if_icmp .eq 18, 3), (91, .aload_n 0, 1), (92, .getfield 271, 3), (95, .iconst 2, 1), (96, .if_icmp .eq 10, 3), (99, .aload_n 0, 1), (100, .iconst 2, 1), (101, .invokevirtual 278, 3), (104, .iconst (-1), 1), (105, .ireturn, 1), (106, .aload_n 0, 1), (107, .getfield 271, 3), (110, .iconst 2, 1), (111, .if_icmp .ne 12, 3), (114, .aload_n 0, 1), (115, .iload_n 1, 1), (116, .iload_n 2, 1), (117, .invokevirtual 370, 3), (120, .goto 9, 3), (123, .aload_n 0, 1), (124, .iload_n 1, 1), (125, .iload_n 2, 1), (126, .invokevirtual 373, 3), (129, .ireturn, 1)], 2, 13)
/-- EquationProofsModel.great(IZ)I -/
def mt_183 : am_M := (⟨"EquationProofsModel", "great", "(IZ)I"⟩, prog_15_method_32_code, 4, (some .int), ([(13, 13, 4), (319, 13, 3), (282, 13, 33), (20, 13, 6), (16, 13, 5)], [], [], [], [], [(309, 171), (278, 163), (293, 162), (344, 172), (350, 173), (364, 185), (297, 169)]), [(0, .aload_n 0, 1), (1, .getfield 13, 3), (4, .aload_n 0, 1), (5, .getfield 319, 3), (8, .aload_n 0, 1), (9, .getfield 282, 3), (12, .invokestatic 309, 3), (15, .istore_n 3, 1), (16, .iload_n 3, 1), (17, .iconst (-1), 1), (18, .if_icmp .ne 10, 3), (21, .aload_n 0, 1), (22, .iconst 3, 1), (23, .invokevirtual 278, 3), (26, .iconst (-1), 1), (27, .ireturn, 1), (28, .iload_n 2, 1), (29, .ifCond .ne 17, 3), (32, .aload_n 0, 1), (33, .getfield 20, 3), (36, .iload_n 3, 1), (37, .iaload, 1), (38, .ifCond .le 8, 3), (41, .aload_n 0, 1), (42, .iconst 2, 1), (43, .invokevirtual 278, 3), (46, .aload_n 0, 1), (47, .invokevirtual 293, 3), (50, .ifCond .eq 23, 3), (53, .iload_n 1, 1), (54, .iconst (-1), 1), (55, .if_icmp .eq 18, 3), (58, .aload_n 0, 1), (59, .getfield 16, 3), (62, .iload_n 3, 1), (63, .iaload, 1), (64, .iload_n 1, 1), (65, .if_icmp .eq 8, 3), (68, .aload_n 0, 1), (69, .iconst 4, 1), (70, .invokevirtual 278, 3), (73, .aload_n 0, 1), (74, .invokevirtual 344, 3), (77, .aload_n 0, 1), (78, .iconst 1, 1), (79, .iload_n 3, 1), (80, .iadd, 1), (81, .invokevirtual 350, 3), (84, .aload_n 0, 1), (85, .invokevirtual 293, 3), (88, .ifCond .eq 15, 3), (91, .aload_n 0, 1), (92, .iconst 1, 1), (93, .iload_n 3, 1), (94, .iadd, 1), (95, .iconst (-1), 1), (96, .invokevirtual 364, 3), (99, .aload_n 0, 1), (100, .invokevirtual 297, 3), (103, .aload_n 0, 1), (104, .getfield 16, 3), (107, .iload_n 3, 1), (108, .iaload, 1), (109, .ireturn, 1)], 2, 13)
/-- EquationProofsModel.small(IZ)I -/
def mt_184 : am_M := (⟨"EquationProofsModel", "small", "(IZ)I"⟩, prog_15_method_33_code, 5, (some .int), ([(26, 13, 9), (325, 13, 8), (282, 13, 33), (29, 13, 10), (35, 13, 12), (78, 13, 37), (338, 13, 39), (367, 13, 44), (81, 13, 38)], [], [], [], [], [(309, 171), (278, 163), (293, 162), (344, 172), (350, 173), (364, 185), (297, 169), (347, 181)]), [(0, .aload_n 0, 1), (1, .getfield 26, 3), (4, .aload_n 0, 1), (5, .getfield 325, 3), (8, .aload_n 0, 1), (9, .getfield 282, 3), (12, .invokestatic 309, 3), (15, .istore_n 3, 1), (16, .iload_n 3, 1), (17, .iconst (-1), 1), (18, .if_icmp .eq 87, 3), (21, .iload_n 2, 1), (22, .ifCond .ne 17, 3), (25, .aload_n 0, 1), (26, .getfield 29, 3), (29, .iload_n 3, 1), (30, .iaload, 1), (31, .ifCond .le 8, 3), (34, .aload_n 0, 1), (35, .iconst 2, 1), (36, .invokevirtual 278, 3), (39, .aload_n 0, 1), (40, .invokevirtual 293, 3), (43, .ifCond .eq 23, 3), (46, .iload_n 1, 1), (47, .iconst (-1), 1), (48, .if_icmp .eq 18, 3), (51, .aload_n 0, 1), (52, .getfield 35, 3), (55, .iload_n 3, 1), (56, .iaload, 1), (57, .iload_n 1, 1), (58, .if_icmp .eq 8, 3), (61, .aload_n 0, 1), (62, .iconst 4, 1), (63, .invokevirtual 278, 3), (66, .aload_n 0, 1), (67, .invokevirtual 344, 3), (70, .aload_n 0, 1), (71, .bipush 100, 2), (73, .iload_n 3, 1), (74, .iadd, 1), (75, .invokevirtual 350, 3), (78, .aload_n 0, 1), (79, .invokevirtual 293, 3), (82, .ifCond .eq 16, 3), (85, .aload_n 0, 1), (86, .bipush 100, 2), (88, .iload_n 3, 1), (89, .iadd, 1), (90, .iconst (-1), 1), (91, .invokevirtual 364, 3), (94, .aload_n 0, 1), (95, .invokevirtual 297, 3), (98, .aload_n 0, 1), (99, .getfield 35, 3), (102, .iload_n 3, 1), (103, .iaload, 1), (104, .ireturn, 1), (105, .aload_n 0, 1), (106, .getfield 78, 3), (109, .aload_n 0, 1), (110, .getfield 338, 3), (113, .aload_n 0, 1), (114, .getfield 282, 3), (117, .invokestatic 309, 3), (120, .istore 4, 2), (122, .aload_n 0, 1), (123, .getfield 367, 3), (126, .iconst 3, 1), (127, .if_icmp .eq 17, 3), (130, .aload_n 0, 1), (131, .getfield 367, 3), (134, .iconst 1, 1), (135, .if_icmp .ne 16, 3), (138, .iload 4, 2), (140, .iconst (-1), 1), (141, .if_icmp .ne 10, 3), (144, .aload_n 0, 1), (145, .iconst 3, 1), (146, .invokevirtual 278, 3), (149, .iconst (-1), 1), (150, .ireturn, 1), (151, .aload_n 0, 1), (152, .invokevirtual 293, 3), (155, .ifCond .eq 13, 3), (158, .iload_n 1, 1), (159, .iconst (-1), 1), (160, .if_icmp .ne 8, 3), (163, .aload_n 0, 1), (164, .iconst 2, 1), (165, .invokevirtual 278, 3), (168, .aload_n 0, 1), (169, .invokevirtual 293, 3), (172, .ifCond .eq 25, 3), (175, .iload 4, 2), (177, .iconst (-1), 1), (178, .if_icmp .eq 19, 3), (181, .aload_n 0, 1), (182, .getfield 81, 3), (185, .iload 4, 2), (187, .iaload, 1), (188, .iload_n 1, 1), (189, .if_icmp .eq 8, 3), (192, .aload_n 0, 1), (193, .iconst 4, 1), (194, .invokevirtual 278, 3), (197, .aload_n 0, 1), (198, .invokevirtual 293, 3), (201, .ifCond .eq 23, 3), (204, .iload 4, 2), (206, .iconst (-1), 1), (207, .if_icmp .ne 17, 3), (210, .aload_n 0, 1), (211, .getfield 338, 3), (214, .bipush 6, 2), (216, .if_icmp .ne 8, 3), (219, .aload_n 0, 1), (220, .iconst 5, 1), (221, .invokevirtual 278, 3), (224, .aload_n 0, 1), (225, .invokevirtual 344, 3), (228, .aload_n 0, 1), (229, .invokevirtual 293, 3), (232, .ifCond .ne 5, 3), (235, .iconst (-1), 1), (236, .ireturn, 1), (237, .iload 4, 2), (239, .iconst (-1), 1), (240, .if_icmp .ne 11, 3), (243, .aload_n 0, 1), (244, .iload_n 1, 1), (245, .invokevirtual 347, 3), (248, .goto 5, 3), (251, .iload 4, 2), (253, .istore 4, 2), (255, .aload_n 0, 1), (256, .sipush 1000, 3), (259, .iload 4, 2), (261, .iadd, 1), (262, .invokevirtual 350, 3), (265, .aload_n 0, 1), (266, .invokevirtual 297, 3), (269, .iload_n 1, 1), (270, .ireturn, 1)], 2, 13)
/-- EquationProofsModel.beginTerm()V -/
def mt_185 : am_M := (⟨"EquationProofsModel", "beginTerm", "()V"⟩, prog_15_method_34_code, 1, none, ([], [(338, 13, 39), (300, 13, 40), (335, 13, 41), (303, 13, 43)], [], [], [], []), [(0, .aload_n 0, 1), (1, .iconst 0, 1), (2, .putfield 338, 3), (5, .aload_n 0, 1), (6, .iconst 0, 1), (7, .putfield 300, 3), (10, .aload_n 0, 1), (11, .iconst 0, 1), (12, .putfield 335, 3), (15, .aload_n 0, 1), (16, .iconst 0, 1), (17, .putfield 303, 3), (20, .return_, 1)], 0, 13)
/-- EquationProofsModel.rule()V -/
def mt_186 : am_M := (⟨"EquationProofsModel", "rule", "()V"⟩, prog_15_method_35_code, 4, none, ([(376, 13, 13), (271, 13, 31), (26, 13, 9), (325, 13, 8), (282, 13, 33), (38, 13, 14), (44, 13, 16), (303, 13, 43), (41, 13, 15), (84, 13, 42), (35, 13, 12), (50, 13, 18), (47, 13, 17)], [(367, 13, 44), (300, 13, 40), (335, 13, 41), (303, 13, 43), (376, 13, 13)], [], [], [], [(278, 163), (297, 169), (293, 162), (309, 171), (379, 189), (344, 172), (382, 182), (313, 170), (385, 184)]), [(0, .aload_n 0, 1), (1, .getfield 376, 3), (4, .bipush 40, 2), (6, .if_icmp .ne 9, 3), (9, .aload_n 0, 1), (10, .iconst 5, 1), (11, .invokevirtual 278, 3), (14, .return_, 1), (15, .aload_n 0, 1), (16, .invokevirtual 297, 3), (19, .aload_n 0, 1), (20, .invokevirtual 293, 3), (23, .ifCond .eq 16, 3), (26, .aload_n 0, 1), (27, .getfield 271, 3), (30, .iconst 1, 1), (31, .if_icmp .eq 8, 3), (34, .aload_n 0, 1), (35, .iconst 2, 1), (36, .invokevirtual 278, 3), (39, .aload_n 0, 1), (40, .invokevirtual 293, 3), (43, .ifCond .eq 21, 3), (46, .aload_n 0, 1), (47, .getfield 26, 3), (50, .aload_n 0, 1), (51, .getfield 325, 3), (54, .aload_n 0, 1), (55, .getfield 282, 3), (58, .invokestatic 309, 3), (61, .goto 4, 3), (64, .iconst (-1), 1), (65, .istore_n 1, 1), (66, .aload_n 0, 1), (67, .invokevirtual 293, 3), (70, .ifCond .eq 13, 3), (73, .iload_n 1, 1), (74, .iconst (-1), 1), (75, .if_icmp .ne 8, 3), (78, .aload_n 0, 1), (79, .iconst 3, 1), (80, .invokevirtual 278, 3), (83, .aload_n 0, 1), (84, .invokevirtual 293, 3), (87, .ifCond .ne 4, 3), (90, .return_, 1), (91, .aload_n 0, 1), (92, .invokevirtual 379, 3), (95, .aload_n 0, 1), (96, .invokevirtual 344, 3), (99, .aload_n 0, 1), (100, .invokevirtual 297, 3), (103, .aload_n 0, 1), (104, .iconst 0, 1), (105, .putfield 367, 3), (108, .aload_n 0, 1), (109, .iload_n 1, 1), (110, .invokevirtual 382, 3), (113, .aload_n 0, 1), (114, .getfield 376, 3), (117, .istore_n 2, 1), (118, .aload_n 0, 1), (119, .invokevirtual 293, 3), (122, .ifCond .eq 53, 3), (125, .aload_n 0, 1), (126, .getfield 38, 3), (129, .iload_n 2, 1), (130, .iload_n 1, 1), (131, .iastore, 1), (132, .aload_n 0, 1), (133, .getfield 44, 3), (136, .iload_n 2, 1), (137, .aload_n 0, 1), (138, .getfield 303, 3), (141, .iastore, 1), (142, .iconst 0, 1), (143, .istore_n 3, 1), (144, .iload_n 3, 1), (145, .aload_n 0, 1), (146, .getfield 303, 3), (149, .if_icmp .ge 26, 3), (152, .aload_n 0, 1), (153, .getfield 41, 3), (156, .bipush 48, 2), (158, .iload_n 2, 1), (159, .imul, 1), (160, .iload_n 3, 1), (161, .iadd, 1), (162, .aload_n 0, 1), (163, .getfield 84, 3), (166, .iload_n 3, 1), (167, .iaload, 1), (168, .iastore, 1), (169, .iinc 3 1, 3), (172, .goto (-28), 3), (175, .aload_n 0, 1), (176, .bipush 61, 2), (178, .invokevirtual 313, 3), (181, .aload_n 0, 1), (182, .iconst 0, 1), (183, .putfield 300, 3), (186, .aload_n 0, 1), (187, .iconst 0, 1), (188, .putfield 335, 3), (191, .aload_n 0, 1), (192, .iconst 0, 1), (193, .putfield 303, 3), (196, .aload_n 0, 1), (197, .iconst 1, 1), (198, .putfield 367, 3), (201, .aload_n 0, 1), (202, .invokevirtual 293, 3), (205, .ifCond .eq 14, 3), (208, .aload_n 0, 1), (209, .aload_n 0, 1), (210, .getfield 35, 3), (213, .iload_n 1, 1), (214, .iaload, 1), (215, .invokevirtual 385, 3), (218, .pop, 1), (219, .aload_n 0, 1), (220, .invokevirtual 293, 3), (223, .ifCond .eq 56, 3), (226, .aload_n 0, 1), (227, .getfield 50, 3), (230, .iload_n 2, 1), (231, .aload_n 0, 1), (232, .getfield 303, 3), (235, .iastore, 1), (236, .iconst 0, 1), (237, .istore_n 3, 1), (238, .iload_n 3, 1), (239, .aload_n 0, 1), (240, .getfield 303, 3), (243, .if_icmp .ge 26, 3), (246, .aload_n 0, 1), (247, .getfield 47, 3), (250, .bipush 48, 2), (252, .iload_n 2, 1), (253, .imul, 1), (254, .iload_n 3, 1), (255, .iadd, 1), (256, .aload_n 0, 1), (257, .getfield 84, 3), (260, .iload_n 3, 1), (261, .iaload, 1), (262, .iastore, 1), (263, .iinc 3 1, 3), (266, .goto (-28), 3), (269, .aload_n 0, 1), (270, .dup, 1), (271, .getfield 376, 3), (274, .iconst 1, 1), (275, .iadd, 1), (276, .putfield 376, 3), (279, .return_, 1)], 0, 13)
/-- EquationProofsModel.tellLaw()V -/
def mt_187 : am_M := (⟨"EquationProofsModel", "tellLaw", "()V"⟩, prog_15_method_36_code, 5, none, ([(271, 13, 31), (53, 13, 20), (387, 13, 19), (282, 13, 33), (62, 13, 23), (65, 13, 24), (338, 13, 39), (68, 13, 25), (81, 13, 38), (71, 13, 26)], [(367, 13, 44), (300, 13, 40), (335, 13, 41), (303, 13, 43), (387, 13, 19)], [], [], [], [(297, 169), (293, 162), (278, 163), (309, 171), (313, 170), (379, 189), (385, 184), (390, 192)]), [(0, .aload_n 0, 1), (1, .invokevirtual 297, 3), (4, .aload_n 0, 1), (5, .invokevirtual 293, 3), (8, .ifCond .eq 16, 3), (11, .aload_n 0, 1), (12, .getfield 271, 3), (15, .iconst 1, 1), (16, .if_icmp .eq 8, 3), (19, .aload_n 0, 1), (20, .iconst 2, 1), (21, .invokevirtual 278, 3), (24, .aload_n 0, 1), (25, .invokevirtual 293, 3), (28, .ifCond .eq 27, 3), (31, .aload_n 0, 1), (32, .getfield 53, 3), (35, .aload_n 0, 1), (36, .getfield 387, 3), (39, .aload_n 0, 1), (40, .getfield 282, 3), (43, .invokestatic 309, 3), (46, .iconst (-1), 1), (47, .if_icmp .eq 8, 3), (50, .aload_n 0, 1), (51, .iconst 3, 1), (52, .invokevirtual 278, 3), (55, .aload_n 0, 1), (56, .invokevirtual 293, 3), (59, .ifCond .eq 17, 3), (62, .aload_n 0, 1), (63, .getfield 387, 3), (66, .bipush 16, 2), (68, .if_icmp .ne 8, 3), (71, .aload_n 0, 1), (72, .iconst 5, 1), (73, .invokevirtual 278, 3), (76, .aload_n 0, 1), (77, .invokevirtual 293, 3), (80, .ifCond .ne 4, 3), (83, .return_, 1), (84, .aload_n 0, 1), (85, .getfield 387, 3), (88, .istore_n 1, 1), (89, .aload_n 0, 1), (90, .getfield 53, 3), (93, .iload_n 1, 1), (94, .aload_n 0, 1), (95, .getfield 282, 3), (98, .lastore, 1), (99, .aload_n 0, 1), (100, .invokevirtual 297, 3), (103, .aload_n 0, 1), (104, .bipush 58, 2), (106, .invokevirtual 313, 3), (109, .aload_n 0, 1), (110, .invokevirtual 379, 3), (113, .aload_n 0, 1), (114, .iconst 2, 1), (115, .putfield 367, 3), (118, .aload_n 0, 1), (119, .invokevirtual 293, 3), (122, .ifCond .eq 11, 3), (125, .aload_n 0, 1), (126, .iconst (-1), 1), (127, .invokevirtual 385, 3), (130, .goto 4, 3), (133, .iconst (-1), 1), (134, .istore_n 2, 1), (135, .aload_n 0, 1), (136, .iconst 2, 1), (137, .iload_n 1, 1), (138, .imul, 1), (139, .invokevirtual 390, 3), (142, .aload_n 0, 1), (143, .bipush 61, 2), (145, .invokevirtual 313, 3), (148, .aload_n 0, 1), (149, .iconst 0, 1), (150, .putfield 300, 3), (153, .aload_n 0, 1), (154, .iconst 0, 1), (155, .putfield 335, 3), (158, .aload_n 0, 1), (159, .iconst 0, 1), (160, .putfield 303, 3), (163, .aload_n 0, 1), (164, .invokevirtual 293, 3), (167, .ifCond .eq 11, 3), (170, .aload_n 0, 1), (171, .iload_n 2, 1), (172, .invokevirtual 385, 3), (175, .goto 4, 3), (178, .iconst (-1), 1), (179, .istore_n 3, 1), (180, .aload_n 0, 1), (181, .iconst 2, 1), (182, .iload_n 1, 1), (183, .imul, 1), (184, .iconst 1, 1), (185, .iadd, 1), (186, .invokevirtual 390, 3), (189, .aload_n 0, 1), (190, .invokevirtual 293, 3), (193, .ifCond .eq 83, 3), (196, .aload_n 0, 1), (197, .getfield 62, 3), (200, .iload_n 1, 1), (201, .iload_n 2, 1), (202, .iconst (-1), 1), (203, .if_icmp .eq 7, 3), (206, .iload_n 2, 1), (207, .goto 4, 3), (210, .iload_n 3, 1), (211, .iastore, 1), (212, .aload_n 0, 1), (213, .getfield 65, 3), (216, .iload_n 1, 1), (217, .aload_n 0, 1), (218, .getfield 338, 3), (221, .iastore, 1), (222, .iconst 0, 1), (223, .istore 4, 2), (225, .iload 4, 2), (227, .aload_n 0, 1), (228, .getfield 338, 3), (231, .if_icmp .ge 28, 3), (234, .aload_n 0, 1), (235, .getfield 68, 3), (238, .bipush 6, 2), (240, .iload_n 1, 1), (241, .imul, 1), (242, .iload 4, 2), (244, .iadd, 1), (245, .aload_n 0, 1), (246, .getfield 81, 3), (249, .iload 4, 2), (251, .iaload, 1), (252, .iastore, 1), (253, .iinc 4 1, 3), (256, .goto (-31), 3), (259, .aload_n 0, 1), (260, .getfield 71, 3), (263, .iload_n 1, 1), (264, .iconst 0, 1), (265, .iastore, 1), (266, .aload_n 0, 1), (267, .dup, 1), (268, .getfield 387, 3), (271, .iconst 1, 1), (272, .iadd, 1), (273, .putfield 387, 3), (276, .return_, 1)], 0, 13)
/-- EquationProofsModel.keepSide(I)V -/
def mt_188 : am_M := (⟨"EquationProofsModel", "keepSide", "(I)V"⟩, prog_15_method_37_code, 3, none, ([(303, 13, 43), (56, 13, 21), (84, 13, 42), (59, 13, 22)], [], [], [], [], [(293, 162)]), [(0, .iconst 0, 1), (1, .istore_n 2, 1), (2, .iload_n 2, 1), (3, .aload_n 0, 1), (4, .getfield 303, 3), (7, .if_icmp .ge 33, 3), (10, .aload_n 0, 1), (11, .invokevirtual 293, 3), (14, .ifCond .eq 26, 3), (17, .aload_n 0, 1), (18, .getfield 56, 3), (21, .bipush 48, 2), (23, .iload_n 1, 1), (24, .imul, 1), (25, .iload_n 2, 1), (26, .iadd, 1), (27, .aload_n 0, 1), (28, .getfield 84, 3), (31, .iload_n 2, 1), (32, .iaload, 1), (33, .iastore, 1), (34, .iinc 2 1, 3), (37, .goto (-35), 3), (40, .aload_n 0, 1), (41, .getfield 59, 3), (44, .iload_n 1, 1), (45, .aload_n 0, 1), (46, .getfield 303, 3), (49, .iastore, 1), (50, .return_, 1)], 1, 13)
/-- EquationProofsModel.feed(IIIII)I -/
def mt_189 : am_M := (⟨"EquationProofsModel", "feed", "(IIIII)I"⟩, prog_15_method_38_code, 8, (some .int), ([(393, 13, 28), (74, 13, 27)], [(241, 13, 0), (393, 13, 28)], [], [], [], []), [(0, .aload_n 0, 1), (1, .iconst 0, 1), (2, .putfield 241, 3), (5, .aload_n 0, 1), (6, .getfield 393, 3), (9, .sipush 980, 3), (12, .if_icmp .le 10, 3), (15, .aload_n 0, 1), (16, .iconst 1, 1), (17, .putfield 241, 3), (20, .iconst 0, 1), (21, .ireturn, 1), (22, .iconst 0, 1), (23, .istore 6, 2), (25, .iload 6, 2), (27, .bipush 20, 2), (29, .if_icmp .ge 90, 3), (32, .iload 6, 2), (34, .iconst 4, 1), (35, .if_icmp .ge 7, 3), (38, .iload_n 1, 1), (39, .goto 39, 3), (42, .iload 6, 2), (44, .bipush 8, 2), (46, .if_icmp .ge 7, 3), (49, .iload_n 2, 1), (50, .goto 28, 3), (53, .iload 6, 2), (55, .bipush 12, 2), (57, .if_icmp .ge 7, 3), (60, .iload_n 3, 1), (61, .goto 17, 3), (64, .iload 6, 2), (66, .bipush 16, 2), (68, .if_icmp .ge 8, 3), (71, .iload 4, 2), (73, .goto 5, 3), (76, .iload 5, 2), (78, .istore 7, 2), (80, .aload_n 0, 1), (81, .getfield 74, 3), (84, .aload_n 0, 1), (85, .getfield 393, 3), (88, .iload 7, 2), (90, .bipush 24, 2), (92, .bipush 8, 2), (94, .iload 6, 2), (96, .iconst 3, 1), (97, .iand, 1), (98, .imul, 1), (99, .isub, 1), (100, .ishr, 1), (101, .i2b, 1), (102, .bastore, 1), (103, .aload_n 0, 1), (104, .dup, 1), (105, .getfield 393, 3), (108, .iconst 1, 1), (109, .iadd, 1), (110, .putfield 393, 3), (113, .iinc 6 1, 3), (116, .goto (-91), 3), (119, .aload_n 0, 1), (120, .getfield 393, 3), (123, .ireturn, 1)], 5, 13)
/-- EquationProofsModel.end(I)V -/
def mt_190 : am_M := (⟨"EquationProofsModel", "end", "(I)V"⟩, prog_15_method_39_code, 2, none, ([(393, 13, 28)], [(241, 13, 0), (393, 13, 28)], [], [], [], []), [(0, .aload_n 0, 1), (1, .iconst 0, 1), (2, .putfield 241, 3), (5, .iload_n 1, 1), (6, .ifCond .lt 11, 3), (9, .iload_n 1, 1), (10, .aload_n 0, 1), (11, .getfield 393, 3), (14, .if_icmp .le 9, 3), (17, .aload_n 0, 1), (18, .iconst 1, 1), (19, .putfield 241, 3), (22, .return_, 1), (23, .aload_n 0, 1), (24, .iload_n 1, 1), (25, .putfield 393, 3), (28, .return_, 1)], 1, 13)
/-- EquationProofsModel.openTape()V -/
def mt_191 : am_M := (⟨"EquationProofsModel", "openTape", "()V"⟩, prog_15_method_40_code, 1, none, ([(393, 13, 28)], [(264, 13, 29), (393, 13, 28), (261, 13, 30), (248, 13, 35)], [], [], [], [(297, 169)]), [(0, .aload_n 0, 1), (1, .aload_n 0, 1), (2, .getfield 393, 3), (5, .putfield 264, 3), (8, .aload_n 0, 1), (9, .iconst 0, 1), (10, .putfield 393, 3), (13, .aload_n 0, 1), (14, .iconst 0, 1), (15, .putfield 261, 3), (18, .aload_n 0, 1), (19, .iconst 0, 1), (20, .putfield 248, 3), (23, .aload_n 0, 1), (24, .invokevirtual 297, 3), (27, .return_, 1)], 0, 13)
/-- EquationProofsModel.read()I -/
def mt_192 : am_M := (⟨"EquationProofsModel", "read", "()I"⟩, prog_15_method_41_code, 8, (some .int), ([(306, 13, 1), (319, 13, 3), (325, 13, 8), (376, 13, 13), (387, 13, 19), (271, 13, 31), (248, 13, 35), (258, 13, 36), (71, 13, 26)], [(306, 13, 1), (319, 13, 3), (325, 13, 8), (376, 13, 13), (387, 13, 19), (411, 13, 34), (150, 13, 74), (414, 13, 77), (417, 13, 76)], [], [], [], [(396, 195), (293, 162), (399, 174), (402, 177), (405, 190), (408, 191), (278, 163), (297, 169)]), [(0, .aload_n 0, 1), (1, .getfield 306, 3), (4, .istore_n 1, 1), (5, .aload_n 0, 1), (6, .getfield 319, 3), (9, .istore_n 2, 1), (10, .aload_n 0, 1), (11, .getfield 325, 3), (14, .istore_n 3, 1), (15, .aload_n 0, 1), (16, .getfield 376, 3), (19, .istore 4, 2), (21, .aload_n 0, 1), (22, .getfield 387, 3), (25, .istore 5, 2), (27, .iconst 0, 1), (28, .istore 6, 2), (30, .aload_n 0, 1), (31, .invokevirtual 396, 3), (34, .aload_n 0, 1), (35, .invokevirtual 293, 3), (38, .ifCond .eq 114, 3), (41, .aload_n 0, 1), (42, .getfield 271, 3), (45, .ifCond .eq 107, 3), (48, .aload_n 0, 1), (49, .getfield 271, 3), (52, .iconst 3, 1), (53, .if_icmp .ne 10, 3), (56, .aload_n 0, 1), (57, .invokevirtual 399, 3), (60, .goto 54, 3), (63, .aload_n 0, 1), (64, .getfield 271, 3), (67, .iconst 4, 1), (68, .if_icmp .ne 10, 3), (71, .aload_n 0, 1), (72, .invokevirtual 402, 3), (75, .goto 39, 3), (78, .aload_n 0, 1), (79, .getfield 271, 3), (82, .iconst 5, 1), (83, .if_icmp .ne 10, 3), (86, .aload_n 0, 1), (87, .invokevirtual 405, 3), (90, .goto 24, 3), (93, .aload_n 0, 1), (94, .getfield 271, 3), (97, .bipush 6, 2), (99, .if_icmp .ne 10, 3), (102, .aload_n 0, 1), (103, .invokevirtual 408, 3), (106, .goto 8, 3), (109, .aload_n 0, 1), (110, .iconst 2, 1), (111, .invokevirtual 278, 3), (114, .aload_n 0, 1), (115, .invokevirtual 293, 3), (118, .ifCond .eq 17, 3), (121, .aload_n 0, 1), (122, .getfield 271, 3), (125, .bipush 59, 2), (127, .if_icmp .eq 8, 3), (130, .aload_n 0, 1), (131, .iconst 2, 1), (132, .invokevirtual 278, 3), (135, .aload_n 0, 1), (136, .invokevirtual 293, 3), (139, .ifCond .eq (-105), 3), (142, .aload_n 0, 1), (143, .invokevirtual 297, 3), (146, .iinc 6 1, 3), (149, .goto (-115), 3), (152, .aload_n 0, 1), (153, .invokevirtual 293, 3), (156, .ifCond .ne 47, 3), (159, .aload_n 0, 1), (160, .iload_n 1, 1), (161, .putfield 306, 3), (164, .aload_n 0, 1), (165, .iload_n 2, 1), (166, .putfield 319, 3), (169, .aload_n 0, 1), (170, .iload_n 3, 1), (171, .putfield 325, 3), (174, .aload_n 0, 1), (175, .iload 4, 2), (177, .putfield 376, 3), (180, .aload_n 0, 1), (181, .iload 5, 2), (183, .putfield 387, 3), (186, .aload_n 0, 1), (187, .aload_n 0, 1), (188, .getfield 248, 3), (191, .putfield 411, 3), (194, .sipush (-1000), 3), (197, .aload_n 0, 1), (198, .getfield 258, 3), (201, .isub, 1), (202, .ireturn, 1), (203, .iconst 0, 1), (204, .istore 7, 2), (206, .iload 7, 2), (208, .aload_n 0, 1), (209, .getfield 387, 3), (212, .if_icmp .ge 26, 3), (215, .aload_n 0, 1), (216, .getfield 376, 3), (219, .iload 4, 2), (221, .if_icmp .le 17, 3), (224, .aload_n 0, 1), (225, .getfield 71, 3), (228, .iload 7, 2), (230, .iconst 0, 1), (231, .iastore, 1), (232, .iinc 7 1, 3), (235, .goto (-29), 3), (238, .aload_n 0, 1), (239, .iconst (-1), 1), (240, .putfield 150, 3), (243, .aload_n 0, 1), (244, .iconst 0, 1), (245, .putfield 414, 3), (248, .aload_n 0, 1), (249, .iconst 0, 1), (250, .putfield 417, 3), (253, .iload 6, 2), (255, .ireturn, 1)], 0, 13)
/-- EquationProofsModel.fault()I -/
def mt_193 : am_M := (⟨"EquationProofsModel", "fault", "()I"⟩, prog_15_method_42_code, 1, (some .int), ([(411, 13, 34)], [], [], [], [], []), [(0, .aload_n 0, 1), (1, .getfield 411, 3), (4, .ireturn, 1)], 0, 13)
/-- EquationProofsModel.count(I)I -/
def mt_194 : am_M := (⟨"EquationProofsModel", "count", "(I)I"⟩, prog_15_method_43_code, 2, (some .int), ([(306, 13, 1), (319, 13, 3), (325, 13, 8), (376, 13, 13), (387, 13, 19), (414, 13, 77), (417, 13, 76), (174, 13, 85)], [], [], [], [], []), [(0, .iload_n 1, 1), (1, .tableswitch 100 0 7 #[47, 52, 57, 62, 67, 72, 77, 82], 47), (48, .aload_n 0, 1), (49, .getfield 306, 3), (52, .ireturn, 1), (53, .aload_n 0, 1), (54, .getfield 319, 3), (57, .ireturn, 1), (58, .aload_n 0, 1), (59, .getfield 325, 3), (62, .ireturn, 1), (63, .aload_n 0, 1), (64, .getfield 376, 3), (67, .ireturn, 1), (68, .aload_n 0, 1), (69, .getfield 387, 3), (72, .ireturn, 1), (73, .aload_n 0, 1), (74, .getfield 414, 3), (77, .ireturn, 1), (78, .aload_n 0, 1), (79, .getfield 417, 3), (82, .ireturn, 1), (83, .aload_n 0, 1), (84, .getfield 414, 3), (87, .ifCond .le 12, 3), (90, .aload_n 0, 1), (91, .getfield 174, 3), (94, .iconst 0, 1), (95, .iaload, 1), (96, .goto 4, 3), (99, .iconst 0, 1), (100, .ireturn, 1), (101, .bipush (-102), 2), (103, .ireturn, 1)], 1, 13)
/-- EquationProofsModel.about(II)I -/
def mt_195 : am_M := (⟨"EquationProofsModel", "about", "(II)I"⟩, prog_15_method_44_code, 3, (some .int), ([(387, 13, 19), (71, 13, 26), (65, 13, 24), (59, 13, 22)], [], [], [], [], []), [(0, .iload_n 1, 1), (1, .ifCond .lt 11, 3), (4, .iload_n 1, 1), (5, .aload_n 0, 1), (6, .getfield 387, 3), (9, .if_icmp .lt 6, 3), (12, .bipush (-101), 2), (14, .ireturn, 1), (15, .iload_n 2, 1), (16, .tableswitch 66 0 3 #[32, 39, 46, 55], 32), (48, .aload_n 0, 1), (49, .getfield 71, 3), (52, .iload_n 1, 1), (53, .iaload, 1), (54, .ireturn, 1), (55, .aload_n 0, 1), (56, .getfield 65, 3), (59, .iload_n 1, 1), (60, .iaload, 1), (61, .ireturn, 1), (62, .aload_n 0, 1), (63, .getfield 59, 3), (66, .iconst 2, 1), (67, .iload_n 1, 1), (68, .imul, 1), (69, .iaload, 1), (70, .ireturn, 1), (71, .aload_n 0, 1), (72, .getfield 59, 3), (75, .iconst 2, 1), (76, .iload_n 1, 1), (77, .imul, 1), (78, .iconst 1, 1), (79, .iadd, 1), (80, .iaload, 1), (81, .ireturn, 1), (82, .bipush (-102), 2), (84, .ireturn, 1)], 2, 13)
/-- EquationProofsModel.match([II)I -/
def mt_196 : am_M := (⟨"EquationProofsModel", "match", "([II)I"⟩, prog_15_method_45_code, 6, (some .int), ([(376, 13, 13), (38, 13, 14)], [(424, 13, 51)], [], [], [], [(420, 201)]), [(0, .aload_n 1, 1), (1, .iload_n 2, 1), (2, .iaload, 1), (3, .bipush 100, 2), (5, .isub, 1), (6, .istore_n 3, 1), (7, .iconst 0, 1), (8, .istore 4, 2), (10, .iload 4, 2), (12, .aload_n 0, 1), (13, .getfield 376, 3), (16, .if_icmp .ge 47, 3), (19, .aload_n 0, 1), (20, .getfield 38, 3), (23, .iload 4, 2), (25, .iaload, 1), (26, .iload_n 3, 1), (27, .if_icmp .ne 30, 3), (30, .aload_n 0, 1), (31, .aload_n 1, 1), (32, .iload_n 2, 1), (33, .iconst 1, 1), (34, .iadd, 1), (35, .iload 4, 2), (37, .invokevirtual 420, 3), (40, .istore 5, 2), (42, .iload 5, 2), (44, .iconst 3, 1), (45, .if_icmp .eq 12, 3), (48, .aload_n 0, 1), (49, .iload 4, 2), (51, .putfield 424, 3), (54, .iload 5, 2), (56, .ireturn, 1), (57, .iinc 4 1, 3), (60, .goto (-50), 3), (63, .iconst 1, 1), (64, .ireturn, 1)], 2, 13)
/-- EquationProofsModel.fits([III)I -/
def mt_197 : am_M := (⟨"EquationProofsModel", "fits", "([III)I"⟩, prog_15_method_46_code, 8, (some .int), ([(44, 13, 16), (41, 13, 15), (96, 13, 49)], [(434, 13, 50)], [], [], [], [(427, 159), (431, 161)]), [(0, .iload_n 2, 1), (1, .istore 4, 2), (3, .iconst 0, 1), (4, .istore 5, 2), (6, .iload 5, 2), (8, .aload_n 0, 1), (9, .getfield 44, 3), (12, .iload_n 3, 1), (13, .iaload, 1), (14, .if_icmp .ge 100, 3), (17, .aload_n 0, 1), (18, .getfield 41, 3), (21, .bipush 48, 2), (23, .iload_n 3, 1), (24, .imul, 1), (25, .iload 5, 2), (27, .iadd, 1), (28, .iaload, 1), (29, .istore 6, 2), (31, .aload_n 1, 1), (32, .iload 4, 2), (34, .iaload, 1), (35, .istore 7, 2), (37, .iload 6, 2), (39, .sipush 1000, 3), (42, .if_icmp .lt 28, 3), (45, .aload_n 0, 1), (46, .getfield 96, 3), (49, .iload 6, 2), (51, .sipush 1000, 3), (54, .isub, 1), (55, .iload 4, 2), (57, .iastore, 1), (58, .aload_n 0, 1), (59, .aload_n 1, 1), (60, .iload 4, 2), (62, .invokevirtual 427, 3), (65, .istore 4, 2), (67, .goto 41, 3), (70, .iload 7, 2), (72, .iload 6, 2), (74, .if_icmp .ne 9, 3), (77, .iinc 4 1, 3), (80, .goto 28, 3), (83, .iload 7, 2), (85, .invokestatic 431, 3), (88, .ifCond .eq 5, 3), (91, .iconst 3, 1), (92, .ireturn, 1), (93, .iload 7, 2), (95, .ifCond .ne 5, 3), (98, .iconst 1, 1), (99, .ireturn, 1), (100, .aload_n 0, 1), (101, .iload 4, 2), (103, .putfield 434, 3), (106, .iconst 2, 1), (107, .ireturn, 1), (108, .iinc 5 1, 3), (111, .goto (-105), 3), (114, .iconst 0, 1), (115, .ireturn, 1)], 3, 13)
/-- EquationProofsModel.copy([III)V -/
def mt_198 : am_M := (⟨"EquationProofsModel", "copy", "([III)V"⟩, prog_15_method_47_code, 5, none, ([(99, 13, 52), (437, 13, 53)], [(437, 13, 53)], [], [], [], []), [(0, .iload_n 2, 1), (1, .istore 4, 2), (3, .iload 4, 2), (5, .iload_n 3, 1), (6, .if_icmp .ge 32, 3), (9, .aload_n 0, 1), (10, .getfield 99, 3), (13, .aload_n 0, 1), (14, .getfield 437, 3), (17, .aload_n 1, 1), (18, .iload 4, 2), (20, .iaload, 1), (21, .iastore, 1), (22, .aload_n 0, 1), (23, .dup, 1), (24, .getfield 437, 3), (27, .iconst 1, 1), (28, .iadd, 1), (29, .putfield 437, 3), (32, .iinc 4 1, 3), (35, .goto (-32), 3), (38, .return_, 1)], 3, 13)
/-- EquationProofsModel.makeDone([IIII)V -/
def mt_199 : am_M := (⟨"EquationProofsModel", "makeDone", "([IIII)V"⟩, prog_15_method_48_code, 9, none, ([(99, 13, 52), (437, 13, 53), (424, 13, 51), (50, 13, 18), (47, 13, 17), (96, 13, 49)], [(437, 13, 53)], [], [], [], [(440, 202), (427, 159)]), [(0, .aload_n 0, 1), (1, .iconst 0, 1), (2, .putfield 437, 3), (5, .aload_n 0, 1), (6, .aload_n 1, 1), (7, .iconst 0, 1), (8, .iload_n 3, 1), (9, .invokevirtual 440, 3), (12, .iload 4, 2), (14, .iconst 1, 1), (15, .if_icmp .ne 26, 3), (18, .aload_n 0, 1), (19, .getfield 99, 3), (22, .aload_n 0, 1), (23, .getfield 437, 3), (26, .iconst 0, 1), (27, .iastore, 1), (28, .aload_n 0, 1), (29, .dup, 1), (30, .getfield 437, 3), (33, .iconst 1, 1), (34, .iadd, 1), (35, .putfield 437, 3), (38, .goto 104, 3), (41, .aload_n 0, 1), (42, .getfield 424, 3), (45, .istore 5, 2), (47, .iconst 0, 1), (48, .istore 6, 2), (50, .iload 6, 2), (52, .aload_n 0, 1), (53, .getfield 50, 3), (56, .iload 5, 2), (58, .iaload, 1), (59, .if_icmp .ge 83, 3), (62, .aload_n 0, 1), (63, .getfield 47, 3), (66, .bipush 48, 2), (68, .iload 5, 2), (70, .imul, 1), (71, .iload 6, 2), (73, .iadd, 1), (74, .iaload, 1), (75, .istore 7, 2), (77, .iload 7, 2), (79, .sipush 1000, 3), (82, .if_icmp .lt 33, 3), (85, .aload_n 0, 1), (86, .getfield 96, 3), (89, .iload 7, 2), (91, .sipush 1000, 3), (94, .isub, 1), (95, .iaload, 1), (96, .istore 8, 2), (98, .aload_n 0, 1), (99, .aload_n 1, 1), (100, .iload 8, 2), (102, .aload_n 0, 1), (103, .aload_n 1, 1), (104, .iload 8, 2), (106, .invokevirtual 427, 3), (109, .invokevirtual 440, 3), (112, .goto 24, 3), (115, .aload_n 0, 1), (116, .getfield 99, 3), (119, .aload_n 0, 1), (120, .getfield 437, 3), (123, .iload 7, 2), (125, .iastore, 1), (126, .aload_n 0, 1), (127, .dup, 1), (128, .getfield 437, 3), (131, .iconst 1, 1), (132, .iadd, 1), (133, .putfield 437, 3), (136, .iinc 6 1, 3), (139, .goto (-89), 3), (142, .aload_n 0, 1), (143, .aload_n 1, 1), (144, .aload_n 0, 1), (145, .aload_n 1, 1), (146, .iload_n 3, 1), (147, .invokevirtual 427, 3), (150, .iload_n 2, 1), (151, .invokevirtual 440, 3), (154, .return_, 1)], 4, 13)
/-- EquationProofsModel.run(I)I -/
def mt_200 : am_M := (⟨"EquationProofsModel", "run", "(I)I"⟩, prog_15_method_49_code, 5, (some .int), ([(447, 13, 55), (102, 13, 54), (444, 13, 56), (434, 13, 50), (437, 13, 53), (99, 13, 52)], [(444, 13, 56), (447, 13, 55)], [], [], [], [(450, 160), (453, 200), (456, 203)]), [(0, .aload_n 0, 1), (1, .iconst 0, 1), (2, .putfield 444, 3), (5, .iconst 0, 1), (6, .istore_n 2, 1), (7, .iload_n 2, 1), (8, .aload_n 0, 1), (9, .getfield 447, 3), (12, .if_icmp .ge 21, 3), (15, .aload_n 0, 1), (16, .getfield 102, 3), (19, .iload_n 2, 1), (20, .iaload, 1), (21, .invokestatic 450, 3), (24, .ifCond .ne 9, 3), (27, .iinc 2 1, 3), (30, .goto (-23), 3), (33, .iload_n 2, 1), (34, .aload_n 0, 1), (35, .getfield 447, 3), (38, .if_icmp .ne 5, 3), (41, .iconst 0, 1), (42, .ireturn, 1), (43, .aload_n 0, 1), (44, .getfield 444, 3), (47, .iload_n 1, 1), (48, .if_icmp .ne 5, 3), (51, .iconst 1, 1), (52, .ireturn, 1), (53, .aload_n 0, 1), (54, .aload_n 0, 1), (55, .getfield 102, 3), (58, .iload_n 2, 1), (59, .invokevirtual 453, 3), (62, .istore_n 3, 1), (63, .iload_n 3, 1), (64, .iconst 2, 1), (65, .if_icmp .ne 21, 3), (68, .aload_n 0, 1), (69, .getfield 434, 3), (72, .istore_n 2, 1), (73, .aload_n 0, 1), (74, .aload_n 0, 1), (75, .getfield 102, 3), (78, .iload_n 2, 1), (79, .invokevirtual 453, 3), (82, .istore_n 3, 1), (83, .goto (-20), 3), (86, .aload_n 0, 1), (87, .aload_n 0, 1), (88, .getfield 102, 3), (91, .aload_n 0, 1), (92, .getfield 447, 3), (95, .iload_n 2, 1), (96, .iload_n 3, 1), (97, .invokevirtual 456, 3), (100, .aload_n 0, 1), (101, .getfield 437, 3), (104, .bipush 120, 2), (106, .if_icmp .le 5, 3), (109, .iconst 2, 1), (110, .ireturn, 1), (111, .aload_n 0, 1), (112, .dup, 1), (113, .getfield 444, 3), (116, .iconst 1, 1), (117, .iadd, 1), (118, .putfield 444, 3), (121, .aload_n 0, 1), (122, .aload_n 0, 1), (123, .getfield 437, 3), (126, .putfield 447, 3), (129, .iconst 0, 1), (130, .istore 4, 2), (132, .iload 4, 2), (134, .aload_n 0, 1), (135, .getfield 437, 3), (138, .if_icmp .ge 23, 3), (141, .aload_n 0, 1), (142, .getfield 102, 3), (145, .iload 4, 2), (147, .aload_n 0, 1), (148, .getfield 99, 3), (151, .iload 4, 2), (153, .iaload, 1), (154, .iastore, 1), (155, .iinc 4 1, 3), (158, .goto (-26), 3), (161, .goto (-156), 3)], 1, 13)
/-- EquationProofsModel.work(I)I -/
def mt_201 : am_M := (⟨"EquationProofsModel", "work", "(I)I"⟩, prog_15_method_50_code, 3, (some .int), ([(271, 13, 31), (248, 13, 35), (258, 13, 36), (303, 13, 43), (102, 13, 54), (84, 13, 42), (444, 13, 56)], [(393, 13, 28), (367, 13, 44), (411, 13, 34), (447, 13, 55), (463, 13, 57)], [], [], [], [(396, 195), (379, 189), (293, 162), (385, 184), (278, 163), (460, 204), (466, 210)]), [(0, .iload_n 1, 1), (1, .ifCond .lt 10, 3), (4, .iload_n 1, 1), (5, .sipush 2000, 3), (8, .if_icmp .le 11, 3), (11, .aload_n 0, 1), (12, .iconst 0, 1), (13, .putfield 393, 3), (16, .bipush (-102), 2), (18, .ireturn, 1), (19, .aload_n 0, 1), (20, .invokevirtual 396, 3), (23, .aload_n 0, 1), (24, .invokevirtual 379, 3), (27, .aload_n 0, 1), (28, .iconst 3, 1), (29, .putfield 367, 3), (32, .aload_n 0, 1), (33, .invokevirtual 293, 3), (36, .ifCond .eq 9, 3), (39, .aload_n 0, 1), (40, .iconst (-1), 1), (41, .invokevirtual 385, 3), (44, .pop, 1), (45, .aload_n 0, 1), (46, .invokevirtual 293, 3), (49, .ifCond .eq 15, 3), (52, .aload_n 0, 1), (53, .getfield 271, 3), (56, .ifCond .eq 8, 3), (59, .aload_n 0, 1), (60, .iconst 2, 1), (61, .invokevirtual 278, 3), (64, .aload_n 0, 1), (65, .invokevirtual 293, 3), (68, .ifCond .ne 20, 3), (71, .aload_n 0, 1), (72, .aload_n 0, 1), (73, .getfield 248, 3), (76, .putfield 411, 3), (79, .sipush (-1000), 3), (82, .aload_n 0, 1), (83, .getfield 258, 3), (86, .isub, 1), (87, .ireturn, 1), (88, .aload_n 0, 1), (89, .aload_n 0, 1), (90, .getfield 303, 3), (93, .putfield 447, 3), (96, .iconst 0, 1), (97, .istore_n 2, 1), (98, .iload_n 2, 1), (99, .aload_n 0, 1), (100, .getfield 303, 3), (103, .if_icmp .ge 21, 3), (106, .aload_n 0, 1), (107, .getfield 102, 3), (110, .iload_n 2, 1), (111, .aload_n 0, 1), (112, .getfield 84, 3), (115, .iload_n 2, 1), (116, .iaload, 1), (117, .iastore, 1), (118, .iinc 2 1, 3), (121, .goto (-23), 3), (124, .aload_n 0, 1), (125, .iload_n 1, 1), (126, .invokevirtual 460, 3), (129, .istore_n 2, 1), (130, .aload_n 0, 1), (131, .aload_n 0, 1), (132, .getfield 444, 3), (135, .putfield 463, 3), (138, .aload_n 0, 1), (139, .aload_n 0, 1), (140, .getfield 102, 3), (143, .iconst 0, 1), (144, .invokevirtual 466, 3), (147, .iload_n 2, 1), (148, .ireturn, 1)], 1, 13)
end
section
/-! the methods -/
/-- EquationProofsModel.steps()I -/
def mt_202 : am_M := (⟨"EquationProofsModel", "steps", "()I"⟩, prog_15_method_51_code, 1, (some .int), ([(463, 13, 57)], [], [], [], [], []), [(0, .aload_n 0, 1), (1, .getfield 463, 3), (4, .ireturn, 1)], 0, 13)
/-- EquationProofsModel.letter(I)V -/
def mt_203 : am_M := (⟨"EquationProofsModel", "letter", "(I)V"⟩, prog_15_method_52_code, 2, none, ([(105, 13, 58), (470, 13, 59)], [(470, 13, 59)], [], [], [], []), [(0, .aload_n 0, 1), (1, .getfield 105, 3), (4, .aload_n 0, 1), (5, .getfield 470, 3), (8, .iload_n 1, 1), (9, .i2b, 1), (10, .bastore, 1), (11, .aload_n 0, 1), (12, .dup, 1), (13, .getfield 470, 3), (16, .iconst 1, 1), (17, .iadd, 1), (18, .putfield 470, 3), (21, .return_, 1)], 1, 13)
/-- EquationProofsModel.putName(J)V -/
def mt_204 : am_M := (⟨"EquationProofsModel", "putName", "(J)V"⟩, prog_15_method_53_code, 5, none, ([], [], [], [], [], [(473, 207)]), [(0, .bipush 56, 2), (2, .istore_n 3, 1), (3, .iload_n 3, 1), (4, .ifCond .lt 30, 3), (7, .lload_n 1, 1), (8, .iload_n 3, 1), (9, .lushr, 1), (10, .l2i, 1), (11, .sipush 255, 3), (14, .iand, 1), (15, .istore 4, 2), (17, .iload 4, 2), (19, .ifCond .le 9, 3), (22, .aload_n 0, 1), (23, .iload 4, 2), (25, .invokevirtual 473, 3), (28, .iinc 3 (-8), 3), (31, .goto (-28), 3), (34, .return_, 1)], 1, 13)
/-- EquationProofsModel.putNumber(I)V -/
def mt_205 : am_M := (⟨"EquationProofsModel", "putNumber", "(I)V"⟩, prog_15_method_54_code, 2, none, ([], [], [], [], [], [(473, 207)]), [(0, .iload_n 1, 1), (1, .bipush 9, 2), (3, .if_icmp .le 14, 3), (6, .aload_n 0, 1), (7, .bipush 48, 2), (9, .iload_n 1, 1), (10, .bipush 10, 2), (12, .idiv, 1), (13, .iadd, 1), (14, .invokevirtual 473, 3), (17, .aload_n 0, 1), (18, .bipush 48, 2), (20, .iload_n 1, 1), (21, .bipush 10, 2), (23, .irem, 1), (24, .iadd, 1), (25, .invokevirtual 473, 3), (28, .return_, 1)], 1, 13)
/-- EquationProofsModel.print([II)V -/
def mt_206 : am_M := (⟨"EquationProofsModel", "print", "([II)V"⟩, prog_15_method_55_code, 9, none, ([(470, 13, 59), (26, 13, 9), (13, 13, 4), (108, 13, 60), (111, 13, 61)], [(470, 13, 59)], [], [], [], [(427, 159), (244, 158), (473, 207), (476, 209), (479, 208)]), [(0, .aload_n 0, 1), (1, .iconst 0, 1), (2, .putfield 470, 3), (5, .aload_n 0, 1), (6, .aload_n 1, 1), (7, .iload_n 2, 1), (8, .invokevirtual 427, 3), (11, .istore_n 3, 1), (12, .iconst 0, 1), (13, .istore 4, 2), (15, .iload_n 2, 1), (16, .istore 5, 2), (18, .iload 5, 2), (20, .iload_n 3, 1), (21, .if_icmp .ge 247, 3), (24, .aload_n 1, 1), (25, .iload 5, 2), (27, .iaload, 1), (28, .istore 6, 2), (30, .aload_n 0, 1), (31, .iload 6, 2), (33, .invokevirtual 244, 3), (36, .istore 7, 2), (38, .aload_n 0, 1), (39, .getfield 470, 3), (42, .ifCond .le 9, 3), (45, .aload_n 0, 1), (46, .bipush 32, 2), (48, .invokevirtual 473, 3), (51, .iload 7, 2), (53, .ifCond .le 13, 3), (56, .iload 5, 2), (58, .iload_n 2, 1), (59, .if_icmp .le 7, 3), (62, .iconst 1, 1), (63, .goto 4, 3), (66, .iconst 0, 1), (67, .istore 8, 2), (69, .iload 8, 2), (71, .ifCond .eq 9, 3), (74, .aload_n 0, 1), (75, .bipush 40, 2), (77, .invokevirtual 473, 3), (80, .iload 6, 2), (82, .ifCond .ne 12, 3), (85, .aload_n 0, 1), (86, .bipush 95, 2), (88, .invokevirtual 473, 3), (91, .goto 93, 3), (94, .iload 6, 2), (96, .sipush 1000, 3), (99, .if_icmp .lt 52, 3), (102, .aload_n 0, 1), (103, .iload 6, 2), (105, .sipush 2000, 3), (108, .if_icmp .lt 8, 3), (111, .bipush 102, 2), (113, .goto 5, 3), (116, .bipush 118, 2), (118, .invokevirtual 473, 3), (121, .aload_n 0, 1), (122, .iload 6, 2), (124, .sipush 2000, 3), (127, .if_icmp .lt 12, 3), (130, .iload 6, 2), (132, .sipush 2000, 3), (135, .isub, 1), (136, .goto 9, 3), (139, .iload 6, 2), (141, .sipush 1000, 3), (144, .isub, 1), (145, .invokevirtual 476, 3), (148, .goto 36, 3), (151, .aload_n 0, 1), (152, .iload 6, 2), (154, .bipush 100, 2), (156, .if_icmp .lt 16, 3), (159, .aload_n 0, 1), (160, .getfield 26, 3), (163, .iload 6, 2), (165, .bipush 100, 2), (167, .isub, 1), (168, .laload, 1), (169, .goto 12, 3), (172, .aload_n 0, 1), (173, .getfield 13, 3), (176, .iload 6, 2), (178, .iconst 1, 1), (179, .isub, 1), (180, .laload, 1), (181, .invokevirtual 479, 3), (184, .aload_n 0, 1), (185, .getfield 108, 3), (188, .iload 4, 2), (190, .iload 7, 2), (192, .iastore, 1), (193, .aload_n 0, 1), (194, .getfield 111, 3), (197, .iload 4, 2), (199, .iload 8, 2), (201, .bastore, 1), (202, .iinc 4 1, 3), (205, .iload 4, 2), (207, .ifCond .le 55, 3), (210, .aload_n 0, 1), (211, .getfield 108, 3), (214, .iload 4, 2), (216, .iconst 1, 1), (217, .isub, 1), (218, .iaload, 1), (219, .ifCond .ne 43, 3), (222, .iinc 4 (-1), 3), (225, .aload_n 0, 1), (226, .getfield 111, 3), (229, .iload 4, 2), (231, .baload, 1), (232, .ifCond .eq 9, 3), (235, .aload_n 0, 1), (236, .bipush 41, 2), (238, .invokevirtual 473, 3), (241, .iload 4, 2), (243, .ifCond .le (-38), 3), (246, .aload_n 0, 1), (247, .getfield 108, 3), (250, .iload 4, 2), (252, .iconst 1, 1), (253, .isub, 1), (254, .dup2, 1), (255, .iaload, 1), (256, .iconst 1, 1), (257, .isub, 1), (258, .iastore, 1), (259, .goto (-54), 3), (262, .iinc 5 1, 3), (265, .goto (-247), 3), (268, .return_, 1)], 2, 13)
/-- EquationProofsModel.printed(I)I -/
def mt_207 : am_M := (⟨"EquationProofsModel", "printed", "(I)I"⟩, prog_15_method_56_code, 2, (some .int), ([(470, 13, 59), (105, 13, 58)], [], [], [], [], []), [(0, .iload_n 1, 1), (1, .ifCond .lt 20, 3), (4, .iload_n 1, 1), (5, .aload_n 0, 1), (6, .getfield 470, 3), (9, .if_icmp .ge 12, 3), (12, .aload_n 0, 1), (13, .getfield 105, 3), (16, .iload_n 1, 1), (17, .baload, 1), (18, .goto 4, 3), (21, .iconst (-1), 1), (22, .ireturn, 1)], 1, 13)
/-- EquationProofsModel.bounded(J)J -/
def mt_208 : am_M := (⟨"EquationProofsModel", "bounded", "(J)J"⟩, prog_15_method_57_code, 2, (some .long), ([], [], [], [], [(483, .long 1000000)], []), [(0, .lload_n 0, 1), (1, .ldc2_w 483, 3), (4, .lcmp, 1), (5, .ifCond .le 9, 3), (8, .ldc2_w 483, 3), (11, .goto 4, 3), (14, .lload_n 0, 1), (15, .lreturn, 1)], 1, 1000)
/-- EquationProofsModel.countValues(IZ)V -/
def mt_209 : am_M := (⟨"EquationProofsModel", "countValues", "(IZ)V"⟩, prog_15_method_58_code, 8, none, ([(125, 13, 65), (306, 13, 1), (319, 13, 3), (16, 13, 5)], [], [], [], [], [(485, 214), (489, 212)]), [(0, .iconst 0, 1), (1, .istore_n 3, 1), (2, .iload_n 3, 1), (3, .bipush 48, 2), (5, .if_icmp .ge 16, 3), (8, .aload_n 0, 1), (9, .getfield 125, 3), (12, .iload_n 3, 1), (13, .lconst 0, 1), (14, .lastore, 1), (15, .iinc 3 1, 3), (18, .goto (-16), 3), (21, .iconst 1, 1), (22, .istore_n 3, 1), (23, .iload_n 3, 1), (24, .iload_n 1, 1), (25, .if_icmp .gt 106, 3), (28, .iconst 0, 1), (29, .istore 4, 2), (31, .iload 4, 2), (33, .aload_n 0, 1), (34, .getfield 306, 3), (37, .if_icmp .ge 88, 3), (40, .iload_n 3, 1), (41, .iconst 1, 1), (42, .if_icmp .ne 11, 3), (45, .iload_n 2, 1), (46, .ifCond .eq 7, 3), (49, .lconst 1, 1), (50, .goto 4, 3), (53, .lconst 0, 1), (54, .lstore 5, 2), (56, .iconst 0, 1), (57, .istore 7, 2), (59, .iload 7, 2), (61, .aload_n 0, 1), (62, .getfield 319, 3), (65, .if_icmp .ge 37, 3), (68, .lload 5, 2), (70, .aload_n 0, 1), (71, .getfield 16, 3), (74, .iload 7, 2), (76, .iaload, 1), (77, .iload 4, 2), (79, .if_icmp .ne 13, 3), (82, .aload_n 0, 1), (83, .iload 7, 2), (85, .iload_n 3, 1), (86, .invokevirtual 485, 3), (89, .goto 4, 3), (92, .lconst 0, 1), (93, .ladd, 1), (94, .lstore 5, 2), (96, .iinc 7 1, 3), (99, .goto (-40), 3), (102, .aload_n 0, 1), (103, .getfield 125, 3), (106, .bipush 8, 2), (108, .iload 4, 2), (110, .imul, 1), (111, .iload_n 3, 1), (112, .iadd, 1), (113, .lload 5, 2), (115, .invokestatic 489, 3), (118, .lastore, 1), (119, .iinc 4 1, 3), (122, .goto (-91), 3), (125, .iinc 3 1, 3), (128, .goto (-105), 3), (131, .return_, 1)], 2, 13)
/-- EquationProofsModel.conAmount(II)J -/
def mt_210 : am_M := (⟨"EquationProofsModel", "conAmount", "(II)J"⟩, prog_15_method_59_code, 15, (some .long), ([(20, 13, 6), (125, 13, 65), (23, 13, 7)], [], [], [], [], [(489, 212)]), [(0, .aload_n 0, 1), (1, .getfield 20, 3), (4, .iload_n 1, 1), (5, .iaload, 1), (6, .istore_n 3, 1), (7, .iload_n 3, 1), (8, .ifCond .ne 14, 3), (11, .iload_n 2, 1), (12, .iconst 1, 1), (13, .if_icmp .ne 7, 3), (16, .lconst 1, 1), (17, .goto 4, 3), (20, .lconst 0, 1), (21, .lreturn, 1), (22, .lconst 0, 1), (23, .lstore 4, 2), (25, .iconst 1, 1), (26, .istore 6, 2), (28, .iload 6, 2), (30, .iload_n 2, 1), (31, .if_icmp .ge 180, 3), (34, .aload_n 0, 1), (35, .getfield 125, 3), (38, .bipush 8, 2), (40, .aload_n 0, 1), (41, .getfield 23, 3), (44, .iconst 3, 1), (45, .iload_n 1, 1), (46, .imul, 1), (47, .iaload, 1), (48, .imul, 1), (49, .iload 6, 2), (51, .iadd, 1), (52, .laload, 1), (53, .lstore 7, 2), (55, .iload_n 3, 1), (56, .iconst 1, 1), (57, .if_icmp .ne 22, 3), (60, .lload 4, 2), (62, .iload 6, 2), (64, .iload_n 2, 1), (65, .iconst 1, 1), (66, .isub, 1), (67, .if_icmp .ne 8, 3), (70, .lload 7, 2), (72, .goto 4, 3), (75, .lconst 0, 1), (76, .ladd, 1), (77, .lstore 4, 2), (79, .iconst 1, 1), (80, .istore 9, 2), (82, .iload_n 3, 1), (83, .iconst 1, 1), (84, .if_icmp .le 121, 3), (87, .iload 6, 2), (89, .iload 9, 2), (91, .iadd, 1), (92, .iload_n 2, 1), (93, .if_icmp .ge 112, 3), (96, .aload_n 0, 1), (97, .getfield 125, 3), (100, .bipush 8, 2), (102, .aload_n 0, 1), (103, .getfield 23, 3), (106, .iconst 3, 1), (107, .iload_n 1, 1), (108, .imul, 1), (109, .iconst 1, 1), (110, .iadd, 1), (111, .iaload, 1), (112, .imul, 1), (113, .iload 9, 2), (115, .iadd, 1), (116, .laload, 1), (117, .lstore 10, 2), (119, .iload_n 2, 1), (120, .iconst 1, 1), (121, .isub, 1), (122, .iload 6, 2), (124, .isub, 1), (125, .iload 9, 2), (127, .isub, 1), (128, .istore 12, 2), (130, .iload_n 3, 1), (131, .iconst 2, 1), (132, .if_icmp .ne 16, 3), (135, .iload 12, 2), (137, .ifCond .ne 7, 3), (140, .lconst 1, 1), (141, .goto 37, 3), (144, .lconst 0, 1), (145, .goto 33, 3), (148, .iload 12, 2), (150, .ifCond .le 27, 3), (153, .aload_n 0, 1), (154, .getfield 125, 3), (157, .bipush 8, 2), (159, .aload_n 0, 1), (160, .getfield 23, 3), (163, .iconst 3, 1), (164, .iload_n 1, 1), (165, .imul, 1), (166, .iconst 2, 1), (167, .iadd, 1), (168, .iaload, 1), (169, .imul, 1), (170, .iload 12, 2), (172, .iadd, 1), (173, .laload, 1), (174, .goto 4, 3), (177, .lconst 0, 1), (178, .lstore 13, 2), (180, .lload 4, 2), (182, .lload 7, 2), (184, .lload 10, 2), (186, .lmul, 1), (187, .invokestatic 489, 3), (190, .lload 13, 2), (192, .lmul, 1), (193, .ladd, 1), (194, .invokestatic 489, 3), (197, .lstore 4, 2), (199, .iinc 9 1, 3), (202, .goto (-120), 3), (205, .iinc 6 1, 3), (208, .goto (-180), 3), (211, .lload 4, 2), (213, .invokestatic 489, 3), (216, .lreturn, 1)], 2, 13)
/-- EquationProofsModel.addValue(II)V -/
def mt_211 : am_M := (⟨"EquationProofsModel", "addValue", "(II)V"⟩, prog_15_method_60_code, 5, none, ([(122, 13, 64), (119, 13, 63), (116, 13, 62), (99, 13, 52)], [], [], [], [], []), [(0, .aload_n 0, 1), (1, .getfield 122, 3), (4, .iload_n 1, 1), (5, .iaload, 1), (6, .sipush 2001, 3), (9, .if_icmp .ge 67, 3), (12, .sipush 2001, 3), (15, .iload_n 1, 1), (16, .imul, 1), (17, .aload_n 0, 1), (18, .getfield 122, 3), (21, .iload_n 1, 1), (22, .iaload, 1), (23, .iadd, 1), (24, .istore_n 3, 1), (25, .aload_n 0, 1), (26, .getfield 119, 3), (29, .iload_n 3, 1), (30, .iload_n 2, 1), (31, .iastore, 1), (32, .iconst 0, 1), (33, .istore 4, 2), (35, .iload 4, 2), (37, .iload_n 2, 1), (38, .if_icmp .ge 28, 3), (41, .aload_n 0, 1), (42, .getfield 116, 3), (45, .bipush 7, 2), (47, .iload_n 3, 1), (48, .imul, 1), (49, .iload 4, 2), (51, .iadd, 1), (52, .aload_n 0, 1), (53, .getfield 99, 3), (56, .iload 4, 2), (58, .iaload, 1), (59, .iastore, 1), (60, .iinc 4 1, 3), (63, .goto (-28), 3), (66, .aload_n 0, 1), (67, .getfield 122, 3), (70, .iload_n 1, 1), (71, .dup2, 1), (72, .iaload, 1), (73, .iconst 1, 1), (74, .iadd, 1), (75, .iastore, 1), (76, .return_, 1)], 2, 13)
/-- EquationProofsModel.makeValues(IZ)V -/
def mt_212 : am_M := (⟨"EquationProofsModel", "makeValues", "(IZ)V"⟩, prog_15_method_61_code, 6, none, ([(306, 13, 1), (122, 13, 64), (128, 13, 66), (99, 13, 52), (319, 13, 3), (16, 13, 5)], [], [], [], [], [(493, 215), (496, 219)]), [(0, .iconst 0, 1), (1, .istore_n 3, 1), (2, .iload_n 3, 1), (3, .aload_n 0, 1), (4, .getfield 306, 3), (7, .if_icmp .ge 16, 3), (10, .aload_n 0, 1), (11, .getfield 122, 3), (14, .iload_n 3, 1), (15, .iconst 0, 1), (16, .iastore, 1), (17, .iinc 3 1, 3), (20, .goto (-18), 3), (23, .iconst 1, 1), (24, .istore_n 3, 1), (25, .iload_n 3, 1), (26, .iload_n 1, 1), (27, .if_icmp .gt 126, 3), (30, .iconst 0, 1), (31, .istore 4, 2), (33, .iload 4, 2), (35, .aload_n 0, 1), (36, .getfield 306, 3), (39, .if_icmp .ge 28, 3), (42, .aload_n 0, 1), (43, .getfield 128, 3), (46, .bipush 8, 2), (48, .iload 4, 2), (50, .imul, 1), (51, .iload_n 3, 1), (52, .iadd, 1), (53, .aload_n 0, 1), (54, .getfield 122, 3), (57, .iload 4, 2), (59, .iaload, 1), (60, .iastore, 1), (61, .iinc 4 1, 3), (64, .goto (-31), 3), (67, .iconst 0, 1), (68, .istore 4, 2), (70, .iload 4, 2), (72, .aload_n 0, 1), (73, .getfield 306, 3), (76, .if_icmp .ge 71, 3), (79, .iload_n 3, 1), (80, .iconst 1, 1), (81, .if_icmp .ne 21, 3), (84, .iload_n 2, 1), (85, .ifCond .eq 17, 3), (88, .aload_n 0, 1), (89, .getfield 99, 3), (92, .iconst 0, 1), (93, .iconst 0, 1), (94, .iastore, 1), (95, .aload_n 0, 1), (96, .iload 4, 2), (98, .iconst 1, 1), (99, .invokevirtual 493, 3), (102, .iconst 0, 1), (103, .istore 5, 2), (105, .iload 5, 2), (107, .aload_n 0, 1), (108, .getfield 319, 3), (111, .if_icmp .ge 30, 3), (114, .aload_n 0, 1), (115, .getfield 16, 3), (118, .iload 5, 2), (120, .iaload, 1), (121, .iload 4, 2), (123, .if_icmp .ne 12, 3), (126, .aload_n 0, 1), (127, .iload 4, 2), (129, .iload 5, 2), (131, .iload_n 3, 1), (132, .invokevirtual 496, 3), (135, .iinc 5 1, 3), (138, .goto (-33), 3), (141, .iinc 4 1, 3), (144, .goto (-74), 3), (147, .iinc 3 1, 3), (150, .goto (-125), 3), (153, .return_, 1)], 2, 13)
/-- EquationProofsModel.sizeOf(III)I -/
def mt_213 : am_M := (⟨"EquationProofsModel", "sizeOf", "(III)I"⟩, prog_15_method_62_code, 4, (some .int), ([(119, 13, 63), (23, 13, 7)], [], [], [], [], []), [(0, .aload_n 0, 1), (1, .getfield 119, 3), (4, .sipush 2001, 3), (7, .aload_n 0, 1), (8, .getfield 23, 3), (11, .iconst 3, 1), (12, .iload_n 1, 1), (13, .imul, 1), (14, .iload_n 2, 1), (15, .iadd, 1), (16, .iaload, 1), (17, .imul, 1), (18, .iload_n 3, 1), (19, .iadd, 1), (20, .iaload, 1), (21, .ireturn, 1)], 3, 13)
/-- EquationProofsModel.putValue(III)V -/
def mt_214 : am_M := (⟨"EquationProofsModel", "putValue", "(III)V"⟩, prog_15_method_63_code, 6, none, ([(23, 13, 7), (119, 13, 63), (99, 13, 52), (437, 13, 53), (116, 13, 62)], [(437, 13, 53)], [], [], [], []), [(0, .sipush 2001, 3), (3, .aload_n 0, 1), (4, .getfield 23, 3), (7, .iconst 3, 1), (8, .iload_n 1, 1), (9, .imul, 1), (10, .iload_n 2, 1), (11, .iadd, 1), (12, .iaload, 1), (13, .imul, 1), (14, .iload_n 3, 1), (15, .iadd, 1), (16, .istore 4, 2), (18, .iconst 0, 1), (19, .istore 5, 2), (21, .iload 5, 2), (23, .aload_n 0, 1), (24, .getfield 119, 3), (27, .iload 4, 2), (29, .iaload, 1), (30, .if_icmp .ge 41, 3), (33, .aload_n 0, 1), (34, .getfield 99, 3), (37, .aload_n 0, 1), (38, .getfield 437, 3), (41, .aload_n 0, 1), (42, .getfield 116, 3), (45, .bipush 7, 2), (47, .iload 4, 2), (49, .imul, 1), (50, .iload 5, 2), (52, .iadd, 1), (53, .iaload, 1), (54, .iastore, 1), (55, .aload_n 0, 1), (56, .dup, 1), (57, .getfield 437, 3), (60, .iconst 1, 1), (61, .iadd, 1), (62, .putfield 437, 3), (65, .iinc 5 1, 3), (68, .goto (-47), 3), (71, .return_, 1)], 3, 13)
/-- EquationProofsModel.makeCon(III)V -/
def mt_215 : am_M := (⟨"EquationProofsModel", "makeCon", "(III)V"⟩, prog_15_method_64_code, 7, none, ([(20, 13, 6), (99, 13, 52), (128, 13, 66), (23, 13, 7)], [], [], [], [], [(493, 215), (500, 217), (504, 220), (507, 221)]), [(0, .aload_n 0, 1), (1, .getfield 20, 3), (4, .iload_n 2, 1), (5, .iaload, 1), (6, .istore 4, 2), (8, .iload 4, 2), (10, .ifCond .ne 24, 3), (13, .iload_n 3, 1), (14, .iconst 1, 1), (15, .if_icmp .ne 18, 3), (18, .aload_n 0, 1), (19, .getfield 99, 3), (22, .iconst 0, 1), (23, .iconst 1, 1), (24, .iload_n 2, 1), (25, .iadd, 1), (26, .iastore, 1), (27, .aload_n 0, 1), (28, .iload_n 1, 1), (29, .iconst 1, 1), (30, .invokevirtual 493, 3), (33, .return_, 1), (34, .aload_n 0, 1), (35, .getfield 128, 3), (38, .bipush 8, 2), (40, .aload_n 0, 1), (41, .getfield 23, 3), (44, .iconst 3, 1), (45, .iload_n 2, 1), (46, .imul, 1), (47, .iaload, 1), (48, .imul, 1), (49, .iload_n 3, 1), (50, .iadd, 1), (51, .iaload, 1), (52, .istore 5, 2), (54, .iconst 0, 1), (55, .istore 6, 2), (57, .iload 6, 2), (59, .iload 5, 2), (61, .if_icmp .ge 69, 3), (64, .aload_n 0, 1), (65, .iload_n 2, 1), (66, .iconst 0, 1), (67, .iload 6, 2), (69, .invokevirtual 500, 3), (72, .iload 4, 2), (74, .iadd, 1), (75, .iload_n 3, 1), (76, .if_icmp .gt 54, 3), (79, .iload 4, 2), (81, .iconst 1, 1), (82, .if_icmp .ne 33, 3), (85, .aload_n 0, 1), (86, .iload_n 2, 1), (87, .iconst 0, 1), (88, .iload 6, 2), (90, .invokevirtual 500, 3), (93, .iload_n 3, 1), (94, .iconst 1, 1), (95, .isub, 1), (96, .if_icmp .ne 28, 3), (99, .aload_n 0, 1), (100, .iload_n 2, 1), (101, .iload 6, 2), (103, .invokevirtual 504, 3), (106, .aload_n 0, 1), (107, .iload_n 1, 1), (108, .iload_n 3, 1), (109, .invokevirtual 493, 3), (112, .goto 12, 3), (115, .aload_n 0, 1), (116, .iload_n 1, 1), (117, .iload_n 2, 1), (118, .iload_n 3, 1), (119, .iload 6, 2), (121, .invokevirtual 507, 3), (124, .iinc 6 1, 3), (127, .goto (-70), 3), (130, .return_, 1)], 3, 13)
/-- EquationProofsModel.begun(II)V -/
def mt_216 : am_M := (⟨"EquationProofsModel", "begun", "(II)V"⟩, prog_15_method_65_code, 3, none, ([(99, 13, 52)], [(437, 13, 53)], [], [], [], [(511, 218)]), [(0, .aload_n 0, 1), (1, .getfield 99, 3), (4, .iconst 0, 1), (5, .iconst 1, 1), (6, .iload_n 1, 1), (7, .iadd, 1), (8, .iastore, 1), (9, .aload_n 0, 1), (10, .iconst 1, 1), (11, .putfield 437, 3), (14, .aload_n 0, 1), (15, .iload_n 1, 1), (16, .iconst 0, 1), (17, .iload_n 2, 1), (18, .invokevirtual 511, 3), (21, .return_, 1)], 2, 13)
/-- EquationProofsModel.makeTwo(IIII)V -/
def mt_217 : am_M := (⟨"EquationProofsModel", "makeTwo", "(IIII)V"⟩, prog_15_method_66_code, 12, none, ([(20, 13, 6), (128, 13, 66), (23, 13, 7)], [], [], [], [], [(500, 217), (504, 220), (511, 218), (493, 215)]), [(0, .aload_n 0, 1), (1, .getfield 20, 3), (4, .iload_n 2, 1), (5, .iaload, 1), (6, .istore 5, 2), (8, .iconst 1, 1), (9, .aload_n 0, 1), (10, .iload_n 2, 1), (11, .iconst 0, 1), (12, .iload 4, 2), (14, .invokevirtual 500, 3), (17, .iadd, 1), (18, .istore 6, 2), (20, .aload_n 0, 1), (21, .getfield 128, 3), (24, .bipush 8, 2), (26, .aload_n 0, 1), (27, .getfield 23, 3), (30, .iconst 3, 1), (31, .iload_n 2, 1), (32, .imul, 1), (33, .iconst 1, 1), (34, .iadd, 1), (35, .iaload, 1), (36, .imul, 1), (37, .iload_n 3, 1), (38, .iadd, 1), (39, .iaload, 1), (40, .istore 7, 2), (42, .iconst 0, 1), (43, .istore 8, 2), (45, .iload 8, 2), (47, .iload 7, 2), (49, .if_icmp .ge 175, 3), (52, .iload 6, 2), (54, .aload_n 0, 1), (55, .iload_n 2, 1), (56, .iconst 1, 1), (57, .iload 8, 2), (59, .invokevirtual 500, 3), (62, .iadd, 1), (63, .iload 5, 2), (65, .iadd, 1), (66, .iconst 2, 1), (67, .isub, 1), (68, .iload_n 3, 1), (69, .if_icmp .gt 155, 3), (72, .iload 6, 2), (74, .aload_n 0, 1), (75, .iload_n 2, 1), (76, .iconst 1, 1), (77, .iload 8, 2), (79, .invokevirtual 500, 3), (82, .iadd, 1), (83, .istore 9, 2), (85, .iload 5, 2), (87, .iconst 2, 1), (88, .if_icmp .ne 33, 3), (91, .iload 9, 2), (93, .iload_n 3, 1), (94, .if_icmp .ne 124, 3), (97, .aload_n 0, 1), (98, .iload_n 2, 1), (99, .iload 4, 2), (101, .invokevirtual 504, 3), (104, .aload_n 0, 1), (105, .iload_n 2, 1), (106, .iconst 1, 1), (107, .iload 8, 2), (109, .invokevirtual 511, 3), (112, .aload_n 0, 1), (113, .iload_n 1, 1), (114, .iload_n 3, 1), (115, .invokevirtual 493, 3), (118, .goto 100, 3), (121, .aload_n 0, 1), (122, .getfield 128, 3), (125, .bipush 8, 2), (127, .aload_n 0, 1), (128, .getfield 23, 3), (131, .iconst 3, 1), (132, .iload_n 2, 1), (133, .imul, 1), (134, .iconst 2, 1), (135, .iadd, 1), (136, .iaload, 1), (137, .imul, 1), (138, .iload_n 3, 1), (139, .iadd, 1), (140, .iaload, 1), (141, .istore 10, 2), (143, .iconst 0, 1), (144, .istore 11, 2), (146, .iload 11, 2), (148, .iload 10, 2), (150, .if_icmp .ge 68, 3), (153, .iload 9, 2), (155, .aload_n 0, 1), (156, .iload_n 2, 1), (157, .iconst 2, 1), (158, .iload 11, 2), (160, .invokevirtual 500, 3), (163, .iadd, 1), (164, .iload_n 3, 1), (165, .if_icmp .gt 53, 3), (168, .iload 9, 2), (170, .aload_n 0, 1), (171, .iload_n 2, 1), (172, .iconst 2, 1), (173, .iload 11, 2), (175, .invokevirtual 500, 3), (178, .iadd, 1), (179, .iload_n 3, 1), (180, .if_icmp .ne 32, 3), (183, .aload_n 0, 1), (184, .iload_n 2, 1), (185, .iload 4, 2), (187, .invokevirtual 504, 3), (190, .aload_n 0, 1), (191, .iload_n 2, 1), (192, .iconst 1, 1), (193, .iload 8, 2), (195, .invokevirtual 511, 3), (198, .aload_n 0, 1), (199, .iload_n 2, 1), (200, .iconst 2, 1), (201, .iload 11, 2), (203, .invokevirtual 511, 3), (206, .aload_n 0, 1), (207, .iload_n 1, 1), (208, .iload_n 3, 1), (209, .invokevirtual 493, 3), (212, .iinc 11 1, 3), (215, .goto (-69), 3), (218, .iinc 8 1, 3), (221, .goto (-176), 3), (224, .return_, 1)], 4, 13)
/-- EquationProofsModel.test(IIZ)I -/
def mt_218 : am_M := (⟨"EquationProofsModel", "test", "(IIZ)I"⟩, prog_15_method_67_code, 13, (some .int), ([(387, 13, 19), (65, 13, 24), (125, 13, 65), (68, 13, 25), (141, 13, 70), (119, 13, 63), (138, 13, 69), (116, 13, 62), (122, 13, 64)], [(131, 13, 67)], [], [], [(517, .long 2000)], [(514, 213), (489, 212), (519, 216), (522, 223)]), [(0, .iload_n 1, 1), (1, .ifCond .lt 11, 3), (4, .iload_n 1, 1), (5, .aload_n 0, 1), (6, .getfield 387, 3), (9, .if_icmp .lt 6, 3), (12, .bipush (-101), 2), (14, .ireturn, 1), (15, .iload_n 2, 1), (16, .iconst 1, 1), (17, .if_icmp .lt 9, 3), (20, .iload_n 2, 1), (21, .bipush 6, 2), (23, .if_icmp .le 6, 3), (26, .bipush (-102), 2), (28, .ireturn, 1), (29, .aload_n 0, 1), (30, .iload_n 2, 1), (31, .iload_n 3, 1), (32, .invokevirtual 514, 3), (35, .lconst 1, 1), (36, .lstore 4, 2), (38, .iconst 0, 1), (39, .istore 6, 2), (41, .iconst 0, 1), (42, .istore 7, 2), (44, .iload 7, 2), (46, .aload_n 0, 1), (47, .getfield 65, 3), (50, .iload_n 1, 1), (51, .iaload, 1), (52, .if_icmp .ge 85, 3), (55, .lconst 0, 1), (56, .lstore 8, 2), (58, .iconst 1, 1), (59, .istore 10, 2), (61, .iload 10, 2), (63, .iload_n 2, 1), (64, .if_icmp .gt 40, 3), (67, .lload 8, 2), (69, .aload_n 0, 1), (70, .getfield 125, 3), (73, .bipush 8, 2), (75, .aload_n 0, 1), (76, .getfield 68, 3), (79, .bipush 6, 2), (81, .iload_n 1, 1), (82, .imul, 1), (83, .iload 7, 2), (85, .iadd, 1), (86, .iaload, 1), (87, .imul, 1), (88, .iload 10, 2), (90, .iadd, 1), (91, .laload, 1), (92, .ladd, 1), (93, .invokestatic 489, 3), (96, .lstore 8, 2), (98, .iinc 10 1, 3), (101, .goto (-40), 3), (104, .iload 6, 2), (106, .lload 8, 2), (108, .lconst 0, 1), (109, .lcmp, 1), (110, .ifCond .ne 7, 3), (113, .iconst 1, 1), (114, .goto 4, 3), (117, .iconst 0, 1), (118, .ior, 1), (119, .istore 6, 2), (121, .lload 4, 2), (123, .lload 8, 2), (125, .lmul, 1), (126, .invokestatic 489, 3), (129, .lstore 4, 2), (131, .iinc 7 1, 3), (134, .goto (-90), 3), (137, .iload 6, 2), (139, .ifCond .eq 5, 3), (142, .iconst 0, 1), (143, .ireturn, 1), (144, .lload 4, 2), (146, .ldc2_w 517, 3), (149, .lcmp, 1), (150, .ifCond .le 6, 3), (153, .bipush (-105), 2), (155, .ireturn, 1), (156, .aload_n 0, 1), (157, .iload_n 2, 1), (158, .iload_n 3, 1), (159, .invokevirtual 519, 3), (162, .iconst 0, 1), (163, .istore 7, 2), (165, .iload 7, 2), (167, .bipush 6, 2), (169, .if_icmp .ge 17, 3), (172, .aload_n 0, 1), (173, .getfield 141, 3), (176, .iload 7, 2), (178, .iconst 0, 1), (179, .iastore, 1), (180, .iinc 7 1, 3), (183, .goto (-18), 3), (186, .iconst 1, 1), (187, .istore 7, 2), (189, .iconst 0, 1), (190, .istore 8, 2), (192, .iload 8, 2), (194, .i2l, 1), (195, .lload 4, 2), (197, .lcmp, 1), (198, .ifCond .ge 207, 3), (201, .aload_n 0, 1), (202, .iload_n 1, 1), (203, .invokevirtual 522, 3), (206, .istore 9, 2), (208, .iload 9, 2), (210, .iconst 1, 1), (211, .if_icmp .ne 103, 3), (214, .aload_n 0, 1), (215, .iload_n 1, 1), (216, .putfield 131, 3), (219, .iconst 0, 1), (220, .istore 10, 2), (222, .iload 10, 2), (224, .aload_n 0, 1), (225, .getfield 65, 3), (228, .iload_n 1, 1), (229, .iaload, 1), (230, .if_icmp .ge 82, 3), (233, .sipush 2001, 3), (236, .aload_n 0, 1), (237, .getfield 68, 3), (240, .bipush 6, 2), (242, .iload_n 1, 1), (243, .imul, 1), (244, .iload 10, 2), (246, .iadd, 1), (247, .iaload, 1), (248, .imul, 1), (249, .aload_n 0, 1), (250, .getfield 141, 3), (253, .iload 10, 2), (255, .iaload, 1), (256, .iadd, 1), (257, .istore 11, 2), (259, .iconst 0, 1), (260, .istore 12, 2), (262, .iload 12, 2), (264, .aload_n 0, 1), (265, .getfield 119, 3), (268, .iload 11, 2), (270, .iaload, 1), (271, .if_icmp .ge 35, 3), (274, .aload_n 0, 1), (275, .getfield 138, 3), (278, .bipush 7, 2), (280, .iload 10, 2), (282, .imul, 1), (283, .iload 12, 2), (285, .iadd, 1), (286, .aload_n 0, 1), (287, .getfield 116, 3), (290, .bipush 7, 2), (292, .iload 11, 2), (294, .imul, 1), (295, .iload 12, 2), (297, .iadd, 1), (298, .iaload, 1), (299, .iastore, 1), (300, .iinc 12 1, 3), (303, .goto (-41), 3), (306, .iinc 10 1, 3), (309, .goto (-87), 3), (312, .iconst 1, 1), (313, .ireturn, 1), (314, .iload 7, 2), (316, .iload 9, 2), (318, .ifCond .ne 7, 3), (321, .iconst 1, 1), (322, .goto 4, 3), (325, .iconst 0, 1), (326, .iand, 1), (327, .istore 7, 2), (329, .aload_n 0, 1), (330, .getfield 65, 3), (333, .iload_n 1, 1), (334, .iaload, 1), (335, .iconst 1, 1), (336, .isub, 1), (337, .istore 10, 2), (339, .iload 10, 2), (341, .ifCond .lt 58, 3), (344, .aload_n 0, 1), (345, .getfield 141, 3), (348, .iload 10, 2), (350, .dup2, 1), (351, .iaload, 1), (352, .iconst 1, 1), (353, .iadd, 1), (354, .iastore, 1), (355, .aload_n 0, 1), (356, .getfield 141, 3), (359, .iload 10, 2), (361, .iaload, 1), (362, .aload_n 0, 1), (363, .getfield 122, 3), (366, .aload_n 0, 1), (367, .getfield 68, 3), (370, .bipush 6, 2), (372, .iload_n 1, 1), (373, .imul, 1), (374, .iload 10, 2), (376, .iadd, 1), (377, .iaload, 1), (378, .iaload, 1), (379, .if_icmp .ge 6, 3), (382, .goto 17, 3), (385, .aload_n 0, 1), (386, .getfield 141, 3), (389, .iload 10, 2), (391, .iconst 0, 1), (392, .iastore, 1), (393, .iinc 10 (-1), 3), (396, .goto (-57), 3), (399, .iinc 8 1, 3), (402, .goto (-210), 3), (405, .iload 7, 2), (407, .ifCond .eq 7, 3), (410, .iconst 0, 1), (411, .goto 4, 3), (414, .iconst 2, 1), (415, .ireturn, 1)], 3, 13)
/-- EquationProofsModel.row(I)I -/
def mt_219 : am_M := (⟨"EquationProofsModel", "row", "(I)I"⟩, prog_15_method_68_code, 9, (some .int), ([(59, 13, 22), (56, 13, 21), (68, 13, 25), (141, 13, 70), (119, 13, 63), (99, 13, 52), (437, 13, 53), (116, 13, 62), (102, 13, 54), (447, 13, 55), (144, 13, 71), (525, 13, 72)], [(437, 13, 53), (447, 13, 55), (525, 13, 72)], [], [], [], [(460, 204)]), [(0, .iconst 1, 1), (1, .istore_n 2, 1), (2, .iconst 0, 1), (3, .istore_n 3, 1), (4, .iload_n 3, 1), (5, .iconst 2, 1), (6, .if_icmp .ge 277, 3), (9, .aload_n 0, 1), (10, .iconst 0, 1), (11, .putfield 437, 3), (14, .iconst 0, 1), (15, .istore 4, 2), (17, .iload 4, 2), (19, .aload_n 0, 1), (20, .getfield 59, 3), (23, .iconst 2, 1), (24, .iload_n 1, 1), (25, .imul, 1), (26, .iload_n 3, 1), (27, .iadd, 1), (28, .iaload, 1), (29, .if_icmp .ge 146, 3), (32, .aload_n 0, 1), (33, .getfield 56, 3), (36, .bipush 48, 2), (38, .iconst 2, 1), (39, .iload_n 1, 1), (40, .imul, 1), (41, .iload_n 3, 1), (42, .iadd, 1), (43, .imul, 1), (44, .iload 4, 2), (46, .iadd, 1), (47, .iaload, 1), (48, .istore 5, 2), (50, .iload 5, 2), (52, .sipush 1000, 3), (55, .if_icmp .lt 93, 3), (58, .iload 5, 2), (60, .sipush 1000, 3), (63, .isub, 1), (64, .istore 6, 2), (66, .sipush 2001, 3), (69, .aload_n 0, 1), (70, .getfield 68, 3), (73, .bipush 6, 2), (75, .iload_n 1, 1), (76, .imul, 1), (77, .iload 6, 2), (79, .iadd, 1), (80, .iaload, 1), (81, .imul, 1), (82, .aload_n 0, 1), (83, .getfield 141, 3), (86, .iload 6, 2), (88, .iaload, 1), (89, .iadd, 1), (90, .istore 7, 2), (92, .iconst 0, 1), (93, .istore 8, 2), (95, .iload 8, 2), (97, .aload_n 0, 1), (98, .getfield 119, 3), (101, .iload 7, 2), (103, .iaload, 1), (104, .if_icmp .ge 41, 3), (107, .aload_n 0, 1), (108, .getfield 99, 3), (111, .aload_n 0, 1), (112, .getfield 437, 3), (115, .aload_n 0, 1), (116, .getfield 116, 3), (119, .bipush 7, 2), (121, .iload 7, 2), (123, .imul, 1), (124, .iload 8, 2), (126, .iadd, 1), (127, .iaload, 1), (128, .iastore, 1), (129, .aload_n 0, 1), (130, .dup, 1), (131, .getfield 437, 3), (134, .iconst 1, 1), (135, .iadd, 1), (136, .putfield 437, 3), (139, .iinc 8 1, 3), (142, .goto (-47), 3), (145, .goto 24, 3), (148, .aload_n 0, 1), (149, .getfield 99, 3), (152, .aload_n 0, 1), (153, .getfield 437, 3), (156, .iload 5, 2), (158, .iastore, 1), (159, .aload_n 0, 1), (160, .dup, 1), (161, .getfield 437, 3), (164, .iconst 1, 1), (165, .iadd, 1), (166, .putfield 437, 3), (169, .iinc 4 1, 3), (172, .goto (-155), 3), (175, .aload_n 0, 1), (176, .aload_n 0, 1), (177, .getfield 437, 3), (180, .putfield 447, 3), (183, .iconst 0, 1), (184, .istore 4, 2), (186, .iload 4, 2), (188, .aload_n 0, 1), (189, .getfield 437, 3), (192, .if_icmp .ge 23, 3), (195, .aload_n 0, 1), (196, .getfield 102, 3), (199, .iload 4, 2), (201, .aload_n 0, 1), (202, .getfield 99, 3), (205, .iload 4, 2), (207, .iaload, 1), (208, .iastore, 1), (209, .iinc 4 1, 3), (212, .goto (-26), 3), (215, .iload_n 2, 1), (216, .aload_n 0, 1), (217, .sipush 300, 3), (220, .invokevirtual 460, 3), (223, .ifCond .ne 7, 3), (226, .iconst 1, 1), (227, .goto 4, 3), (230, .iconst 0, 1), (231, .iand, 1), (232, .istore_n 2, 1), (233, .iload_n 3, 1), (234, .ifCond .ne 43, 3), (237, .aload_n 0, 1), (238, .aload_n 0, 1), (239, .getfield 447, 3), (242, .putfield 525, 3), (245, .iconst 0, 1), (246, .istore 4, 2), (248, .iload 4, 2), (250, .aload_n 0, 1), (251, .getfield 447, 3), (254, .if_icmp .ge 23, 3), (257, .aload_n 0, 1), (258, .getfield 144, 3), (261, .iload 4, 2), (263, .aload_n 0, 1), (264, .getfield 102, 3), (267, .iload 4, 2), (269, .iaload, 1), (270, .iastore, 1), (271, .iinc 4 1, 3), (274, .goto (-26), 3), (277, .iinc 3 1, 3), (280, .goto (-276), 3), (283, .iload_n 2, 1), (284, .ifCond .ne 5, 3), (287, .iconst 2, 1), (288, .ireturn, 1), (289, .aload_n 0, 1), (290, .getfield 447, 3), (293, .aload_n 0, 1), (294, .getfield 525, 3), (297, .if_icmp .ne 7, 3), (300, .iconst 1, 1), (301, .goto 4, 3), (304, .iconst 0, 1), (305, .istore_n 3, 1), (306, .iconst 0, 1), (307, .istore 4, 2), (309, .iload 4, 2), (311, .aload_n 0, 1), (312, .getfield 447, 3), (315, .if_icmp .ge 36, 3), (318, .iload_n 3, 1), (319, .ifCond .eq 32, 3), (322, .aload_n 0, 1), (323, .getfield 102, 3), (326, .iload 4, 2), (328, .iaload, 1), (329, .aload_n 0, 1), (330, .getfield 144, 3), (333, .iload 4, 2), (335, .iaload, 1), (336, .if_icmp .ne 7, 3), (339, .iconst 1, 1), (340, .goto 4, 3), (343, .iconst 0, 1), (344, .istore_n 3, 1), (345, .iinc 4 1, 3), (348, .goto (-39), 3), (351, .iload_n 3, 1), (352, .ifCond .eq 7, 3), (355, .iconst 0, 1), (356, .goto 4, 3), (359, .iconst 1, 1), (360, .ireturn, 1)], 1, 13)
/-- EquationProofsModel.told(I)I -/
def mt_220 : am_M := (⟨"EquationProofsModel", "told", "(I)I"⟩, prog_15_method_69_code, 3, (some .int), ([(131, 13, 67), (65, 13, 24), (147, 13, 73), (138, 13, 69), (470, 13, 59)], [], [], [], [], [(466, 210)]), [(0, .aload_n 0, 1), (1, .getfield 131, 3), (4, .iconst (-1), 1), (5, .if_icmp .ne 6, 3), (8, .bipush (-103), 2), (10, .ireturn, 1), (11, .iload_n 1, 1), (12, .ifCond .lt 16, 3), (15, .iload_n 1, 1), (16, .aload_n 0, 1), (17, .getfield 65, 3), (20, .aload_n 0, 1), (21, .getfield 131, 3), (24, .iaload, 1), (25, .if_icmp .lt 6, 3), (28, .bipush (-101), 2), (30, .ireturn, 1), (31, .iconst 0, 1), (32, .istore_n 2, 1), (33, .iload_n 2, 1), (34, .bipush 7, 2), (36, .if_icmp .ge 26, 3), (39, .aload_n 0, 1), (40, .getfield 147, 3), (43, .iload_n 2, 1), (44, .aload_n 0, 1), (45, .getfield 138, 3), (48, .bipush 7, 2), (50, .iload_n 1, 1), (51, .imul, 1), (52, .iload_n 2, 1), (53, .iadd, 1), (54, .iaload, 1), (55, .iastore, 1), (56, .iinc 2 1, 3), (59, .goto (-26), 3), (62, .aload_n 0, 1), (63, .aload_n 0, 1), (64, .getfield 147, 3), (67, .iconst 0, 1), (68, .invokevirtual 466, 3), (71, .aload_n 0, 1), (72, .getfield 470, 3), (75, .ireturn, 1)], 1, 13)
/-- EquationProofsModel.sideAt(II)I -/
def mt_221 : am_M := (⟨"EquationProofsModel", "sideAt", "(II)I"⟩, prog_15_method_70_code, 3, (some .int), ([], [], [], [], [], []), [(0, .bipush 64, 2), (2, .iconst 2, 1), (3, .iload_n 1, 1), (4, .imul, 1), (5, .iload_n 2, 1), (6, .iadd, 1), (7, .imul, 1), (8, .ireturn, 1)], 2, 13)
/-- EquationProofsModel.hypAt(III)I -/
def mt_222 : am_M := (⟨"EquationProofsModel", "hypAt", "(III)I"⟩, prog_15_method_71_code, 4, (some .int), ([], [], [], [], [], []), [(0, .bipush 64, 2), (2, .iconst 2, 1), (3, .bipush 8, 2), (5, .iload_n 1, 1), (6, .imul, 1), (7, .iload_n 2, 1), (8, .iadd, 1), (9, .imul, 1), (10, .iload_n 3, 1), (11, .iadd, 1), (12, .imul, 1), (13, .ireturn, 1)], 3, 13)
/-- EquationProofsModel.tellHyps()V -/
def mt_223 : am_M := (⟨"EquationProofsModel", "tellHyps", "()V"⟩, prog_15_method_72_code, 1, none, ([(174, 13, 85), (414, 13, 77), (177, 13, 86), (153, 13, 78)], [], [], [], [], []), [(0, .aload_n 0, 1), (1, .getfield 174, 3), (4, .iconst 0, 1), (5, .aload_n 0, 1), (6, .getfield 414, 3), (9, .ifCond .le 17, 3), (12, .aload_n 0, 1), (13, .getfield 177, 3), (16, .aload_n 0, 1), (17, .getfield 153, 3), (20, .iconst 0, 1), (21, .iaload, 1), (22, .iaload, 1), (23, .goto 4, 3), (26, .iconst 0, 1), (27, .iastore, 1), (28, .return_, 1)], 0, 13)
/-- EquationProofsModel.free()I -/
def mt_224 : am_M := (⟨"EquationProofsModel", "free", "()I"⟩, prog_15_method_73_code, 2, (some .int), ([(156, 13, 79)], [], [], [], [], []), [(0, .iconst 0, 1), (1, .istore_n 1, 1), (2, .aload_n 0, 1), (3, .getfield 156, 3), (6, .iload_n 1, 1), (7, .baload, 1), (8, .ifCond .eq 9, 3), (11, .iinc 1 1, 3), (14, .goto (-12), 3), (17, .aload_n 0, 1), (18, .getfield 156, 3), (21, .iload_n 1, 1), (22, .iconst 1, 1), (23, .bastore, 1), (24, .iload_n 1, 1), (25, .ireturn, 1)], 0, 13)
/-- EquationProofsModel.copyGoal(II)V -/
def mt_225 : am_M := (⟨"EquationProofsModel", "copyGoal", "(II)V"⟩, prog_15_method_74_code, 5, none, ([(162, 13, 81), (159, 13, 80), (165, 13, 82), (168, 13, 83), (171, 13, 84)], [], [], [], [], [(528, 225), (531, 230)]), [(0, .iconst 0, 1), (1, .istore_n 3, 1), (2, .iload_n 3, 1), (3, .iconst 2, 1), (4, .if_icmp .ge 81, 3), (7, .iconst 0, 1), (8, .istore 4, 2), (10, .iload 4, 2), (12, .aload_n 0, 1), (13, .getfield 162, 3), (16, .iconst 2, 1), (17, .iload_n 1, 1), (18, .imul, 1), (19, .iload_n 3, 1), (20, .iadd, 1), (21, .iaload, 1), (22, .if_icmp .ge 37, 3), (25, .aload_n 0, 1), (26, .getfield 159, 3), (29, .aload_n 0, 1), (30, .iload_n 2, 1), (31, .iload_n 3, 1), (32, .invokevirtual 528, 3), (35, .iload 4, 2), (37, .iadd, 1), (38, .aload_n 0, 1), (39, .getfield 159, 3), (42, .aload_n 0, 1), (43, .iload_n 1, 1), (44, .iload_n 3, 1), (45, .invokevirtual 528, 3), (48, .iload 4, 2), (50, .iadd, 1), (51, .iaload, 1), (52, .iastore, 1), (53, .iinc 4 1, 3), (56, .goto (-46), 3), (59, .aload_n 0, 1), (60, .getfield 162, 3), (63, .iconst 2, 1), (64, .iload_n 2, 1), (65, .imul, 1), (66, .iload_n 3, 1), (67, .iadd, 1), (68, .aload_n 0, 1), (69, .getfield 162, 3), (72, .iconst 2, 1), (73, .iload_n 1, 1), (74, .imul, 1), (75, .iload_n 3, 1), (76, .iadd, 1), (77, .iaload, 1), (78, .iastore, 1), (79, .iinc 3 1, 3), (82, .goto (-80), 3), (85, .aload_n 0, 1), (86, .getfield 165, 3), (89, .iload_n 2, 1), (90, .aload_n 0, 1), (91, .getfield 165, 3), (94, .iload_n 1, 1), (95, .iaload, 1), (96, .iastore, 1), (97, .aload_n 0, 1), (98, .getfield 168, 3), (101, .iload_n 2, 1), (102, .aload_n 0, 1), (103, .getfield 168, 3), (106, .iload_n 1, 1), (107, .laload, 1), (108, .lastore, 1), (109, .aload_n 0, 1), (110, .getfield 171, 3), (113, .iload_n 2, 1), (114, .aload_n 0, 1), (115, .getfield 171, 3), (118, .iload_n 1, 1), (119, .iaload, 1), (120, .iastore, 1), (121, .aload_n 0, 1), (122, .iload_n 1, 1), (123, .iload_n 2, 1), (124, .invokevirtual 531, 3), (127, .return_, 1)], 2, 13)
/-- EquationProofsModel.copyHyps(II)V -/
def mt_226 : am_M := (⟨"EquationProofsModel", "copyHyps", "(II)V"⟩, prog_15_method_75_code, 7, none, ([(177, 13, 86), (184, 13, 88), (181, 13, 87)], [], [], [], [], []), [(0, .aload_n 0, 1), (1, .getfield 177, 3), (4, .iload_n 2, 1), (5, .aload_n 0, 1), (6, .getfield 177, 3), (9, .iload_n 1, 1), (10, .iaload, 1), (11, .iastore, 1), (12, .iconst 0, 1), (13, .istore_n 3, 1), (14, .iload_n 3, 1), (15, .iconst 2, 1), (16, .aload_n 0, 1), (17, .getfield 177, 3), (20, .iload_n 1, 1), (21, .iaload, 1), (22, .imul, 1), (23, .if_icmp .ge 86, 3), (26, .bipush 16, 2), (28, .iload_n 1, 1), (29, .imul, 1), (30, .iload_n 3, 1), (31, .iadd, 1), (32, .istore 4, 2), (34, .bipush 16, 2), (36, .iload_n 2, 1), (37, .imul, 1), (38, .iload_n 3, 1), (39, .iadd, 1), (40, .istore 5, 2), (42, .aload_n 0, 1), (43, .getfield 184, 3), (46, .iload 5, 2), (48, .aload_n 0, 1), (49, .getfield 184, 3), (52, .iload 4, 2), (54, .iaload, 1), (55, .iastore, 1), (56, .iconst 0, 1), (57, .istore 6, 2), (59, .iload 6, 2), (61, .aload_n 0, 1), (62, .getfield 184, 3), (65, .iload 4, 2), (67, .iaload, 1), (68, .if_icmp .ge 35, 3), (71, .aload_n 0, 1), (72, .getfield 181, 3), (75, .bipush 64, 2), (77, .iload 5, 2), (79, .imul, 1), (80, .iload 6, 2), (82, .iadd, 1), (83, .aload_n 0, 1), (84, .getfield 181, 3), (87, .bipush 64, 2), (89, .iload 4, 2), (91, .imul, 1), (92, .iload 6, 2), (94, .iadd, 1), (95, .iaload, 1), (96, .iastore, 1), (97, .iinc 6 1, 3), (100, .goto (-41), 3), (103, .iinc 3 1, 3), (106, .goto (-92), 3), (109, .return_, 1)], 2, 13)
/-- EquationProofsModel.begin(IZ)I -/
def mt_227 : am_M := (⟨"EquationProofsModel", "begin", "(IZ)I"⟩, prog_15_method_76_code, 6, (some .int), ([(387, 13, 19), (156, 13, 79), (153, 13, 78), (162, 13, 81), (59, 13, 22), (159, 13, 80), (56, 13, 21), (165, 13, 82), (62, 13, 23), (168, 13, 83), (171, 13, 84), (177, 13, 86), (65, 13, 24), (541, 13, 89), (187, 13, 90), (68, 13, 25), (190, 13, 91)], [(150, 13, 74), (534, 13, 75), (417, 13, 76), (414, 13, 77), (541, 13, 89)], [], [], [], [(538, 228), (528, 225), (544, 227)]), [(0, .iload_n 1, 1), (1, .ifCond .lt 11, 3), (4, .iload_n 1, 1), (5, .aload_n 0, 1), (6, .getfield 387, 3), (9, .if_icmp .lt 6, 3), (12, .bipush (-101), 2), (14, .ireturn, 1), (15, .aload_n 0, 1), (16, .iload_n 1, 1), (17, .putfield 150, 3), (20, .aload_n 0, 1), (21, .iload_n 2, 1), (22, .putfield 534, 3), (25, .aload_n 0, 1), (26, .iconst 0, 1), (27, .putfield 417, 3), (30, .iconst 0, 1), (31, .istore_n 3, 1), (32, .iload_n 3, 1), (33, .bipush 40, 2), (35, .if_icmp .ge 16, 3), (38, .aload_n 0, 1), (39, .getfield 156, 3), (42, .iload_n 3, 1), (43, .iconst 0, 1), (44, .bastore, 1), (45, .iinc 3 1, 3), (48, .goto (-16), 3), (51, .aload_n 0, 1), (52, .invokevirtual 538, 3), (55, .istore_n 3, 1), (56, .aload_n 0, 1), (57, .getfield 153, 3), (60, .iconst 0, 1), (61, .iload_n 3, 1), (62, .iastore, 1), (63, .aload_n 0, 1), (64, .iconst 1, 1), (65, .putfield 414, 3), (68, .iconst 0, 1), (69, .istore 4, 2), (71, .iload 4, 2), (73, .iconst 2, 1), (74, .if_icmp .ge 88, 3), (77, .aload_n 0, 1), (78, .getfield 162, 3), (81, .iconst 2, 1), (82, .iload_n 3, 1), (83, .imul, 1), (84, .iload 4, 2), (86, .iadd, 1), (87, .aload_n 0, 1), (88, .getfield 59, 3), (91, .iconst 2, 1), (92, .iload_n 1, 1), (93, .imul, 1), (94, .iload 4, 2), (96, .iadd, 1), (97, .iaload, 1), (98, .iastore, 1), (99, .iconst 0, 1), (100, .istore 5, 2), (102, .iload 5, 2), (104, .aload_n 0, 1), (105, .getfield 59, 3), (108, .iconst 2, 1), (109, .iload_n 1, 1), (110, .imul, 1), (111, .iload 4, 2), (113, .iadd, 1), (114, .iaload, 1), (115, .if_icmp .ge 41, 3), (118, .aload_n 0, 1), (119, .getfield 159, 3), (122, .aload_n 0, 1), (123, .iload_n 3, 1), (124, .iload 4, 2), (126, .invokevirtual 528, 3), (129, .iload 5, 2), (131, .iadd, 1), (132, .aload_n 0, 1), (133, .getfield 56, 3), (136, .bipush 48, 2), (138, .iconst 2, 1), (139, .iload_n 1, 1), (140, .imul, 1), (141, .iload 4, 2), (143, .iadd, 1), (144, .imul, 1), (145, .iload 5, 2), (147, .iadd, 1), (148, .iaload, 1), (149, .iastore, 1), (150, .iinc 5 1, 3), (153, .goto (-51), 3), (156, .iinc 4 1, 3), (159, .goto (-88), 3), (162, .aload_n 0, 1), (163, .getfield 165, 3), (166, .iload_n 3, 1), (167, .aload_n 0, 1), (168, .getfield 62, 3), (171, .iload_n 1, 1), (172, .iaload, 1), (173, .iastore, 1), (174, .aload_n 0, 1), (175, .getfield 168, 3), (178, .iload_n 3, 1), (179, .lconst 0, 1), (180, .lastore, 1), (181, .aload_n 0, 1), (182, .getfield 171, 3), (185, .iload_n 3, 1), (186, .iconst 0, 1), (187, .iastore, 1), (188, .aload_n 0, 1), (189, .getfield 177, 3), (192, .iload_n 3, 1), (193, .iconst 0, 1), (194, .iastore, 1), (195, .aload_n 0, 1), (196, .aload_n 0, 1), (197, .getfield 65, 3), (200, .iload_n 1, 1), (201, .iaload, 1), (202, .putfield 541, 3), (205, .iconst 0, 1), (206, .istore 4, 2), (208, .iload 4, 2), (210, .aload_n 0, 1), (211, .getfield 541, 3), (214, .if_icmp .ge 44, 3), (217, .aload_n 0, 1), (218, .getfield 187, 3), (221, .iload 4, 2), (223, .aload_n 0, 1), (224, .getfield 68, 3), (227, .bipush 6, 2), (229, .iload_n 1, 1), (230, .imul, 1), (231, .iload 4, 2), (233, .iadd, 1), (234, .iaload, 1), (235, .iastore, 1), (236, .aload_n 0, 1), (237, .getfield 190, 3), (240, .iload 4, 2), (242, .iload_n 2, 1), (243, .ifCond .ne 7, 3), (246, .iconst 1, 1), (247, .goto 4, 3), (250, .iconst 0, 1), (251, .bastore, 1), (252, .iinc 4 1, 3), (255, .goto (-47), 3), (258, .aload_n 0, 1), (259, .invokevirtual 544, 3), (262, .iconst 1, 1), (263, .ireturn, 1)], 2, 13)
/-- EquationProofsModel.bring(II)V -/
def mt_228 : am_M := (⟨"EquationProofsModel", "bring", "(II)V"⟩, prog_15_method_77_code, 4, none, ([(162, 13, 81), (547, 13, 93), (193, 13, 92), (159, 13, 80)], [(547, 13, 93)], [], [], [], [(528, 225)]), [(0, .aload_n 0, 1), (1, .aload_n 0, 1), (2, .getfield 162, 3), (5, .iconst 2, 1), (6, .iload_n 1, 1), (7, .imul, 1), (8, .iload_n 2, 1), (9, .iadd, 1), (10, .iaload, 1), (11, .putfield 547, 3), (14, .iconst 0, 1), (15, .istore_n 3, 1), (16, .iload_n 3, 1), (17, .aload_n 0, 1), (18, .getfield 547, 3), (21, .if_icmp .ge 28, 3), (24, .aload_n 0, 1), (25, .getfield 193, 3), (28, .iload_n 3, 1), (29, .aload_n 0, 1), (30, .getfield 159, 3), (33, .aload_n 0, 1), (34, .iload_n 1, 1), (35, .iload_n 2, 1), (36, .invokevirtual 528, 3), (39, .iload_n 3, 1), (40, .iadd, 1), (41, .iaload, 1), (42, .iastore, 1), (43, .iinc 3 1, 3), (46, .goto (-30), 3), (49, .return_, 1)], 2, 13)
/-- EquationProofsModel.isKept(II)Z -/
def mt_229 : am_M := (⟨"EquationProofsModel", "isKept", "(II)Z"⟩, prog_15_method_78_code, 4, (some .boolean), ([(437, 13, 53), (162, 13, 81), (159, 13, 80), (99, 13, 52)], [], [], [], [], [(528, 225)]), [(0, .aload_n 0, 1), (1, .getfield 437, 3), (4, .bipush 60, 2), (6, .if_icmp .le 5, 3), (9, .iconst 0, 1), (10, .ireturn, 1), (11, .aload_n 0, 1), (12, .getfield 162, 3), (15, .iconst 2, 1), (16, .iload_n 1, 1), (17, .imul, 1), (18, .iload_n 2, 1), (19, .iadd, 1), (20, .aload_n 0, 1), (21, .getfield 437, 3), (24, .iastore, 1), (25, .iconst 0, 1), (26, .istore_n 3, 1), (27, .iload_n 3, 1), (28, .aload_n 0, 1), (29, .getfield 437, 3), (32, .if_icmp .ge 28, 3), (35, .aload_n 0, 1), (36, .getfield 159, 3), (39, .aload_n 0, 1), (40, .iload_n 1, 1), (41, .iload_n 2, 1), (42, .invokevirtual 528, 3), (45, .iload_n 3, 1), (46, .iadd, 1), (47, .aload_n 0, 1), (48, .getfield 99, 3), (51, .iload_n 3, 1), (52, .iaload, 1), (53, .iastore, 1), (54, .iinc 3 1, 3), (57, .goto (-30), 3), (60, .iconst 1, 1), (61, .ireturn, 1)], 2, 13)
/-- EquationProofsModel.placeOf(I)I -/
def mt_230 : am_M := (⟨"EquationProofsModel", "placeOf", "(I)I"⟩, prog_15_method_79_code, 7, (some .int), ([(193, 13, 92)], [], [], [], [], [(244, 158), (427, 159)]), [(0, .iconst 0, 1), (1, .istore_n 2, 1), (2, .iconst 1, 1), (3, .istore_n 3, 1), (4, .iload_n 1, 1), (5, .iload_n 3, 1), (6, .idiv, 1), (7, .bipush 9, 2), (9, .if_icmp .le 11, 3), (12, .iload_n 3, 1), (13, .bipush 10, 2), (15, .imul, 1), (16, .istore_n 3, 1), (17, .goto (-13), 3), (20, .iload_n 1, 1), (21, .istore 4, 2), (23, .iload_n 3, 1), (24, .ifCond .le 82, 3), (27, .iload_n 1, 1), (28, .ifCond .le 78, 3), (31, .iload 4, 2), (33, .iload_n 3, 1), (34, .idiv, 1), (35, .istore 5, 2), (37, .iload 4, 2), (39, .iload 5, 2), (41, .iload_n 3, 1), (42, .imul, 1), (43, .isub, 1), (44, .istore 4, 2), (46, .iload 5, 2), (48, .iconst 1, 1), (49, .if_icmp .lt 18, 3), (52, .iload 5, 2), (54, .aload_n 0, 1), (55, .aload_n 0, 1), (56, .getfield 193, 3), (59, .iload_n 2, 1), (60, .iaload, 1), (61, .invokevirtual 244, 3), (64, .if_icmp .le 5, 3), (67, .iconst (-1), 1), (68, .ireturn, 1), (69, .iinc 2 1, 3), (72, .iconst 1, 1), (73, .istore 6, 2), (75, .iload 6, 2), (77, .iload 5, 2), (79, .if_icmp .ge 19, 3), (82, .aload_n 0, 1), (83, .aload_n 0, 1), (84, .getfield 193, 3), (87, .iload_n 2, 1), (88, .invokevirtual 427, 3), (91, .istore_n 2, 1), (92, .iinc 6 1, 3), (95, .goto (-20), 3), (98, .iload_n 3, 1), (99, .bipush 10, 2), (101, .idiv, 1), (102, .istore_n 3, 1), (103, .goto (-80), 3), (106, .iload_n 2, 1), (107, .ireturn, 1)], 1, 13)
/-- EquationProofsModel.typeAt(II)I -/
def mt_231 : am_M := (⟨"EquationProofsModel", "typeAt", "(II)I"⟩, prog_15_method_80_code, 6, (some .int), ([(90, 13, 46), (87, 13, 45), (193, 13, 92)], [], [], [], [], [(244, 158), (331, 179)]), [(0, .iconst 0, 1), (1, .istore_n 3, 1), (2, .iload_n 1, 1), (3, .istore 4, 2), (5, .iconst 0, 1), (6, .istore 5, 2), (8, .iload 5, 2), (10, .iload_n 2, 1), (11, .if_icmp .gt 111, 3), (14, .iload_n 3, 1), (15, .ifCond .le 32, 3), (18, .aload_n 0, 1), (19, .getfield 90, 3), (22, .iload_n 3, 1), (23, .iconst 1, 1), (24, .isub, 1), (25, .iaload, 1), (26, .aload_n 0, 1), (27, .aload_n 0, 1), (28, .getfield 87, 3), (31, .iload_n 3, 1), (32, .iconst 1, 1), (33, .isub, 1), (34, .iaload, 1), (35, .invokevirtual 244, 3), (38, .if_icmp .ne 9, 3), (41, .iinc 3 (-1), 3), (44, .goto (-30), 3), (47, .iload_n 3, 1), (48, .ifCond .ne 7, 3), (51, .iload_n 1, 1), (52, .goto 23, 3), (55, .aload_n 0, 1), (56, .aload_n 0, 1), (57, .getfield 87, 3), (60, .iload_n 3, 1), (61, .iconst 1, 1), (62, .isub, 1), (63, .iaload, 1), (64, .aload_n 0, 1), (65, .getfield 90, 3), (68, .iload_n 3, 1), (69, .iconst 1, 1), (70, .isub, 1), (71, .iaload, 1), (72, .invokevirtual 331, 3), (75, .istore 4, 2), (77, .iload_n 3, 1), (78, .ifCond .le 15, 3), (81, .aload_n 0, 1), (82, .getfield 90, 3), (85, .iload_n 3, 1), (86, .iconst 1, 1), (87, .isub, 1), (88, .dup2, 1), (89, .iaload, 1), (90, .iconst 1, 1), (91, .iadd, 1), (92, .iastore, 1), (93, .aload_n 0, 1), (94, .getfield 87, 3), (97, .iload_n 3, 1), (98, .aload_n 0, 1), (99, .getfield 193, 3), (102, .iload 5, 2), (104, .iaload, 1), (105, .iastore, 1), (106, .aload_n 0, 1), (107, .getfield 90, 3), (110, .iload_n 3, 1), (111, .iconst 0, 1), (112, .iastore, 1), (113, .iinc 3 1, 3), (116, .iinc 5 1, 3), (119, .goto (-111), 3), (122, .iload 4, 2), (124, .ireturn, 1)], 2, 13)
/-- EquationProofsModel.did()I -/
def mt_232 : am_M := (⟨"EquationProofsModel", "did", "()I"⟩, prog_15_method_81_code, 2, (some .int), ([(417, 13, 76), (414, 13, 77), (534, 13, 75), (71, 13, 26), (150, 13, 74)], [(417, 13, 76)], [], [], [], [(544, 227)]), [(0, .aload_n 0, 1), (1, .dup, 1), (2, .getfield 417, 3), (5, .iconst 1, 1), (6, .iadd, 1), (7, .putfield 417, 3), (10, .aload_n 0, 1), (11, .getfield 414, 3), (14, .ifCond .ne 51, 3), (17, .aload_n 0, 1), (18, .getfield 534, 3), (21, .ifCond .eq 7, 3), (24, .iconst 2, 1), (25, .goto 4, 3), (28, .iconst 1, 1), (29, .istore_n 1, 1), (30, .aload_n 0, 1), (31, .getfield 71, 3), (34, .aload_n 0, 1), (35, .getfield 150, 3), (38, .aload_n 0, 1), (39, .getfield 71, 3), (42, .aload_n 0, 1), (43, .getfield 150, 3), (46, .iaload, 1), (47, .iload_n 1, 1), (48, .if_icmp .le 15, 3), (51, .aload_n 0, 1), (52, .getfield 71, 3), (55, .aload_n 0, 1), (56, .getfield 150, 3), (59, .iaload, 1), (60, .goto 4, 3), (63, .iload_n 1, 1), (64, .iastore, 1), (65, .aload_n 0, 1), (66, .invokevirtual 544, 3), (69, .aload_n 0, 1), (70, .getfield 414, 3), (73, .ireturn, 1)], 0, 13)
/-- EquationProofsModel.newGoal(I)I -/
def mt_233 : am_M := (⟨"EquationProofsModel", "newGoal", "(I)I"⟩, prog_15_method_82_code, 3, (some .int), ([(196, 13, 94), (553, 13, 95)], [(553, 13, 95)], [], [], [], [(538, 228), (550, 229)]), [(0, .aload_n 0, 1), (1, .invokevirtual 538, 3), (4, .istore_n 2, 1), (5, .aload_n 0, 1), (6, .iload_n 1, 1), (7, .iload_n 2, 1), (8, .invokevirtual 550, 3), (11, .aload_n 0, 1), (12, .getfield 196, 3), (15, .aload_n 0, 1), (16, .getfield 553, 3), (19, .iload_n 2, 1), (20, .iastore, 1), (21, .aload_n 0, 1), (22, .dup, 1), (23, .getfield 553, 3), (26, .iconst 1, 1), (27, .iadd, 1), (28, .putfield 553, 3), (31, .iload_n 2, 1), (32, .ireturn, 1)], 1, 13)
/-- EquationProofsModel.replace(Z)I -/
def mt_234 : am_M := (⟨"EquationProofsModel", "replace", "(Z)I"⟩, prog_15_method_83_code, 4, (some .int), ([(414, 13, 77), (553, 13, 95), (156, 13, 79), (196, 13, 94), (153, 13, 78)], [(414, 13, 77)], [], [], [], [(556, 236)]), [(0, .iload_n 1, 1), (1, .ifCond .eq 19, 3), (4, .aload_n 0, 1), (5, .getfield 414, 3), (8, .iconst 1, 1), (9, .isub, 1), (10, .aload_n 0, 1), (11, .getfield 553, 3), (14, .iadd, 1), (15, .bipush 12, 2), (17, .if_icmp .le 34, 3), (20, .iconst 0, 1), (21, .istore_n 2, 1), (22, .iload_n 2, 1), (23, .aload_n 0, 1), (24, .getfield 553, 3), (27, .if_icmp .ge 21, 3), (30, .aload_n 0, 1), (31, .getfield 156, 3), (34, .aload_n 0, 1), (35, .getfield 196, 3), (38, .iload_n 2, 1), (39, .iaload, 1), (40, .iconst 0, 1), (41, .bastore, 1), (42, .iinc 2 1, 3), (45, .goto (-23), 3), (48, .bipush (-105), 2), (50, .ireturn, 1), (51, .aload_n 0, 1), (52, .getfield 156, 3), (55, .aload_n 0, 1), (56, .getfield 153, 3), (59, .iconst 0, 1), (60, .iaload, 1), (61, .iconst 0, 1), (62, .bastore, 1), (63, .aload_n 0, 1), (64, .getfield 553, 3), (67, .iconst 1, 1), (68, .isub, 1), (69, .istore_n 2, 1), (70, .iload_n 2, 1), (71, .ifCond .le 37, 3), (74, .aload_n 0, 1), (75, .getfield 414, 3), (78, .iconst 1, 1), (79, .isub, 1), (80, .istore_n 3, 1), (81, .iload_n 3, 1), (82, .ifCond .le 23, 3), (85, .aload_n 0, 1), (86, .getfield 153, 3), (89, .iload_n 3, 1), (90, .iload_n 2, 1), (91, .iadd, 1), (92, .aload_n 0, 1), (93, .getfield 153, 3), (96, .iload_n 3, 1), (97, .iaload, 1), (98, .iastore, 1), (99, .iinc 3 (-1), 3), (102, .goto (-21), 3), (105, .goto 37, 3), (108, .iload_n 2, 1), (109, .ifCond .ge 33, 3), (112, .iconst 1, 1), (113, .istore_n 3, 1), (114, .iload_n 3, 1), (115, .aload_n 0, 1), (116, .getfield 414, 3), (119, .if_icmp .ge 23, 3), (122, .aload_n 0, 1), (123, .getfield 153, 3), (126, .iload_n 3, 1), (127, .iconst 1, 1), (128, .isub, 1), (129, .aload_n 0, 1), (130, .getfield 153, 3), (133, .iload_n 3, 1), (134, .iaload, 1), (135, .iastore, 1), (136, .iinc 3 1, 3), (139, .goto (-25), 3), (142, .iconst 0, 1), (143, .istore_n 3, 1), (144, .iload_n 3, 1), (145, .aload_n 0, 1), (146, .getfield 553, 3), (149, .if_icmp .ge 21, 3), (152, .aload_n 0, 1), (153, .getfield 153, 3), (156, .iload_n 3, 1), (157, .aload_n 0, 1), (158, .getfield 196, 3), (161, .iload_n 3, 1), (162, .iaload, 1), (163, .iastore, 1), (164, .iinc 3 1, 3), (167, .goto (-23), 3), (170, .aload_n 0, 1), (171, .dup, 1), (172, .getfield 414, 3), (175, .iload_n 2, 1), (176, .iadd, 1), (177, .putfield 414, 3), (180, .aload_n 0, 1), (181, .invokevirtual 556, 3), (184, .ireturn, 1)], 1, 13)
/-- EquationProofsModel.idle()Z -/
def mt_235 : am_M := (⟨"EquationProofsModel", "idle", "()Z"⟩, prog_15_method_84_code, 1, (some .boolean), ([(414, 13, 77)], [], [], [], [], []), [(0, .aload_n 0, 1), (1, .getfield 414, 3), (4, .ifCond .ne 7, 3), (7, .iconst 1, 1), (8, .goto 4, 3), (11, .iconst 0, 1), (12, .ireturn, 1)], 0, 13)
/-- EquationProofsModel.isOutside(II)Z -/
def mt_236 : am_M := (⟨"EquationProofsModel", "isOutside", "(II)Z"⟩, prog_15_method_85_code, 2, (some .boolean), ([], [], [], [], [], []), [(0, .iload_n 0, 1), (1, .ifCond .lt 12, 3), (4, .iload_n 0, 1), (5, .iconst 1, 1), (6, .if_icmp .gt 7, 3), (9, .iload_n 1, 1), (10, .ifCond .ge 7, 3), (13, .iconst 1, 1), (14, .goto 4, 3), (17, .iconst 0, 1), (18, .ireturn, 1)], 2, 1000)
/-- EquationProofsModel.unfold(II)I -/
def mt_237 : am_M := (⟨"EquationProofsModel", "unfold", "(II)I"⟩, prog_15_method_86_code, 3, (some .int), ([], [], [], [], [], [(559, 240), (563, 239), (566, 242)]), [(0, .iload_n 1, 1), (1, .iload_n 2, 1), (2, .invokestatic 559, 3), (5, .ifCond .eq 8, 3), (8, .bipush (-102), 2), (10, .goto 22, 3), (13, .aload_n 0, 1), (14, .invokevirtual 563, 3), (17, .ifCond .eq 8, 3), (20, .bipush (-103), 2), (22, .goto 10, 3), (25, .aload_n 0, 1), (26, .iload_n 1, 1), (27, .iload_n 2, 1), (28, .iconst (-1), 1), (29, .invokevirtual 566, 3), (32, .ireturn, 1)], 2, 13)
/-- EquationProofsModel.unfoldAt(III)I -/
def mt_238 : am_M := (⟨"EquationProofsModel", "unfoldAt", "(III)I"⟩, prog_15_method_87_code, 7, (some .int), ([(153, 13, 78), (193, 13, 92), (547, 13, 93)], [], [], [], [], [(569, 232), (572, 234), (450, 160), (453, 200), (456, 203), (575, 233), (556, 236)]), [(0, .aload_n 0, 1), (1, .getfield 153, 3), (4, .iconst 0, 1), (5, .iaload, 1), (6, .istore 4, 2), (8, .aload_n 0, 1), (9, .iload 4, 2), (11, .iload_n 1, 1), (12, .invokevirtual 569, 3), (15, .iload_n 3, 1), (16, .iconst (-1), 1), (17, .if_icmp .eq 7, 3), (20, .iload_n 3, 1), (21, .goto 8, 3), (24, .aload_n 0, 1), (25, .iload_n 2, 1), (26, .invokevirtual 572, 3), (29, .istore 5, 2), (31, .iload 5, 2), (33, .iconst (-1), 1), (34, .if_icmp .eq 16, 3), (37, .aload_n 0, 1), (38, .getfield 193, 3), (41, .iload 5, 2), (43, .iaload, 1), (44, .invokestatic 450, 3), (47, .ifCond .ne 6, 3), (50, .bipush (-104), 2), (52, .ireturn, 1), (53, .aload_n 0, 1), (54, .aload_n 0, 1), (55, .getfield 193, 3), (58, .iload 5, 2), (60, .invokevirtual 453, 3), (63, .istore 6, 2), (65, .iload 6, 2), (67, .iconst 2, 1), (68, .if_icmp .ne 6, 3), (71, .bipush (-104), 2), (73, .ireturn, 1), (74, .aload_n 0, 1), (75, .aload_n 0, 1), (76, .getfield 193, 3), (79, .aload_n 0, 1), (80, .getfield 547, 3), (83, .iload 5, 2), (85, .iload 6, 2), (87, .invokevirtual 456, 3), (90, .aload_n 0, 1), (91, .iload 4, 2), (93, .iload_n 1, 1), (94, .invokevirtual 575, 3), (97, .ifCond .eq 10, 3), (100, .aload_n 0, 1), (101, .invokevirtual 556, 3), (104, .goto 5, 3), (107, .bipush (-105), 2), (109, .ireturn, 1)], 3, 13)
/-- EquationProofsModel.isLike([IIIIIII)Z -/
def mt_239 : am_M := (⟨"EquationProofsModel", "isLike", "([IIIIIII)Z"⟩, prog_15_method_88_code, 13, (some .boolean), ([(199, 13, 96), (547, 13, 93), (193, 13, 92)], [], [], [], [], [(427, 159), (578, 244), (582, 245)]), [(0, .iconst 0, 1), (1, .istore 8, 2), (3, .iload 8, 2), (5, .bipush 60, 2), (7, .if_icmp .ge 17, 3), (10, .aload_n 0, 1), (11, .getfield 199, 3), (14, .iload 8, 2), (16, .iconst (-1), 1), (17, .iastore, 1), (18, .iinc 8 1, 3), (21, .goto (-18), 3), (24, .iload 5, 2), (26, .istore 8, 2), (28, .iload_n 2, 1), (29, .istore 9, 2), (31, .iload 9, 2), (33, .iload_n 2, 1), (34, .iload_n 3, 1), (35, .iadd, 1), (36, .if_icmp .ge 158, 3), (39, .aload_n 1, 1), (40, .iload 9, 2), (42, .iaload, 1), (43, .istore 10, 2), (45, .iload 10, 2), (47, .iload 4, 2), (49, .if_icmp .ge 32, 3), (52, .iload 8, 2), (54, .aload_n 0, 1), (55, .getfield 547, 3), (58, .if_icmp .ge 15, 3), (61, .aload_n 0, 1), (62, .getfield 193, 3), (65, .iload 8, 2), (67, .iaload, 1), (68, .iload 10, 2), (70, .if_icmp .eq 5, 3), (73, .iconst 0, 1), (74, .ireturn, 1), (75, .iinc 8 1, 3), (78, .goto 110, 3), (81, .iload 10, 2), (83, .iload 4, 2), (85, .isub, 1), (86, .istore 11, 2), (88, .aload_n 0, 1), (89, .aload_n 0, 1), (90, .getfield 193, 3), (93, .iload 8, 2), (95, .invokevirtual 427, 3), (98, .istore 12, 2), (100, .aload_n 0, 1), (101, .getfield 199, 3), (104, .iload 11, 2), (106, .iaload, 1), (107, .iconst (-1), 1), (108, .if_icmp .ne 34, 3), (111, .aload_n 0, 1), (112, .iload 8, 2), (114, .iload 12, 2), (116, .iload 11, 2), (118, .iload 6, 2), (120, .iload 7, 2), (122, .invokevirtual 578, 3), (125, .ifCond .ne 5, 3), (128, .iconst 0, 1), (129, .ireturn, 1), (130, .aload_n 0, 1), (131, .getfield 199, 3), (134, .iload 11, 2), (136, .iload 8, 2), (138, .iastore, 1), (139, .goto 45, 3), (142, .aload_n 0, 1), (143, .getfield 193, 3), (146, .aload_n 0, 1), (147, .getfield 199, 3), (150, .iload 11, 2), (152, .iaload, 1), (153, .aload_n 0, 1), (154, .aload_n 0, 1), (155, .getfield 193, 3), (158, .aload_n 0, 1), (159, .getfield 199, 3), (162, .iload 11, 2), (164, .iaload, 1), (165, .invokevirtual 427, 3), (168, .aload_n 0, 1), (169, .getfield 193, 3), (172, .iload 8, 2), (174, .iload 12, 2), (176, .invokestatic 582, 3), (179, .ifCond .ne 5, 3), (182, .iconst 0, 1), (183, .ireturn, 1), (184, .iload 12, 2), (186, .istore 8, 2), (188, .iinc 9 1, 3), (191, .goto (-160), 3), (194, .iconst 1, 1), (195, .ireturn, 1)], 7, 13)
/-- EquationProofsModel.isFit(IIIII)Z -/
def mt_240 : am_M := (⟨"EquationProofsModel", "isFit", "(IIIII)Z"⟩, prog_15_method_89_code, 9, (some .boolean), ([(202, 13, 97), (68, 13, 25), (187, 13, 90), (190, 13, 91), (193, 13, 92)], [], [], [], [], [(586, 235), (431, 161)]), [(0, .aload_n 0, 1), (1, .getfield 202, 3), (4, .iconst (-1), 1), (5, .if_icmp .eq 20, 3), (8, .aload_n 0, 1), (9, .getfield 68, 3), (12, .bipush 6, 2), (14, .aload_n 0, 1), (15, .getfield 202, 3), (18, .imul, 1), (19, .iload_n 3, 1), (20, .iadd, 1), (21, .iaload, 1), (22, .goto 9, 3), (25, .aload_n 0, 1), (26, .getfield 187, 3), (29, .iload_n 3, 1), (30, .iaload, 1), (31, .istore 6, 2), (33, .aload_n 0, 1), (34, .iload 4, 2), (36, .iload_n 1, 1), (37, .invokevirtual 586, 3), (40, .iload 6, 2), (42, .if_icmp .eq 5, 3), (45, .iconst 0, 1), (46, .ireturn, 1), (47, .iload 5, 2), (49, .iconst 1, 1), (50, .if_icmp .eq 18, 3), (53, .iload 5, 2), (55, .iconst 2, 1), (56, .if_icmp .ne 16, 3), (59, .aload_n 0, 1), (60, .getfield 190, 3), (63, .iload_n 3, 1), (64, .baload, 1), (65, .ifCond .eq 7, 3), (68, .iconst 1, 1), (69, .goto 4, 3), (72, .iconst 0, 1), (73, .istore 7, 2), (75, .iload_n 1, 1), (76, .istore 8, 2), (78, .iload 8, 2), (80, .iload_n 2, 1), (81, .if_icmp .ge 74, 3), (84, .iload 7, 2), (86, .ifCond .eq 69, 3), (89, .aload_n 0, 1), (90, .getfield 193, 3), (93, .iload 8, 2), (95, .iaload, 1), (96, .invokestatic 431, 3), (99, .ifCond .ne 50, 3), (102, .aload_n 0, 1), (103, .getfield 193, 3), (106, .iload 8, 2), (108, .iaload, 1), (109, .sipush 1000, 3), (112, .if_icmp .lt 35, 3), (115, .aload_n 0, 1), (116, .getfield 193, 3), (119, .iload 8, 2), (121, .iaload, 1), (122, .sipush 2000, 3), (125, .if_icmp .ge 22, 3), (128, .aload_n 0, 1), (129, .getfield 190, 3), (132, .aload_n 0, 1), (133, .getfield 193, 3), (136, .iload 8, 2), (138, .iaload, 1), (139, .sipush 1000, 3), (142, .isub, 1), (143, .baload, 1), (144, .ifCond .ne 5, 3), (147, .iconst 0, 1), (148, .ireturn, 1), (149, .iinc 8 1, 3), (152, .goto (-74), 3), (155, .iconst 1, 1), (156, .ireturn, 1)], 5, 13)
/-- EquationProofsModel.isSame([III[III)Z -/
def mt_241 : am_M := (⟨"EquationProofsModel", "isSame", "([III[III)Z"⟩, prog_15_method_90_code, 8, (some .boolean), ([], [], [], [], [], []), [(0, .iload_n 2, 1), (1, .iload_n 1, 1), (2, .isub, 1), (3, .iload 5, 2), (5, .iload 4, 2), (7, .isub, 1), (8, .if_icmp .ne 7, 3), (11, .iconst 1, 1), (12, .goto 4, 3), (15, .iconst 0, 1), (16, .istore 6, 2), (18, .iconst 0, 1), (19, .istore 7, 2), (21, .iload 6, 2), (23, .ifCond .eq 40, 3), (26, .iload 7, 2), (28, .iload_n 2, 1), (29, .iload_n 1, 1), (30, .isub, 1), (31, .if_icmp .ge 32, 3), (34, .aload_n 0, 1), (35, .iload_n 1, 1), (36, .iload 7, 2), (38, .iadd, 1), (39, .iaload, 1), (40, .aload_n 3, 1), (41, .iload 4, 2), (43, .iload 7, 2), (45, .iadd, 1), (46, .iaload, 1), (47, .if_icmp .ne 7, 3), (50, .iconst 1, 1), (51, .goto 4, 3), (54, .iconst 0, 1), (55, .istore 6, 2), (57, .iinc 7 1, 3), (60, .goto (-39), 3), (63, .iload 6, 2), (65, .ireturn, 1)], 6, 1000)
/-- EquationProofsModel.isMade([IIIII)Z -/
def mt_242 : am_M := (⟨"EquationProofsModel", "isMade", "([IIIII)Z"⟩, prog_15_method_91_code, 8, (some .boolean), ([(193, 13, 92), (99, 13, 52), (437, 13, 53), (199, 13, 96), (547, 13, 93)], [(437, 13, 53)], [], [], [], [(440, 202), (427, 159)]), [(0, .aload_n 0, 1), (1, .iconst 0, 1), (2, .putfield 437, 3), (5, .aload_n 0, 1), (6, .aload_n 0, 1), (7, .getfield 193, 3), (10, .iconst 0, 1), (11, .iload 5, 2), (13, .invokevirtual 440, 3), (16, .iload_n 2, 1), (17, .istore 6, 2), (19, .iload 6, 2), (21, .iload_n 2, 1), (22, .iload_n 3, 1), (23, .iadd, 1), (24, .if_icmp .ge 98, 3), (27, .aload_n 1, 1), (28, .iload 6, 2), (30, .iaload, 1), (31, .istore 7, 2), (33, .iload 7, 2), (35, .iload 4, 2), (37, .if_icmp .ge 27, 3), (40, .aload_n 0, 1), (41, .getfield 99, 3), (44, .aload_n 0, 1), (45, .getfield 437, 3), (48, .iload 7, 2), (50, .iastore, 1), (51, .aload_n 0, 1), (52, .dup, 1), (53, .getfield 437, 3), (56, .iconst 1, 1), (57, .iadd, 1), (58, .putfield 437, 3), (61, .goto 55, 3), (64, .aload_n 0, 1), (65, .getfield 199, 3), (68, .iload 7, 2), (70, .iload 4, 2), (72, .isub, 1), (73, .iaload, 1), (74, .iconst (-1), 1), (75, .if_icmp .ne 5, 3), (78, .iconst 0, 1), (79, .ireturn, 1), (80, .aload_n 0, 1), (81, .aload_n 0, 1), (82, .getfield 193, 3), (85, .aload_n 0, 1), (86, .getfield 199, 3), (89, .iload 7, 2), (91, .iload 4, 2), (93, .isub, 1), (94, .iaload, 1), (95, .aload_n 0, 1), (96, .aload_n 0, 1), (97, .getfield 193, 3), (100, .aload_n 0, 1), (101, .getfield 199, 3), (104, .iload 7, 2), (106, .iload 4, 2), (108, .isub, 1), (109, .iaload, 1), (110, .invokevirtual 427, 3), (113, .invokevirtual 440, 3), (116, .iinc 6 1, 3), (119, .goto (-100), 3), (122, .aload_n 0, 1), (123, .aload_n 0, 1), (124, .getfield 193, 3), (127, .aload_n 0, 1), (128, .aload_n 0, 1), (129, .getfield 193, 3), (132, .iload 5, 2), (134, .invokevirtual 427, 3), (137, .aload_n 0, 1), (138, .getfield 547, 3), (141, .invokevirtual 440, 3), (144, .iconst 1, 1), (145, .ireturn, 1)], 5, 13)
/-- EquationProofsModel.law(IZII)I -/
def mt_243 : am_M := (⟨"EquationProofsModel", "law", "(IZII)I"⟩, prog_15_method_92_code, 5, (some .int), ([(387, 13, 19)], [], [], [], [], [(559, 240), (563, 239), (589, 248)]), [(0, .iload_n 1, 1), (1, .ifCond .lt 11, 3), (4, .iload_n 1, 1), (5, .aload_n 0, 1), (6, .getfield 387, 3), (9, .if_icmp .lt 8, 3), (12, .bipush (-101), 2), (14, .goto 39, 3), (17, .iload_n 3, 1), (18, .iload 4, 2), (20, .invokestatic 559, 3), (23, .ifCond .eq 8, 3), (26, .bipush (-102), 2), (28, .goto 25, 3), (31, .aload_n 0, 1), (32, .invokevirtual 563, 3), (35, .ifCond .eq 8, 3), (38, .bipush (-103), 2), (40, .goto 13, 3), (43, .aload_n 0, 1), (44, .iload_n 1, 1), (45, .iload_n 2, 1), (46, .iload_n 3, 1), (47, .iload 4, 2), (49, .iconst (-1), 1), (50, .invokevirtual 589, 3), (53, .ireturn, 1)], 4, 13)
/-- EquationProofsModel.lawAt(IZIII)I -/
def mt_244 : am_M := (⟨"EquationProofsModel", "lawAt", "(IZIII)I"⟩, prog_15_method_93_code, 11, (some .int), ([(153, 13, 78), (71, 13, 26), (534, 13, 75), (56, 13, 21), (59, 13, 22), (165, 13, 82)], [(202, 13, 97)], [], [], [], [(569, 232), (572, 234), (593, 243), (597, 246), (575, 233), (556, 236)]), [(0, .aload_n 0, 1), (1, .getfield 153, 3), (4, .iconst 0, 1), (5, .iaload, 1), (6, .istore 6, 2), (8, .aload_n 0, 1), (9, .getfield 71, 3), (12, .iload_n 1, 1), (13, .iaload, 1), (14, .ifCond .eq 20, 3), (17, .aload_n 0, 1), (18, .getfield 71, 3), (21, .iload_n 1, 1), (22, .iaload, 1), (23, .iconst 1, 1), (24, .if_icmp .ne 13, 3), (27, .aload_n 0, 1), (28, .getfield 534, 3), (31, .ifCond .eq 6, 3), (34, .bipush (-104), 2), (36, .ireturn, 1), (37, .aload_n 0, 1), (38, .iload 6, 2), (40, .iload_n 3, 1), (41, .invokevirtual 569, 3), (44, .iload 5, 2), (46, .iconst (-1), 1), (47, .if_icmp .eq 8, 3), (50, .iload 5, 2), (52, .goto 9, 3), (55, .aload_n 0, 1), (56, .iload 4, 2), (58, .invokevirtual 572, 3), (61, .istore 7, 2), (63, .iload 7, 2), (65, .iconst (-1), 1), (66, .if_icmp .ne 6, 3), (69, .bipush (-104), 2), (71, .ireturn, 1), (72, .iconst 2, 1), (73, .iload_n 1, 1), (74, .imul, 1), (75, .iload_n 2, 1), (76, .ifCond .eq 7, 3), (79, .iconst 1, 1), (80, .goto 4, 3), (83, .iconst 0, 1), (84, .iadd, 1), (85, .istore 8, 2), (87, .iconst 2, 1), (88, .iload_n 1, 1), (89, .imul, 1), (90, .iload_n 2, 1), (91, .ifCond .eq 7, 3), (94, .iconst 0, 1), (95, .goto 4, 3), (98, .iconst 1, 1), (99, .iadd, 1), (100, .istore 9, 2), (102, .aload_n 0, 1), (103, .iload_n 1, 1), (104, .putfield 202, 3), (107, .aload_n 0, 1), (108, .aload_n 0, 1), (109, .getfield 56, 3), (112, .bipush 48, 2), (114, .iload 8, 2), (116, .imul, 1), (117, .aload_n 0, 1), (118, .getfield 59, 3), (121, .iload 8, 2), (123, .iaload, 1), (124, .sipush 1000, 3), (127, .iload 7, 2), (129, .aload_n 0, 1), (130, .getfield 165, 3), (133, .iload 6, 2), (135, .iaload, 1), (136, .aload_n 0, 1), (137, .getfield 71, 3), (140, .iload_n 1, 1), (141, .iaload, 1), (142, .iconst 1, 1), (143, .if_icmp .ne 7, 3), (146, .iconst 1, 1), (147, .goto 4, 3), (150, .iconst 0, 1), (151, .invokevirtual 593, 3), (154, .ifCond .eq 35, 3), (157, .aload_n 0, 1), (158, .aload_n 0, 1), (159, .getfield 56, 3), (162, .bipush 48, 2), (164, .iload 9, 2), (166, .imul, 1), (167, .aload_n 0, 1), (168, .getfield 59, 3), (171, .iload 9, 2), (173, .iaload, 1), (174, .sipush 1000, 3), (177, .iload 7, 2), (179, .invokevirtual 597, 3), (182, .ifCond .eq 7, 3), (185, .iconst 1, 1), (186, .goto 4, 3), (189, .iconst 0, 1), (190, .istore 10, 2), (192, .aload_n 0, 1), (193, .iconst (-1), 1), (194, .putfield 202, 3), (197, .iload 10, 2), (199, .ifCond .ne 8, 3), (202, .bipush (-104), 2), (204, .goto 22, 3), (207, .aload_n 0, 1), (208, .iload 6, 2), (210, .iload_n 3, 1), (211, .invokevirtual 575, 3), (214, .ifCond .eq 10, 3), (217, .aload_n 0, 1), (218, .invokevirtual 556, 3), (221, .goto 5, 3), (224, .bipush (-105), 2), (226, .ireturn, 1)], 5, 13)
/-- EquationProofsModel.hypothesis(IZII)I -/
def mt_245 : am_M := (⟨"EquationProofsModel", "hypothesis", "(IZII)I"⟩, prog_15_method_94_code, 5, (some .int), ([], [], [], [], [], [(559, 240), (563, 239), (601, 250)]), [(0, .iload_n 3, 1), (1, .iload 4, 2), (3, .invokestatic 559, 3), (6, .ifCond .eq 8, 3), (9, .bipush (-102), 2), (11, .goto 25, 3), (14, .aload_n 0, 1), (15, .invokevirtual 563, 3), (18, .ifCond .eq 8, 3), (21, .bipush (-103), 2), (23, .goto 13, 3), (26, .aload_n 0, 1), (27, .iload_n 1, 1), (28, .iload_n 2, 1), (29, .iload_n 3, 1), (30, .iload 4, 2), (32, .iconst (-1), 1), (33, .invokevirtual 601, 3), (36, .ireturn, 1)], 4, 13)
/-- EquationProofsModel.hypothesisAt(IZIII)I -/
def mt_246 : am_M := (⟨"EquationProofsModel", "hypothesisAt", "(IZIII)I"⟩, prog_15_method_95_code, 11, (some .int), ([(153, 13, 78), (177, 13, 86), (181, 13, 87), (184, 13, 88), (165, 13, 82), (534, 13, 75)], [], [], [], [], [(569, 232), (572, 234), (593, 243), (597, 246), (575, 233), (556, 236)]), [(0, .aload_n 0, 1), (1, .getfield 153, 3), (4, .iconst 0, 1), (5, .iaload, 1), (6, .istore 6, 2), (8, .iload_n 1, 1), (9, .ifCond .lt 14, 3), (12, .iload_n 1, 1), (13, .aload_n 0, 1), (14, .getfield 177, 3), (17, .iload 6, 2), (19, .iaload, 1), (20, .if_icmp .lt 6, 3), (23, .bipush (-104), 2), (25, .ireturn, 1), (26, .aload_n 0, 1), (27, .iload 6, 2), (29, .iload_n 3, 1), (30, .invokevirtual 569, 3), (33, .iload 5, 2), (35, .iconst (-1), 1), (36, .if_icmp .eq 8, 3), (39, .iload 5, 2), (41, .goto 9, 3), (44, .aload_n 0, 1), (45, .iload 4, 2), (47, .invokevirtual 572, 3), (50, .istore 7, 2), (52, .iload 7, 2), (54, .iconst (-1), 1), (55, .if_icmp .ne 6, 3), (58, .bipush (-104), 2), (60, .ireturn, 1), (61, .iconst 2, 1), (62, .bipush 8, 2), (64, .iload 6, 2), (66, .imul, 1), (67, .iload_n 1, 1), (68, .iadd, 1), (69, .imul, 1), (70, .iload_n 2, 1), (71, .ifCond .eq 7, 3), (74, .iconst 1, 1), (75, .goto 4, 3), (78, .iconst 0, 1), (79, .iadd, 1), (80, .istore 8, 2), (82, .iconst 2, 1), (83, .bipush 8, 2), (85, .iload 6, 2), (87, .imul, 1), (88, .iload_n 1, 1), (89, .iadd, 1), (90, .imul, 1), (91, .iload_n 2, 1), (92, .ifCond .eq 7, 3), (95, .iconst 0, 1), (96, .goto 4, 3), (99, .iconst 1, 1), (100, .iadd, 1), (101, .istore 9, 2), (103, .aload_n 0, 1), (104, .aload_n 0, 1), (105, .getfield 181, 3), (108, .bipush 64, 2), (110, .iload 8, 2), (112, .imul, 1), (113, .aload_n 0, 1), (114, .getfield 184, 3), (117, .iload 8, 2), (119, .iaload, 1), (120, .sipush 2000, 3), (123, .iload 7, 2), (125, .aload_n 0, 1), (126, .getfield 165, 3), (129, .iload 6, 2), (131, .iaload, 1), (132, .aload_n 0, 1), (133, .getfield 534, 3), (136, .ifCond .eq 7, 3), (139, .iconst 0, 1), (140, .goto 4, 3), (143, .iconst 2, 1), (144, .invokevirtual 593, 3), (147, .ifCond .eq 35, 3), (150, .aload_n 0, 1), (151, .aload_n 0, 1), (152, .getfield 181, 3), (155, .bipush 64, 2), (157, .iload 9, 2), (159, .imul, 1), (160, .aload_n 0, 1), (161, .getfield 184, 3), (164, .iload 9, 2), (166, .iaload, 1), (167, .sipush 2000, 3), (170, .iload 7, 2), (172, .invokevirtual 597, 3), (175, .ifCond .eq 7, 3), (178, .iconst 1, 1), (179, .goto 4, 3), (182, .iconst 0, 1), (183, .istore 10, 2), (185, .iload 10, 2), (187, .ifCond .ne 8, 3), (190, .bipush (-104), 2), (192, .goto 22, 3), (195, .aload_n 0, 1), (196, .iload 6, 2), (198, .iload_n 3, 1), (199, .invokevirtual 575, 3), (202, .ifCond .eq 10, 3), (205, .aload_n 0, 1), (206, .invokevirtual 556, 3), (209, .goto 5, 3), (212, .bipush (-105), 2), (214, .ireturn, 1)], 5, 13)
/-- EquationProofsModel.hasVariable(II)Z -/
def mt_247 : am_M := (⟨"EquationProofsModel", "hasVariable", "(II)Z"⟩, prog_15_method_96_code, 6, (some .boolean), ([(162, 13, 81), (159, 13, 80)], [], [], [], [], [(528, 225)]), [(0, .iconst 0, 1), (1, .istore_n 3, 1), (2, .iconst 0, 1), (3, .istore 4, 2), (5, .iload 4, 2), (7, .iconst 2, 1), (8, .if_icmp .ge 65, 3), (11, .iconst 0, 1), (12, .istore 5, 2), (14, .iload 5, 2), (16, .aload_n 0, 1), (17, .getfield 162, 3), (20, .iconst 2, 1), (21, .iload_n 1, 1), (22, .imul, 1), (23, .iload 4, 2), (25, .iadd, 1), (26, .iaload, 1), (27, .if_icmp .ge 40, 3), (30, .iload_n 3, 1), (31, .aload_n 0, 1), (32, .getfield 159, 3), (35, .aload_n 0, 1), (36, .iload_n 1, 1), (37, .iload 4, 2), (39, .invokevirtual 528, 3), (42, .iload 5, 2), (44, .iadd, 1), (45, .iaload, 1), (46, .sipush 1000, 3), (49, .iload_n 2, 1), (50, .iadd, 1), (51, .if_icmp .ne 7, 3), (54, .iconst 1, 1), (55, .goto 4, 3), (58, .iconst 0, 1), (59, .ior, 1), (60, .istore_n 3, 1), (61, .iinc 5 1, 3), (64, .goto (-50), 3), (67, .iinc 4 1, 3), (70, .goto (-65), 3), (73, .iload_n 3, 1), (74, .ireturn, 1)], 2, 13)
/-- EquationProofsModel.putIn([IIII)V -/
def mt_248 : am_M := (⟨"EquationProofsModel", "putIn", "([IIII)V"⟩, prog_15_method_97_code, 7, none, ([(604, 13, 99), (99, 13, 52), (437, 13, 53), (205, 13, 98)], [(437, 13, 53)], [], [], [], []), [(0, .aload_n 0, 1), (1, .iconst 0, 1), (2, .putfield 437, 3), (5, .iload_n 2, 1), (6, .istore 5, 2), (8, .iload 5, 2), (10, .iload_n 2, 1), (11, .iload_n 3, 1), (12, .iadd, 1), (13, .if_icmp .ge 88, 3), (16, .aload_n 1, 1), (17, .iload 5, 2), (19, .iaload, 1), (20, .iload 4, 2), (22, .if_icmp .ne 50, 3), (25, .iconst 0, 1), (26, .istore 6, 2), (28, .iload 6, 2), (30, .aload_n 0, 1), (31, .getfield 604, 3), (34, .if_icmp .ge 35, 3), (37, .aload_n 0, 1), (38, .getfield 99, 3), (41, .aload_n 0, 1), (42, .getfield 437, 3), (45, .aload_n 0, 1), (46, .getfield 205, 3), (49, .iload 6, 2), (51, .iaload, 1), (52, .iastore, 1), (53, .aload_n 0, 1), (54, .dup, 1), (55, .getfield 437, 3), (58, .iconst 1, 1), (59, .iadd, 1), (60, .putfield 437, 3), (63, .iinc 6 1, 3), (66, .goto (-38), 3), (69, .goto 26, 3), (72, .aload_n 0, 1), (73, .getfield 99, 3), (76, .aload_n 0, 1), (77, .getfield 437, 3), (80, .aload_n 1, 1), (81, .iload 5, 2), (83, .iaload, 1), (84, .iastore, 1), (85, .aload_n 0, 1), (86, .dup, 1), (87, .getfield 437, 3), (90, .iconst 1, 1), (91, .iadd, 1), (92, .putfield 437, 3), (95, .iinc 5 1, 3), (98, .goto (-90), 3), (101, .return_, 1)], 4, 13)
/-- EquationProofsModel.isNew(IZ)Z -/
def mt_249 : am_M := (⟨"EquationProofsModel", "isNew", "(IZ)Z"⟩, prog_15_method_98_code, 4, (some .boolean), ([(205, 13, 98), (20, 13, 6), (541, 13, 89), (187, 13, 90), (23, 13, 7), (190, 13, 91)], [(604, 13, 99), (541, 13, 89)], [], [], [], []), [(0, .aload_n 0, 1), (1, .getfield 205, 3), (4, .iconst 0, 1), (5, .iconst 1, 1), (6, .iload_n 1, 1), (7, .iadd, 1), (8, .iastore, 1), (9, .aload_n 0, 1), (10, .iconst 1, 1), (11, .aload_n 0, 1), (12, .getfield 20, 3), (15, .iload_n 1, 1), (16, .iaload, 1), (17, .iadd, 1), (18, .putfield 604, 3), (21, .aload_n 0, 1), (22, .getfield 541, 3), (25, .aload_n 0, 1), (26, .getfield 20, 3), (29, .iload_n 1, 1), (30, .iaload, 1), (31, .iadd, 1), (32, .bipush 60, 2), (34, .if_icmp .le 5, 3), (37, .iconst 0, 1), (38, .ireturn, 1), (39, .iconst 0, 1), (40, .istore_n 3, 1), (41, .iload_n 3, 1), (42, .aload_n 0, 1), (43, .getfield 20, 3), (46, .iload_n 1, 1), (47, .iaload, 1), (48, .if_icmp .ge 64, 3), (51, .aload_n 0, 1), (52, .getfield 187, 3), (55, .aload_n 0, 1), (56, .getfield 541, 3), (59, .aload_n 0, 1), (60, .getfield 23, 3), (63, .iconst 3, 1), (64, .iload_n 1, 1), (65, .imul, 1), (66, .iload_n 3, 1), (67, .iadd, 1), (68, .iaload, 1), (69, .iastore, 1), (70, .aload_n 0, 1), (71, .getfield 190, 3), (74, .aload_n 0, 1), (75, .getfield 541, 3), (78, .iload_n 2, 1), (79, .bastore, 1), (80, .aload_n 0, 1), (81, .getfield 205, 3), (84, .iconst 1, 1), (85, .iload_n 3, 1), (86, .iadd, 1), (87, .sipush 1000, 3), (90, .aload_n 0, 1), (91, .getfield 541, 3), (94, .iadd, 1), (95, .iastore, 1), (96, .aload_n 0, 1), (97, .dup, 1), (98, .getfield 541, 3), (101, .iconst 1, 1), (102, .iadd, 1), (103, .putfield 541, 3), (106, .iinc 3 1, 3), (109, .goto (-68), 3), (112, .iconst 1, 1), (113, .ireturn, 1)], 2, 13)
/-- EquationProofsModel.isPut(III)Z -/
def mt_250 : am_M := (⟨"EquationProofsModel", "isPut", "(III)Z"⟩, prog_15_method_99_code, 6, (some .boolean), ([(159, 13, 80), (162, 13, 81)], [], [], [], [], [(528, 225), (607, 252), (575, 233)]), [(0, .iconst 1, 1), (1, .istore 4, 2), (3, .iconst 0, 1), (4, .istore 5, 2), (6, .iload 5, 2), (8, .iconst 2, 1), (9, .if_icmp .ge 54, 3), (12, .iload 4, 2), (14, .ifCond .eq 49, 3), (17, .aload_n 0, 1), (18, .aload_n 0, 1), (19, .getfield 159, 3), (22, .aload_n 0, 1), (23, .iload_n 2, 1), (24, .iload 5, 2), (26, .invokevirtual 528, 3), (29, .aload_n 0, 1), (30, .getfield 162, 3), (33, .iconst 2, 1), (34, .iload_n 2, 1), (35, .imul, 1), (36, .iload 5, 2), (38, .iadd, 1), (39, .iaload, 1), (40, .sipush 1000, 3), (43, .iload_n 3, 1), (44, .iadd, 1), (45, .invokevirtual 607, 3), (48, .aload_n 0, 1), (49, .iload_n 1, 1), (50, .iload 5, 2), (52, .invokevirtual 575, 3), (55, .istore 4, 2), (57, .iinc 5 1, 3), (60, .goto (-54), 3), (63, .iload 4, 2), (65, .ireturn, 1)], 3, 13)
/-- EquationProofsModel.isHypsPut(II)Z -/
def mt_251 : am_M := (⟨"EquationProofsModel", "isHypsPut", "(II)Z"⟩, prog_15_method_100_code, 7, (some .boolean), ([(177, 13, 86), (181, 13, 87), (184, 13, 88), (437, 13, 53), (99, 13, 52)], [], [], [], [], [(607, 252)]), [(0, .iconst 1, 1), (1, .istore_n 3, 1), (2, .iconst 0, 1), (3, .istore 4, 2), (5, .iload 4, 2), (7, .iconst 2, 1), (8, .aload_n 0, 1), (9, .getfield 177, 3), (12, .iload_n 1, 1), (13, .iaload, 1), (14, .imul, 1), (15, .if_icmp .ge 115, 3), (18, .iload_n 3, 1), (19, .ifCond .eq 111, 3), (22, .bipush 16, 2), (24, .iload_n 1, 1), (25, .imul, 1), (26, .iload 4, 2), (28, .iadd, 1), (29, .istore 5, 2), (31, .aload_n 0, 1), (32, .aload_n 0, 1), (33, .getfield 181, 3), (36, .bipush 64, 2), (38, .iload 5, 2), (40, .imul, 1), (41, .aload_n 0, 1), (42, .getfield 184, 3), (45, .iload 5, 2), (47, .iaload, 1), (48, .sipush 1000, 3), (51, .iload_n 2, 1), (52, .iadd, 1), (53, .invokevirtual 607, 3), (56, .aload_n 0, 1), (57, .getfield 437, 3), (60, .bipush 60, 2), (62, .if_icmp .gt 7, 3), (65, .iconst 1, 1), (66, .goto 4, 3), (69, .iconst 0, 1), (70, .istore_n 3, 1), (71, .iconst 0, 1), (72, .istore 6, 2), (74, .iload 6, 2), (76, .aload_n 0, 1), (77, .getfield 437, 3), (80, .if_icmp .ge 33, 3), (83, .iload_n 3, 1), (84, .ifCond .eq 29, 3), (87, .aload_n 0, 1), (88, .getfield 181, 3), (91, .bipush 64, 2), (93, .iload 5, 2), (95, .imul, 1), (96, .iload 6, 2), (98, .iadd, 1), (99, .aload_n 0, 1), (100, .getfield 99, 3), (103, .iload 6, 2), (105, .iaload, 1), (106, .iastore, 1), (107, .iinc 6 1, 3), (110, .goto (-36), 3), (113, .aload_n 0, 1), (114, .getfield 184, 3), (117, .iload 5, 2), (119, .aload_n 0, 1), (120, .getfield 437, 3), (123, .iastore, 1), (124, .iinc 4 1, 3), (127, .goto (-122), 3), (130, .iload_n 3, 1), (131, .ireturn, 1)], 2, 13)
end
section
/-! the methods -/
/-- EquationProofsModel.induction(I)I -/
def mt_252 : am_M := (⟨"EquationProofsModel", "induction", "(I)I"⟩, prog_15_method_101_code, 2, (some .int), ([(541, 13, 89), (153, 13, 78), (168, 13, 83)], [], [], [], [], [(563, 239), (610, 251), (613, 257)]), [(0, .aload_n 0, 1), (1, .invokevirtual 563, 3), (4, .ifCond .eq 8, 3), (7, .bipush (-103), 2), (9, .goto 59, 3), (12, .iload_n 1, 1), (13, .ifCond .lt 45, 3), (16, .iload_n 1, 1), (17, .aload_n 0, 1), (18, .getfield 541, 3), (21, .if_icmp .ge 37, 3), (24, .aload_n 0, 1), (25, .aload_n 0, 1), (26, .getfield 153, 3), (29, .iconst 0, 1), (30, .iaload, 1), (31, .iload_n 1, 1), (32, .invokevirtual 610, 3), (35, .ifCond .eq 23, 3), (38, .aload_n 0, 1), (39, .getfield 168, 3), (42, .aload_n 0, 1), (43, .getfield 153, 3), (46, .iconst 0, 1), (47, .iaload, 1), (48, .laload, 1), (49, .iload_n 1, 1), (50, .lshr, 1), (51, .lconst 1, 1), (52, .land, 1), (53, .lconst 1, 1), (54, .lcmp, 1), (55, .ifCond .ne 8, 3), (58, .bipush (-104), 2), (60, .goto 8, 3), (63, .aload_n 0, 1), (64, .iload_n 1, 1), (65, .invokevirtual 613, 3), (68, .ireturn, 1)], 1, 13)
/-- EquationProofsModel.inducted(I)I -/
def mt_253 : am_M := (⟨"EquationProofsModel", "inducted", "(I)I"⟩, prog_15_method_102_code, 9, (some .int), ([(153, 13, 78), (541, 13, 89), (190, 13, 91), (205, 13, 98), (171, 13, 84), (319, 13, 3), (16, 13, 5), (187, 13, 90), (168, 13, 83)], [(553, 13, 95), (604, 13, 99), (541, 13, 89)], [], [], [], [(616, 237), (619, 254), (623, 253), (627, 258), (631, 238)]), [(0, .aload_n 0, 1), (1, .getfield 153, 3), (4, .iconst 0, 1), (5, .iaload, 1), (6, .istore_n 2, 1), (7, .aload_n 0, 1), (8, .getfield 541, 3), (11, .istore_n 3, 1), (12, .aload_n 0, 1), (13, .iconst 0, 1), (14, .putfield 553, 3), (17, .iconst 1, 1), (18, .istore 4, 2), (20, .aload_n 0, 1), (21, .getfield 190, 3), (24, .iload_n 1, 1), (25, .baload, 1), (26, .ifCond .ne 43, 3), (29, .aload_n 0, 1), (30, .getfield 205, 3), (33, .iconst 0, 1), (34, .iconst 0, 1), (35, .iastore, 1), (36, .aload_n 0, 1), (37, .iconst 1, 1), (38, .putfield 604, 3), (41, .aload_n 0, 1), (42, .iload_n 2, 1), (43, .invokevirtual 616, 3), (46, .istore 5, 2), (48, .aload_n 0, 1), (49, .getfield 171, 3), (52, .iload 5, 2), (54, .dup2, 1), (55, .iaload, 1), (56, .iconst 1, 1), (57, .iadd, 1), (58, .iastore, 1), (59, .aload_n 0, 1), (60, .iload 5, 2), (62, .iload_n 2, 1), (63, .iload_n 1, 1), (64, .invokevirtual 619, 3), (67, .istore 4, 2), (69, .iconst 0, 1), (70, .istore 5, 2), (72, .iload 5, 2), (74, .aload_n 0, 1), (75, .getfield 319, 3), (78, .if_icmp .ge 161, 3), (81, .iload 4, 2), (83, .ifCond .eq 156, 3), (86, .aload_n 0, 1), (87, .getfield 16, 3), (90, .iload 5, 2), (92, .iaload, 1), (93, .aload_n 0, 1), (94, .getfield 187, 3), (97, .iload_n 1, 1), (98, .iaload, 1), (99, .if_icmp .ne 134, 3), (102, .aload_n 0, 1), (103, .getfield 541, 3), (106, .istore 6, 2), (108, .aload_n 0, 1), (109, .iload_n 2, 1), (110, .invokevirtual 616, 3), (113, .istore 7, 2), (115, .aload_n 0, 1), (116, .getfield 171, 3), (119, .iload 7, 2), (121, .dup2, 1), (122, .iaload, 1), (123, .iconst 1, 1), (124, .iadd, 1), (125, .iastore, 1), (126, .aload_n 0, 1), (127, .iload 5, 2), (129, .aload_n 0, 1), (130, .getfield 190, 3), (133, .iload_n 1, 1), (134, .baload, 1), (135, .invokevirtual 623, 3), (138, .ifCond .eq 18, 3), (141, .aload_n 0, 1), (142, .iload 7, 2), (144, .iload_n 2, 1), (145, .iload_n 1, 1), (146, .invokevirtual 619, 3), (149, .ifCond .eq 7, 3), (152, .iconst 1, 1), (153, .goto 4, 3), (156, .iconst 0, 1), (157, .istore 4, 2), (159, .iload 6, 2), (161, .istore 8, 2), (163, .iload 8, 2), (165, .aload_n 0, 1), (166, .getfield 541, 3), (169, .if_icmp .ge 64, 3), (172, .iload 4, 2), (174, .ifCond .eq 59, 3), (177, .aload_n 0, 1), (178, .getfield 168, 3), (181, .iload 7, 2), (183, .dup2, 1), (184, .laload, 1), (185, .lconst 1, 1), (186, .iload 8, 2), (188, .lshl, 1), (189, .lor, 1), (190, .lastore, 1), (191, .aload_n 0, 1), (192, .getfield 187, 3), (195, .iload 8, 2), (197, .iaload, 1), (198, .aload_n 0, 1), (199, .getfield 187, 3), (202, .iload_n 1, 1), (203, .iaload, 1), (204, .if_icmp .ne 16, 3), (207, .aload_n 0, 1), (208, .iload 7, 2), (210, .iload_n 2, 1), (211, .iload_n 1, 1), (212, .iload 8, 2), (214, .invokevirtual 627, 3), (217, .ifCond .eq 7, 3), (220, .iconst 1, 1), (221, .goto 4, 3), (224, .iconst 0, 1), (225, .istore 4, 2), (227, .iinc 8 1, 3), (230, .goto (-67), 3), (233, .iinc 5 1, 3), (236, .goto (-164), 3), (239, .aload_n 0, 1), (240, .iload 4, 2), (242, .invokevirtual 631, 3), (245, .istore 5, 2), (247, .aload_n 0, 1), (248, .iload 5, 2), (250, .bipush (-105), 2), (252, .if_icmp .ne 7, 3), (255, .iload_n 3, 1), (256, .goto 7, 3), (259, .aload_n 0, 1), (260, .getfield 541, 3), (263, .putfield 541, 3), (266, .iload 5, 2), (268, .ireturn, 1)], 1, 13)
/-- EquationProofsModel.isSupposed(IIII)Z -/
def mt_254 : am_M := (⟨"EquationProofsModel", "isSupposed", "(IIII)Z"⟩, prog_15_method_103_code, 10, (some .boolean), ([(177, 13, 86), (184, 13, 88), (162, 13, 81), (159, 13, 80), (181, 13, 87), (168, 13, 83)], [], [], [], [], [(528, 225)]), [(0, .aload_n 0, 1), (1, .getfield 177, 3), (4, .iload_n 1, 1), (5, .iaload, 1), (6, .bipush 8, 2), (8, .if_icmp .ne 5, 3), (11, .iconst 0, 1), (12, .ireturn, 1), (13, .iconst 0, 1), (14, .istore 5, 2), (16, .iload 5, 2), (18, .iconst 2, 1), (19, .if_icmp .ge 159, 3), (22, .iconst 2, 1), (23, .bipush 8, 2), (25, .iload_n 1, 1), (26, .imul, 1), (27, .aload_n 0, 1), (28, .getfield 177, 3), (31, .iload_n 1, 1), (32, .iaload, 1), (33, .iadd, 1), (34, .imul, 1), (35, .iload 5, 2), (37, .iadd, 1), (38, .istore 6, 2), (40, .aload_n 0, 1), (41, .getfield 184, 3), (44, .iload 6, 2), (46, .aload_n 0, 1), (47, .getfield 162, 3), (50, .iconst 2, 1), (51, .iload_n 2, 1), (52, .imul, 1), (53, .iload 5, 2), (55, .iadd, 1), (56, .iaload, 1), (57, .iastore, 1), (58, .iconst 0, 1), (59, .istore 7, 2), (61, .iload 7, 2), (63, .aload_n 0, 1), (64, .getfield 184, 3), (67, .iload 6, 2), (69, .iaload, 1), (70, .if_icmp .ge 102, 3), (73, .aload_n 0, 1), (74, .getfield 159, 3), (77, .aload_n 0, 1), (78, .iload_n 2, 1), (79, .iload 5, 2), (81, .invokevirtual 528, 3), (84, .iload 7, 2), (86, .iadd, 1), (87, .iaload, 1), (88, .istore 8, 2), (90, .iload 8, 2), (92, .sipush 1000, 3), (95, .isub, 1), (96, .istore 9, 2), (98, .aload_n 0, 1), (99, .getfield 181, 3), (102, .bipush 64, 2), (104, .iload 6, 2), (106, .imul, 1), (107, .iload 7, 2), (109, .iadd, 1), (110, .iload 8, 2), (112, .sipush 1000, 3), (115, .if_icmp .ge 8, 3), (118, .iload 8, 2), (120, .goto 45, 3), (123, .iload 9, 2), (125, .iload_n 3, 1), (126, .if_icmp .ne 12, 3), (129, .sipush 1000, 3), (132, .iload 4, 2), (134, .iadd, 1), (135, .goto 30, 3), (138, .aload_n 0, 1), (139, .getfield 168, 3), (142, .iload_n 2, 1), (143, .laload, 1), (144, .iload 9, 2), (146, .lshr, 1), (147, .lconst 1, 1), (148, .land, 1), (149, .lconst 1, 1), (150, .lcmp, 1), (151, .ifCond .ne 8, 3), (154, .iload 8, 2), (156, .goto 9, 3), (159, .sipush 2000, 3), (162, .iload 9, 2), (164, .iadd, 1), (165, .iastore, 1), (166, .iinc 7 1, 3), (169, .goto (-108), 3), (172, .iinc 5 1, 3), (175, .goto (-159), 3), (178, .aload_n 0, 1), (179, .getfield 177, 3), (182, .iload_n 1, 1), (183, .dup2, 1), (184, .iaload, 1), (185, .iconst 1, 1), (186, .iadd, 1), (187, .iastore, 1), (188, .iconst 1, 1), (189, .ireturn, 1)], 4, 13)
/-- EquationProofsModel.cases(II)I -/
def mt_255 : am_M := (⟨"EquationProofsModel", "cases", "(II)I"⟩, prog_15_method_104_code, 3, (some .int), ([], [], [], [], [], [(559, 240), (563, 239), (635, 260)]), [(0, .iload_n 1, 1), (1, .iload_n 2, 1), (2, .invokestatic 559, 3), (5, .ifCond .eq 8, 3), (8, .bipush (-102), 2), (10, .goto 22, 3), (13, .aload_n 0, 1), (14, .invokevirtual 563, 3), (17, .ifCond .eq 8, 3), (20, .bipush (-103), 2), (22, .goto 10, 3), (25, .aload_n 0, 1), (26, .iload_n 1, 1), (27, .iload_n 2, 1), (28, .iconst (-1), 1), (29, .invokevirtual 635, 3), (32, .ireturn, 1)], 2, 13)
/-- EquationProofsModel.casesAt(III)I -/
def mt_256 : am_M := (⟨"EquationProofsModel", "casesAt", "(III)I"⟩, prog_15_method_105_code, 6, (some .int), ([(153, 13, 78), (193, 13, 92)], [], [], [], [], [(569, 232), (572, 234), (638, 261), (641, 262)]), [(0, .aload_n 0, 1), (1, .getfield 153, 3), (4, .iconst 0, 1), (5, .iaload, 1), (6, .istore 4, 2), (8, .aload_n 0, 1), (9, .iload 4, 2), (11, .iload_n 1, 1), (12, .invokevirtual 569, 3), (15, .iload_n 3, 1), (16, .iconst (-1), 1), (17, .if_icmp .eq 7, 3), (20, .iload_n 3, 1), (21, .goto 8, 3), (24, .aload_n 0, 1), (25, .iload_n 2, 1), (26, .invokevirtual 572, 3), (29, .istore 5, 2), (31, .iload 5, 2), (33, .iconst (-1), 1), (34, .if_icmp .eq 15, 3), (37, .aload_n 0, 1), (38, .getfield 193, 3), (41, .iload 5, 2), (43, .iaload, 1), (44, .bipush 100, 2), (46, .if_icmp .ge 6, 3), (49, .bipush (-104), 2), (51, .ireturn, 1), (52, .aload_n 0, 1), (53, .getfield 193, 3), (56, .iload 5, 2), (58, .iaload, 1), (59, .sipush 1000, 3), (62, .if_icmp .lt 21, 3), (65, .aload_n 0, 1), (66, .aload_n 0, 1), (67, .getfield 193, 3), (70, .iload 5, 2), (72, .iaload, 1), (73, .sipush 1000, 3), (76, .isub, 1), (77, .invokevirtual 638, 3), (80, .goto 9, 3), (83, .aload_n 0, 1), (84, .iload 5, 2), (86, .invokevirtual 641, 3), (89, .ireturn, 1)], 3, 13)
/-- EquationProofsModel.casesOf(I)I -/
def mt_257 : am_M := (⟨"EquationProofsModel", "casesOf", "(I)I"⟩, prog_15_method_106_code, 10, (some .int), ([(153, 13, 78), (541, 13, 89), (168, 13, 83), (190, 13, 91), (319, 13, 3), (16, 13, 5), (187, 13, 90), (171, 13, 84), (205, 13, 98)], [(553, 13, 95), (604, 13, 99), (541, 13, 89)], [], [], [], [(616, 237), (623, 253), (619, 254), (644, 255), (631, 238)]), [(0, .aload_n 0, 1), (1, .getfield 153, 3), (4, .iconst 0, 1), (5, .iaload, 1), (6, .istore_n 2, 1), (7, .aload_n 0, 1), (8, .getfield 541, 3), (11, .istore_n 3, 1), (12, .aload_n 0, 1), (13, .getfield 168, 3), (16, .iload_n 2, 1), (17, .laload, 1), (18, .iload_n 1, 1), (19, .lshr, 1), (20, .lconst 1, 1), (21, .land, 1), (22, .lconst 1, 1), (23, .lcmp, 1), (24, .ifCond .ne 7, 3), (27, .iconst 1, 1), (28, .goto 4, 3), (31, .iconst 0, 1), (32, .istore 4, 2), (34, .aload_n 0, 1), (35, .iconst 0, 1), (36, .putfield 553, 3), (39, .iconst 1, 1), (40, .istore 5, 2), (42, .aload_n 0, 1), (43, .getfield 190, 3), (46, .iload_n 1, 1), (47, .baload, 1), (48, .ifCond .eq 7, 3), (51, .iconst 0, 1), (52, .goto 4, 3), (55, .iconst (-1), 1), (56, .istore 6, 2), (58, .iload 6, 2), (60, .aload_n 0, 1), (61, .getfield 319, 3), (64, .if_icmp .ge 166, 3), (67, .iload 5, 2), (69, .ifCond .eq 161, 3), (72, .iload 6, 2), (74, .iconst (-1), 1), (75, .if_icmp .eq 19, 3), (78, .aload_n 0, 1), (79, .getfield 16, 3), (82, .iload 6, 2), (84, .iaload, 1), (85, .aload_n 0, 1), (86, .getfield 187, 3), (89, .iload_n 1, 1), (90, .iaload, 1), (91, .if_icmp .ne 133, 3), (94, .aload_n 0, 1), (95, .getfield 541, 3), (98, .istore 7, 2), (100, .aload_n 0, 1), (101, .iload_n 2, 1), (102, .invokevirtual 616, 3), (105, .istore 8, 2), (107, .aload_n 0, 1), (108, .getfield 171, 3), (111, .iload 8, 2), (113, .dup2, 1), (114, .iaload, 1), (115, .iconst 1, 1), (116, .iadd, 1), (117, .iastore, 1), (118, .iload 6, 2), (120, .iconst (-1), 1), (121, .if_icmp .ne 18, 3), (124, .aload_n 0, 1), (125, .getfield 205, 3), (128, .iconst 0, 1), (129, .iconst 0, 1), (130, .iastore, 1), (131, .aload_n 0, 1), (132, .iconst 1, 1), (133, .putfield 604, 3), (136, .goto 17, 3), (139, .aload_n 0, 1), (140, .iload 6, 2), (142, .aload_n 0, 1), (143, .getfield 190, 3), (146, .iload_n 1, 1), (147, .baload, 1), (148, .invokevirtual 623, 3), (151, .istore 5, 2), (153, .iload 5, 2), (155, .ifCond .eq 28, 3), (158, .aload_n 0, 1), (159, .iload 8, 2), (161, .iload_n 2, 1), (162, .iload_n 1, 1), (163, .invokevirtual 619, 3), (166, .ifCond .eq 17, 3), (169, .aload_n 0, 1), (170, .iload 8, 2), (172, .iload_n 1, 1), (173, .invokevirtual 644, 3), (176, .ifCond .eq 7, 3), (179, .iconst 1, 1), (180, .goto 4, 3), (183, .iconst 0, 1), (184, .istore 5, 2), (186, .iload 7, 2), (188, .istore 9, 2), (190, .iload 9, 2), (192, .aload_n 0, 1), (193, .getfield 541, 3), (196, .if_icmp .ge 28, 3), (199, .iload 4, 2), (201, .ifCond .eq 23, 3), (204, .aload_n 0, 1), (205, .getfield 168, 3), (208, .iload 8, 2), (210, .dup2, 1), (211, .laload, 1), (212, .lconst 1, 1), (213, .iload 9, 2), (215, .lshl, 1), (216, .lor, 1), (217, .lastore, 1), (218, .iinc 9 1, 3), (221, .goto (-31), 3), (224, .iinc 6 1, 3), (227, .goto (-169), 3), (230, .aload_n 0, 1), (231, .iload 5, 2), (233, .invokevirtual 631, 3), (236, .istore 6, 2), (238, .aload_n 0, 1), (239, .iload 6, 2), (241, .bipush (-105), 2), (243, .if_icmp .ne 7, 3), (246, .iload_n 3, 1), (247, .goto 7, 3), (250, .aload_n 0, 1), (251, .getfield 541, 3), (254, .putfield 541, 3), (257, .iload 6, 2), (259, .ireturn, 1)], 1, 13)
/-- EquationProofsModel.casesOfCall(I)I -/
def mt_258 : am_M := (⟨"EquationProofsModel", "casesOfCall", "(I)I"⟩, prog_15_method_107_code, 12, (some .int), ([(153, 13, 78), (541, 13, 89), (35, 13, 12), (193, 13, 92), (647, 13, 101), (208, 13, 100), (319, 13, 3), (16, 13, 5), (171, 13, 84), (168, 13, 83), (205, 13, 98)], [(647, 13, 101), (553, 13, 95), (604, 13, 99), (541, 13, 89)], [], [], [], [(427, 159), (616, 237), (623, 253), (650, 263), (653, 264), (631, 238)]), [(0, .aload_n 0, 1), (1, .getfield 153, 3), (4, .iconst 0, 1), (5, .iaload, 1), (6, .istore_n 2, 1), (7, .aload_n 0, 1), (8, .getfield 541, 3), (11, .istore_n 3, 1), (12, .aload_n 0, 1), (13, .getfield 35, 3), (16, .aload_n 0, 1), (17, .getfield 193, 3), (20, .iload_n 1, 1), (21, .iaload, 1), (22, .bipush 100, 2), (24, .isub, 1), (25, .iaload, 1), (26, .istore 4, 2), (28, .aload_n 0, 1), (29, .aload_n 0, 1), (30, .aload_n 0, 1), (31, .getfield 193, 3), (34, .iload_n 1, 1), (35, .invokevirtual 427, 3), (38, .iload_n 1, 1), (39, .isub, 1), (40, .putfield 647, 3), (43, .lconst 0, 1), (44, .lstore 5, 2), (46, .iconst 0, 1), (47, .istore 7, 2), (49, .iload 7, 2), (51, .aload_n 0, 1), (52, .getfield 647, 3), (55, .if_icmp .ge 60, 3), (58, .aload_n 0, 1), (59, .getfield 208, 3), (62, .iload 7, 2), (64, .aload_n 0, 1), (65, .getfield 193, 3), (68, .iload_n 1, 1), (69, .iload 7, 2), (71, .iadd, 1), (72, .iaload, 1), (73, .iastore, 1), (74, .lload 5, 2), (76, .aload_n 0, 1), (77, .getfield 208, 3), (80, .iload 7, 2), (82, .iaload, 1), (83, .sipush 1000, 3), (86, .if_icmp .lt 19, 3), (89, .lconst 1, 1), (90, .aload_n 0, 1), (91, .getfield 208, 3), (94, .iload 7, 2), (96, .iaload, 1), (97, .sipush 1000, 3), (100, .isub, 1), (101, .lshl, 1), (102, .goto 4, 3), (105, .lconst 0, 1), (106, .lor, 1), (107, .lstore 5, 2), (109, .iinc 7 1, 3), (112, .goto (-63), 3), (115, .aload_n 0, 1), (116, .iconst 0, 1), (117, .putfield 553, 3), (120, .iconst 1, 1), (121, .istore 7, 2), (123, .iconst (-1), 1), (124, .istore 8, 2), (126, .iload 8, 2), (128, .aload_n 0, 1), (129, .getfield 319, 3), (132, .if_icmp .ge 162, 3), (135, .iload 7, 2), (137, .ifCond .eq 157, 3), (140, .iload 8, 2), (142, .iconst (-1), 1), (143, .if_icmp .eq 15, 3), (146, .aload_n 0, 1), (147, .getfield 16, 3), (150, .iload 8, 2), (152, .iaload, 1), (153, .iload 4, 2), (155, .if_icmp .ne 133, 3), (158, .aload_n 0, 1), (159, .getfield 541, 3), (162, .istore 9, 2), (164, .aload_n 0, 1), (165, .iload_n 2, 1), (166, .invokevirtual 616, 3), (169, .istore 10, 2), (171, .aload_n 0, 1), (172, .getfield 171, 3), (175, .iload 10, 2), (177, .dup2, 1), (178, .iaload, 1), (179, .iconst 1, 1), (180, .iadd, 1), (181, .iastore, 1), (182, .aload_n 0, 1), (183, .getfield 168, 3), (186, .iload 10, 2), (188, .dup2, 1), (189, .laload, 1), (190, .lload 5, 2), (192, .lor, 1), (193, .lastore, 1), (194, .iload 8, 2), (196, .iconst (-1), 1), (197, .if_icmp .ne 18, 3), (200, .aload_n 0, 1), (201, .getfield 205, 3), (204, .iconst 0, 1), (205, .iconst 0, 1), (206, .iastore, 1), (207, .aload_n 0, 1), (208, .iconst 1, 1), (209, .putfield 604, 3), (212, .goto 12, 3), (215, .aload_n 0, 1), (216, .iload 8, 2), (218, .iconst 0, 1), (219, .invokevirtual 623, 3), (222, .istore 7, 2), (224, .iload 9, 2), (226, .istore 11, 2), (228, .iload 11, 2), (230, .aload_n 0, 1), (231, .getfield 541, 3), (234, .if_icmp .ge 23, 3), (237, .aload_n 0, 1), (238, .getfield 168, 3), (241, .iload 10, 2), (243, .dup2, 1), (244, .laload, 1), (245, .lconst 1, 1), (246, .iload 11, 2), (248, .lshl, 1), (249, .lor, 1), (250, .lastore, 1), (251, .iinc 11 1, 3), (254, .goto (-26), 3), (257, .iload 7, 2), (259, .ifCond .eq 26, 3), (262, .aload_n 0, 1), (263, .iload 10, 2), (265, .iload_n 2, 1), (266, .invokevirtual 650, 3), (269, .ifCond .eq 16, 3), (272, .aload_n 0, 1), (273, .iload 10, 2), (275, .invokevirtual 653, 3), (278, .ifCond .eq 7, 3), (281, .iconst 1, 1), (282, .goto 4, 3), (285, .iconst 0, 1), (286, .istore 7, 2), (288, .iinc 8 1, 3), (291, .goto (-165), 3), (294, .aload_n 0, 1), (295, .iload 7, 2), (297, .invokevirtual 631, 3), (300, .istore 8, 2), (302, .aload_n 0, 1), (303, .iload 8, 2), (305, .bipush (-105), 2), (307, .if_icmp .ne 7, 3), (310, .iload_n 3, 1), (311, .goto 7, 3), (314, .aload_n 0, 1), (315, .getfield 541, 3), (318, .putfield 541, 3), (321, .iload 8, 2), (323, .ireturn, 1)], 1, 13)
/-- EquationProofsModel.isCallPut(II)Z -/
def mt_259 : am_M := (⟨"EquationProofsModel", "isCallPut", "(II)Z"⟩, prog_15_method_108_code, 7, (some .boolean), ([(547, 13, 93), (647, 13, 101), (193, 13, 92), (208, 13, 100), (604, 13, 99), (99, 13, 52), (437, 13, 53), (205, 13, 98)], [(437, 13, 53)], [], [], [], [(569, 232), (582, 245), (575, 233)]), [(0, .iconst 1, 1), (1, .istore_n 3, 1), (2, .iconst 0, 1), (3, .istore 4, 2), (5, .iload 4, 2), (7, .iconst 2, 1), (8, .if_icmp .ge 175, 3), (11, .iload_n 3, 1), (12, .ifCond .eq 171, 3), (15, .aload_n 0, 1), (16, .iload_n 2, 1), (17, .iload 4, 2), (19, .invokevirtual 569, 3), (22, .aload_n 0, 1), (23, .iconst 0, 1), (24, .putfield 437, 3), (27, .iconst 0, 1), (28, .istore 5, 2), (30, .iload 5, 2), (32, .aload_n 0, 1), (33, .getfield 547, 3), (36, .if_icmp .ge 133, 3), (39, .iload 5, 2), (41, .aload_n 0, 1), (42, .getfield 647, 3), (45, .iadd, 1), (46, .aload_n 0, 1), (47, .getfield 547, 3), (50, .if_icmp .gt 87, 3), (53, .aload_n 0, 1), (54, .getfield 193, 3), (57, .iload 5, 2), (59, .iload 5, 2), (61, .aload_n 0, 1), (62, .getfield 647, 3), (65, .iadd, 1), (66, .aload_n 0, 1), (67, .getfield 208, 3), (70, .iconst 0, 1), (71, .aload_n 0, 1), (72, .getfield 647, 3), (75, .invokestatic 582, 3), (78, .ifCond .eq 59, 3), (81, .iconst 0, 1), (82, .istore 6, 2), (84, .iload 6, 2), (86, .aload_n 0, 1), (87, .getfield 604, 3), (90, .if_icmp .ge 35, 3), (93, .aload_n 0, 1), (94, .getfield 99, 3), (97, .aload_n 0, 1), (98, .getfield 437, 3), (101, .aload_n 0, 1), (102, .getfield 205, 3), (105, .iload 6, 2), (107, .iaload, 1), (108, .iastore, 1), (109, .aload_n 0, 1), (110, .dup, 1), (111, .getfield 437, 3), (114, .iconst 1, 1), (115, .iadd, 1), (116, .putfield 437, 3), (119, .iinc 6 1, 3), (122, .goto (-38), 3), (125, .iload 5, 2), (127, .aload_n 0, 1), (128, .getfield 647, 3), (131, .iadd, 1), (132, .istore 5, 2), (134, .goto (-104), 3), (137, .aload_n 0, 1), (138, .getfield 99, 3), (141, .aload_n 0, 1), (142, .getfield 437, 3), (145, .aload_n 0, 1), (146, .getfield 193, 3), (149, .iload 5, 2), (151, .iaload, 1), (152, .iastore, 1), (153, .aload_n 0, 1), (154, .dup, 1), (155, .getfield 437, 3), (158, .iconst 1, 1), (159, .iadd, 1), (160, .putfield 437, 3), (163, .iinc 5 1, 3), (166, .goto (-136), 3), (169, .aload_n 0, 1), (170, .iload_n 1, 1), (171, .iload 4, 2), (173, .invokevirtual 575, 3), (176, .istore_n 3, 1), (177, .iinc 4 1, 3), (180, .goto (-175), 3), (183, .iload_n 3, 1), (184, .ireturn, 1)], 2, 13)
/-- EquationProofsModel.isToldFor(I)Z -/
def mt_260 : am_M := (⟨"EquationProofsModel", "isToldFor", "(I)Z"⟩, prog_15_method_109_code, 4, (some .boolean), ([(177, 13, 86), (184, 13, 88), (647, 13, 101), (604, 13, 99), (181, 13, 87), (208, 13, 100), (205, 13, 98)], [], [], [], [], []), [(0, .aload_n 0, 1), (1, .getfield 177, 3), (4, .iload_n 1, 1), (5, .iaload, 1), (6, .bipush 8, 2), (8, .if_icmp .ne 5, 3), (11, .iconst 0, 1), (12, .ireturn, 1), (13, .iconst 2, 1), (14, .bipush 8, 2), (16, .iload_n 1, 1), (17, .imul, 1), (18, .aload_n 0, 1), (19, .getfield 177, 3), (22, .iload_n 1, 1), (23, .iaload, 1), (24, .iadd, 1), (25, .imul, 1), (26, .istore_n 2, 1), (27, .aload_n 0, 1), (28, .getfield 184, 3), (31, .iload_n 2, 1), (32, .aload_n 0, 1), (33, .getfield 647, 3), (36, .iastore, 1), (37, .aload_n 0, 1), (38, .getfield 184, 3), (41, .iload_n 2, 1), (42, .iconst 1, 1), (43, .iadd, 1), (44, .aload_n 0, 1), (45, .getfield 604, 3), (48, .iastore, 1), (49, .iconst 0, 1), (50, .istore_n 3, 1), (51, .iload_n 3, 1), (52, .aload_n 0, 1), (53, .getfield 647, 3), (56, .if_icmp .ge 26, 3), (59, .aload_n 0, 1), (60, .getfield 181, 3), (63, .bipush 64, 2), (65, .iload_n 2, 1), (66, .imul, 1), (67, .iload_n 3, 1), (68, .iadd, 1), (69, .aload_n 0, 1), (70, .getfield 208, 3), (73, .iload_n 3, 1), (74, .iaload, 1), (75, .iastore, 1), (76, .iinc 3 1, 3), (79, .goto (-28), 3), (82, .iconst 0, 1), (83, .istore_n 3, 1), (84, .iload_n 3, 1), (85, .aload_n 0, 1), (86, .getfield 604, 3), (89, .if_icmp .ge 28, 3), (92, .aload_n 0, 1), (93, .getfield 181, 3), (96, .bipush 64, 2), (98, .iload_n 2, 1), (99, .iconst 1, 1), (100, .iadd, 1), (101, .imul, 1), (102, .iload_n 3, 1), (103, .iadd, 1), (104, .aload_n 0, 1), (105, .getfield 205, 3), (108, .iload_n 3, 1), (109, .iaload, 1), (110, .iastore, 1), (111, .iinc 3 1, 3), (114, .goto (-30), 3), (117, .aload_n 0, 1), (118, .getfield 177, 3), (121, .iload_n 1, 1), (122, .dup2, 1), (123, .iaload, 1), (124, .iconst 1, 1), (125, .iadd, 1), (126, .iastore, 1), (127, .iconst 1, 1), (128, .ireturn, 1)], 1, 13)
/-- EquationProofsModel.same()I -/
def mt_261 : am_M := (⟨"EquationProofsModel", "same", "()I"⟩, prog_15_method_110_code, 2, (some .int), ([(153, 13, 78), (159, 13, 80), (162, 13, 81)], [(553, 13, 95)], [], [], [], [(563, 239), (528, 225), (582, 245), (631, 238)]), [(0, .aload_n 0, 1), (1, .invokevirtual 563, 3), (4, .ifCond .eq 6, 3), (7, .bipush (-103), 2), (9, .ireturn, 1), (10, .aload_n 0, 1), (11, .getfield 153, 3), (14, .iconst 0, 1), (15, .iaload, 1), (16, .istore_n 1, 1), (17, .aload_n 0, 1), (18, .getfield 159, 3), (21, .aload_n 0, 1), (22, .iload_n 1, 1), (23, .iconst 0, 1), (24, .invokevirtual 528, 3), (27, .aload_n 0, 1), (28, .iload_n 1, 1), (29, .iconst 0, 1), (30, .invokevirtual 528, 3), (33, .aload_n 0, 1), (34, .getfield 162, 3), (37, .iconst 2, 1), (38, .iload_n 1, 1), (39, .imul, 1), (40, .iaload, 1), (41, .iadd, 1), (42, .aload_n 0, 1), (43, .getfield 159, 3), (46, .aload_n 0, 1), (47, .iload_n 1, 1), (48, .iconst 1, 1), (49, .invokevirtual 528, 3), (52, .aload_n 0, 1), (53, .iload_n 1, 1), (54, .iconst 1, 1), (55, .invokevirtual 528, 3), (58, .aload_n 0, 1), (59, .getfield 162, 3), (62, .iconst 2, 1), (63, .iload_n 1, 1), (64, .imul, 1), (65, .iconst 1, 1), (66, .iadd, 1), (67, .iaload, 1), (68, .iadd, 1), (69, .invokestatic 582, 3), (72, .ifCond .ne 6, 3), (75, .bipush (-104), 2), (77, .ireturn, 1), (78, .aload_n 0, 1), (79, .iconst 0, 1), (80, .putfield 553, 3), (83, .aload_n 0, 1), (84, .iconst 1, 1), (85, .invokevirtual 631, 3), (88, .ireturn, 1)], 0, 13)
/-- EquationProofsModel.parts()I -/
def mt_262 : am_M := (⟨"EquationProofsModel", "parts", "()I"⟩, prog_15_method_111_code, 8, (some .int), ([(153, 13, 78), (159, 13, 80), (165, 13, 82), (23, 13, 7), (193, 13, 92)], [(553, 13, 95), (437, 13, 53)], [], [], [], [(563, 239), (528, 225), (431, 161), (244, 158), (616, 237), (569, 232), (427, 159), (440, 202), (575, 233), (631, 238)]), [(0, .aload_n 0, 1), (1, .invokevirtual 563, 3), (4, .ifCond .eq 6, 3), (7, .bipush (-103), 2), (9, .ireturn, 1), (10, .aload_n 0, 1), (11, .getfield 153, 3), (14, .iconst 0, 1), (15, .iaload, 1), (16, .istore_n 1, 1), (17, .aload_n 0, 1), (18, .getfield 159, 3), (21, .aload_n 0, 1), (22, .iload_n 1, 1), (23, .iconst 0, 1), (24, .invokevirtual 528, 3), (27, .iaload, 1), (28, .istore_n 2, 1), (29, .iload_n 2, 1), (30, .invokestatic 431, 3), (33, .ifCond .eq 18, 3), (36, .aload_n 0, 1), (37, .getfield 159, 3), (40, .aload_n 0, 1), (41, .iload_n 1, 1), (42, .iconst 1, 1), (43, .invokevirtual 528, 3), (46, .iaload, 1), (47, .iload_n 2, 1), (48, .if_icmp .eq 6, 3), (51, .bipush (-104), 2), (53, .ireturn, 1), (54, .aload_n 0, 1), (55, .iconst 0, 1), (56, .putfield 553, 3), (59, .iconst 0, 1), (60, .istore_n 3, 1), (61, .iload_n 3, 1), (62, .aload_n 0, 1), (63, .iload_n 2, 1), (64, .invokevirtual 244, 3), (67, .if_icmp .ge 121, 3), (70, .aload_n 0, 1), (71, .iload_n 1, 1), (72, .invokevirtual 616, 3), (75, .istore 4, 2), (77, .aload_n 0, 1), (78, .getfield 165, 3), (81, .iload 4, 2), (83, .aload_n 0, 1), (84, .getfield 23, 3), (87, .iconst 3, 1), (88, .iload_n 2, 1), (89, .iconst 1, 1), (90, .isub, 1), (91, .imul, 1), (92, .iload_n 3, 1), (93, .iadd, 1), (94, .iaload, 1), (95, .iastore, 1), (96, .iconst 0, 1), (97, .istore 5, 2), (99, .iload 5, 2), (101, .iconst 2, 1), (102, .if_icmp .ge 80, 3), (105, .aload_n 0, 1), (106, .iload_n 1, 1), (107, .iload 5, 2), (109, .invokevirtual 569, 3), (112, .iconst 1, 1), (113, .istore 6, 2), (115, .iconst 0, 1), (116, .istore 7, 2), (118, .iload 7, 2), (120, .iload_n 3, 1), (121, .if_icmp .ge 21, 3), (124, .aload_n 0, 1), (125, .aload_n 0, 1), (126, .getfield 193, 3), (129, .iload 6, 2), (131, .invokevirtual 427, 3), (134, .istore 6, 2), (136, .iinc 7 1, 3), (139, .goto (-21), 3), (142, .aload_n 0, 1), (143, .iconst 0, 1), (144, .putfield 437, 3), (147, .aload_n 0, 1), (148, .aload_n 0, 1), (149, .getfield 193, 3), (152, .iload 6, 2), (154, .aload_n 0, 1), (155, .aload_n 0, 1), (156, .getfield 193, 3), (159, .iload 6, 2), (161, .invokevirtual 427, 3), (164, .invokevirtual 440, 3), (167, .aload_n 0, 1), (168, .iload 4, 2), (170, .iload 5, 2), (172, .invokevirtual 575, 3), (175, .pop, 1), (176, .iinc 5 1, 3), (179, .goto (-80), 3), (182, .iinc 3 1, 3), (185, .goto (-124), 3), (188, .aload_n 0, 1), (189, .iconst 1, 1), (190, .invokevirtual 631, 3), (193, .ireturn, 1)], 0, 13)
/-- EquationProofsModel.move([I[I)V -/
def mt_263 : am_M := (⟨"EquationProofsModel", "move", "([I[I)V"⟩, prog_15_method_112_code, 3, none, ([], [], [], [], [], []), [(0, .iconst 0, 1), (1, .istore_n 2, 1), (2, .iload_n 2, 1), (3, .aload_n 0, 1), (4, .arraylength, 1), (5, .if_icmp .ge 15, 3), (8, .aload_n 1, 1), (9, .iload_n 2, 1), (10, .aload_n 0, 1), (11, .iload_n 2, 1), (12, .iaload, 1), (13, .iastore, 1), (14, .iinc 2 1, 3), (17, .goto (-15), 3), (20, .return_, 1)], 2, 1000)
/-- EquationProofsModel.save()V -/
def mt_264 : am_M := (⟨"EquationProofsModel", "save", "()V"⟩, prog_15_method_113_code, 2, none, ([(159, 13, 80), (211, 13, 102), (162, 13, 81), (214, 13, 103), (165, 13, 82), (217, 13, 104), (171, 13, 84), (223, 13, 106), (177, 13, 86), (226, 13, 107), (181, 13, 87), (229, 13, 108), (184, 13, 88), (232, 13, 109), (153, 13, 78), (235, 13, 110), (220, 13, 105), (168, 13, 83), (238, 13, 111), (156, 13, 79), (414, 13, 77), (541, 13, 89), (417, 13, 76)], [(660, 13, 112), (663, 13, 113), (666, 13, 114)], [], [], [], [(656, 267)]), [(0, .aload_n 0, 1), (1, .getfield 159, 3), (4, .aload_n 0, 1), (5, .getfield 211, 3), (8, .invokestatic 656, 3), (11, .aload_n 0, 1), (12, .getfield 162, 3), (15, .aload_n 0, 1), (16, .getfield 214, 3), (19, .invokestatic 656, 3), (22, .aload_n 0, 1), (23, .getfield 165, 3), (26, .aload_n 0, 1), (27, .getfield 217, 3), (30, .invokestatic 656, 3), (33, .aload_n 0, 1), (34, .getfield 171, 3), (37, .aload_n 0, 1), (38, .getfield 223, 3), (41, .invokestatic 656, 3), (44, .aload_n 0, 1), (45, .getfield 177, 3), (48, .aload_n 0, 1), (49, .getfield 226, 3), (52, .invokestatic 656, 3), (55, .aload_n 0, 1), (56, .getfield 181, 3), (59, .aload_n 0, 1), (60, .getfield 229, 3), (63, .invokestatic 656, 3), (66, .aload_n 0, 1), (67, .getfield 184, 3), (70, .aload_n 0, 1), (71, .getfield 232, 3), (74, .invokestatic 656, 3), (77, .aload_n 0, 1), (78, .getfield 153, 3), (81, .aload_n 0, 1), (82, .getfield 235, 3), (85, .invokestatic 656, 3), (88, .iconst 0, 1), (89, .istore_n 1, 1), (90, .iload_n 1, 1), (91, .bipush 40, 2), (93, .if_icmp .ge 33, 3), (96, .aload_n 0, 1), (97, .getfield 220, 3), (100, .iload_n 1, 1), (101, .aload_n 0, 1), (102, .getfield 168, 3), (105, .iload_n 1, 1), (106, .laload, 1), (107, .lastore, 1), (108, .aload_n 0, 1), (109, .getfield 238, 3), (112, .iload_n 1, 1), (113, .aload_n 0, 1), (114, .getfield 156, 3), (117, .iload_n 1, 1), (118, .baload, 1), (119, .bastore, 1), (120, .iinc 1 1, 3), (123, .goto (-33), 3), (126, .aload_n 0, 1), (127, .aload_n 0, 1), (128, .getfield 414, 3), (131, .putfield 660, 3), (134, .aload_n 0, 1), (135, .aload_n 0, 1), (136, .getfield 541, 3), (139, .putfield 663, 3), (142, .aload_n 0, 1), (143, .aload_n 0, 1), (144, .getfield 417, 3), (147, .putfield 666, 3), (150, .return_, 1)], 0, 13)
/-- EquationProofsModel.restore()V -/
def mt_265 : am_M := (⟨"EquationProofsModel", "restore", "()V"⟩, prog_15_method_114_code, 2, none, ([(211, 13, 102), (159, 13, 80), (214, 13, 103), (162, 13, 81), (217, 13, 104), (165, 13, 82), (223, 13, 106), (171, 13, 84), (226, 13, 107), (177, 13, 86), (229, 13, 108), (181, 13, 87), (232, 13, 109), (184, 13, 88), (235, 13, 110), (153, 13, 78), (168, 13, 83), (220, 13, 105), (156, 13, 79), (238, 13, 111), (660, 13, 112), (663, 13, 113), (666, 13, 114)], [(414, 13, 77), (541, 13, 89), (417, 13, 76)], [], [], [], [(656, 267), (544, 227)]), [(0, .aload_n 0, 1), (1, .getfield 211, 3), (4, .aload_n 0, 1), (5, .getfield 159, 3), (8, .invokestatic 656, 3), (11, .aload_n 0, 1), (12, .getfield 214, 3), (15, .aload_n 0, 1), (16, .getfield 162, 3), (19, .invokestatic 656, 3), (22, .aload_n 0, 1), (23, .getfield 217, 3), (26, .aload_n 0, 1), (27, .getfield 165, 3), (30, .invokestatic 656, 3), (33, .aload_n 0, 1), (34, .getfield 223, 3), (37, .aload_n 0, 1), (38, .getfield 171, 3), (41, .invokestatic 656, 3), (44, .aload_n 0, 1), (45, .getfield 226, 3), (48, .aload_n 0, 1), (49, .getfield 177, 3), (52, .invokestatic 656, 3), (55, .aload_n 0, 1), (56, .getfield 229, 3), (59, .aload_n 0, 1), (60, .getfield 181, 3), (63, .invokestatic 656, 3), (66, .aload_n 0, 1), (67, .getfield 232, 3), (70, .aload_n 0, 1), (71, .getfield 184, 3), (74, .invokestatic 656, 3), (77, .aload_n 0, 1), (78, .getfield 235, 3), (81, .aload_n 0, 1), (82, .getfield 153, 3), (85, .invokestatic 656, 3), (88, .iconst 0, 1), (89, .istore_n 1, 1), (90, .iload_n 1, 1), (91, .bipush 40, 2), (93, .if_icmp .ge 33, 3), (96, .aload_n 0, 1), (97, .getfield 168, 3), (100, .iload_n 1, 1), (101, .aload_n 0, 1), (102, .getfield 220, 3), (105, .iload_n 1, 1), (106, .laload, 1), (107, .lastore, 1), (108, .aload_n 0, 1), (109, .getfield 156, 3), (112, .iload_n 1, 1), (113, .aload_n 0, 1), (114, .getfield 238, 3), (117, .iload_n 1, 1), (118, .baload, 1), (119, .bastore, 1), (120, .iinc 1 1, 3), (123, .goto (-33), 3), (126, .aload_n 0, 1), (127, .aload_n 0, 1), (128, .getfield 660, 3), (131, .putfield 414, 3), (134, .aload_n 0, 1), (135, .aload_n 0, 1), (136, .getfield 663, 3), (139, .putfield 541, 3), (142, .aload_n 0, 1), (143, .aload_n 0, 1), (144, .getfield 666, 3), (147, .putfield 417, 3), (150, .aload_n 0, 1), (151, .invokevirtual 544, 3), (154, .return_, 1)], 0, 13)
/-- EquationProofsModel.search(I)I -/
def mt_266 : am_M := (⟨"EquationProofsModel", "search", "(I)I"⟩, prog_15_method_115_code, 3, (some .int), ([(414, 13, 77)], [], [], [], [], [(563, 239), (669, 268), (672, 271), (675, 269)]), [(0, .iload_n 1, 1), (1, .iconst 1, 1), (2, .if_icmp .lt 10, 3), (5, .iload_n 1, 1), (6, .sipush 500, 3), (9, .if_icmp .le 6, 3), (12, .bipush (-102), 2), (14, .ireturn, 1), (15, .aload_n 0, 1), (16, .invokevirtual 563, 3), (19, .ifCond .eq 6, 3), (22, .bipush (-103), 2), (24, .ireturn, 1), (25, .aload_n 0, 1), (26, .invokevirtual 669, 3), (29, .iconst 0, 1), (30, .istore_n 2, 1), (31, .aload_n 0, 1), (32, .getfield 414, 3), (35, .ifCond .le 21, 3), (38, .iload_n 2, 1), (39, .iload_n 1, 1), (40, .if_icmp .ge 16, 3), (43, .aload_n 0, 1), (44, .invokevirtual 672, 3), (47, .ifCond .eq 9, 3), (50, .iinc 2 1, 3), (53, .goto (-22), 3), (56, .aload_n 0, 1), (57, .getfield 414, 3), (60, .ifCond .le 9, 3), (63, .aload_n 0, 1), (64, .invokevirtual 675, 3), (67, .iconst 0, 1), (68, .ireturn, 1), (69, .iload_n 2, 1), (70, .ireturn, 1)], 1, 13)
/-- EquationProofsModel.hasStep()Z -/
def mt_267 : am_M := (⟨"EquationProofsModel", "hasStep", "()Z"⟩, prog_15_method_116_code, 3, (some .boolean), ([(177, 13, 86), (153, 13, 78), (387, 13, 19), (150, 13, 74), (71, 13, 26), (171, 13, 84)], [], [], [], [], [(678, 265), (681, 272), (684, 266), (687, 273)]), [(0, .aload_n 0, 1), (1, .invokevirtual 678, 3), (4, .ifCond .ge 12, 3), (7, .aload_n 0, 1), (8, .iconst 0, 1), (9, .iconst 0, 1), (10, .invokevirtual 681, 3), (13, .ifCond .eq 5, 3), (16, .iconst 1, 1), (17, .ireturn, 1), (18, .aload_n 0, 1), (19, .getfield 177, 3), (22, .aload_n 0, 1), (23, .getfield 153, 3), (26, .iconst 0, 1), (27, .iaload, 1), (28, .iaload, 1), (29, .istore_n 1, 1), (30, .iconst 0, 1), (31, .istore_n 2, 1), (32, .iload_n 2, 1), (33, .iload_n 1, 1), (34, .if_icmp .ge 20, 3), (37, .aload_n 0, 1), (38, .iconst 1, 1), (39, .iload_n 2, 1), (40, .invokevirtual 681, 3), (43, .ifCond .eq 5, 3), (46, .iconst 1, 1), (47, .ireturn, 1), (48, .iinc 2 1, 3), (51, .goto (-19), 3), (54, .iconst 0, 1), (55, .istore_n 2, 1), (56, .iload_n 2, 1), (57, .aload_n 0, 1), (58, .getfield 387, 3), (61, .if_icmp .ge 37, 3), (64, .iload_n 2, 1), (65, .aload_n 0, 1), (66, .getfield 150, 3), (69, .if_icmp .eq 23, 3), (72, .aload_n 0, 1), (73, .getfield 71, 3), (76, .iload_n 2, 1), (77, .iaload, 1), (78, .ifCond .le 14, 3), (81, .aload_n 0, 1), (82, .iconst 2, 1), (83, .iload_n 2, 1), (84, .invokevirtual 681, 3), (87, .ifCond .eq 5, 3), (90, .iconst 1, 1), (91, .ireturn, 1), (92, .iinc 2 1, 3), (95, .goto (-39), 3), (98, .aload_n 0, 1), (99, .invokevirtual 684, 3), (102, .ifCond .ge 25, 3), (105, .aload_n 0, 1), (106, .getfield 171, 3), (109, .aload_n 0, 1), (110, .getfield 153, 3), (113, .iconst 0, 1), (114, .iaload, 1), (115, .iaload, 1), (116, .iconst 4, 1), (117, .if_icmp .ge 14, 3), (120, .aload_n 0, 1), (121, .invokevirtual 687, 3), (124, .ifCond .eq 7, 3), (127, .iconst 1, 1), (128, .goto 4, 3), (131, .iconst 0, 1), (132, .ireturn, 1)], 0, 13)
/-- EquationProofsModel.sweep(II)Z -/
def mt_268 : am_M := (⟨"EquationProofsModel", "sweep", "(II)Z"⟩, prog_15_method_117_code, 7, (some .boolean), ([(162, 13, 81), (153, 13, 78)], [], [], [], [], [(566, 242), (601, 250), (589, 248)]), [(0, .iconst 0, 1), (1, .istore_n 3, 1), (2, .iload_n 3, 1), (3, .iconst 2, 1), (4, .if_icmp .ge 94, 3), (7, .aload_n 0, 1), (8, .getfield 162, 3), (11, .iconst 2, 1), (12, .aload_n 0, 1), (13, .getfield 153, 3), (16, .iconst 0, 1), (17, .iaload, 1), (18, .imul, 1), (19, .iload_n 3, 1), (20, .iadd, 1), (21, .iaload, 1), (22, .istore 4, 2), (24, .iconst 0, 1), (25, .istore 5, 2), (27, .iload 5, 2), (29, .iload 4, 2), (31, .if_icmp .ge 61, 3), (34, .iload_n 1, 1), (35, .ifCond .ne 14, 3), (38, .aload_n 0, 1), (39, .iload_n 3, 1), (40, .iconst 0, 1), (41, .iload 5, 2), (43, .invokevirtual 566, 3), (46, .goto 31, 3), (49, .iload_n 1, 1), (50, .iconst 1, 1), (51, .if_icmp .ne 16, 3), (54, .aload_n 0, 1), (55, .iload_n 2, 1), (56, .iconst 0, 1), (57, .iload_n 3, 1), (58, .iconst 0, 1), (59, .iload 5, 2), (61, .invokevirtual 601, 3), (64, .goto 13, 3), (67, .aload_n 0, 1), (68, .iload_n 2, 1), (69, .iconst 0, 1), (70, .iload_n 3, 1), (71, .iconst 0, 1), (72, .iload 5, 2), (74, .invokevirtual 589, 3), (77, .istore 6, 2), (79, .iload 6, 2), (81, .ifCond .lt 5, 3), (84, .iconst 1, 1), (85, .ireturn, 1), (86, .iinc 5 1, 3), (89, .goto (-62), 3), (92, .iinc 3 1, 3), (95, .goto (-93), 3), (98, .iconst 0, 1), (99, .ireturn, 1)], 2, 13)
/-- EquationProofsModel.isSplit()Z -/
def mt_269 : am_M := (⟨"EquationProofsModel", "isSplit", "()Z"⟩, prog_15_method_118_code, 5, (some .boolean), ([(153, 13, 78), (547, 13, 93), (193, 13, 92), (434, 13, 50), (168, 13, 83)], [], [], [], [], [(569, 232), (450, 160), (453, 200), (638, 261), (613, 257)]), [(0, .iconst 0, 1), (1, .istore_n 1, 1), (2, .iload_n 1, 1), (3, .iconst 2, 1), (4, .if_icmp .ge 144, 3), (7, .aload_n 0, 1), (8, .aload_n 0, 1), (9, .getfield 153, 3), (12, .iconst 0, 1), (13, .iaload, 1), (14, .iload_n 1, 1), (15, .invokevirtual 569, 3), (18, .iconst 0, 1), (19, .istore_n 2, 1), (20, .iload_n 2, 1), (21, .aload_n 0, 1), (22, .getfield 547, 3), (25, .if_icmp .ge 117, 3), (28, .aload_n 0, 1), (29, .getfield 193, 3), (32, .iload_n 2, 1), (33, .iaload, 1), (34, .invokestatic 450, 3), (37, .ifCond .eq 99, 3), (40, .aload_n 0, 1), (41, .aload_n 0, 1), (42, .getfield 193, 3), (45, .iload_n 2, 1), (46, .invokevirtual 453, 3), (49, .iconst 2, 1), (50, .if_icmp .ne 86, 3), (53, .aload_n 0, 1), (54, .getfield 193, 3), (57, .aload_n 0, 1), (58, .getfield 434, 3), (61, .iaload, 1), (62, .sipush 1000, 3), (65, .if_icmp .lt 71, 3), (68, .aload_n 0, 1), (69, .getfield 193, 3), (72, .aload_n 0, 1), (73, .getfield 434, 3), (76, .iaload, 1), (77, .sipush 1000, 3), (80, .isub, 1), (81, .istore_n 3, 1), (82, .aload_n 0, 1), (83, .getfield 168, 3), (86, .aload_n 0, 1), (87, .getfield 153, 3), (90, .iconst 0, 1), (91, .iaload, 1), (92, .laload, 1), (93, .iload_n 3, 1), (94, .lshr, 1), (95, .lconst 1, 1), (96, .land, 1), (97, .lconst 1, 1), (98, .lcmp, 1), (99, .ifCond .ne 7, 3), (102, .iconst 1, 1), (103, .goto 4, 3), (106, .iconst 0, 1), (107, .istore 4, 2), (109, .iload 4, 2), (111, .ifCond .eq 11, 3), (114, .aload_n 0, 1), (115, .iload_n 3, 1), (116, .invokevirtual 638, 3), (119, .goto 8, 3), (122, .aload_n 0, 1), (123, .iload_n 3, 1), (124, .invokevirtual 613, 3), (127, .ifCond .lt 7, 3), (130, .iconst 1, 1), (131, .goto 4, 3), (134, .iconst 0, 1), (135, .ireturn, 1), (136, .iinc 2 1, 3), (139, .goto (-119), 3), (142, .iinc 1 1, 3), (145, .goto (-143), 3), (148, .iconst 0, 1), (149, .ireturn, 1)], 0, 13)
/-- EquationProofsModel.show(II)I -/
def mt_270 : am_M := (⟨"EquationProofsModel", "show", "(II)I"⟩, prog_15_method_119_code, 3, (some .int), ([(414, 13, 77), (153, 13, 78), (193, 13, 92), (470, 13, 59)], [], [], [], [], [(563, 239), (569, 232), (466, 210)]), [(0, .aload_n 0, 1), (1, .invokevirtual 563, 3), (4, .ifCond .eq 6, 3), (7, .bipush (-103), 2), (9, .ireturn, 1), (10, .iload_n 1, 1), (11, .ifCond .lt 20, 3), (14, .iload_n 1, 1), (15, .aload_n 0, 1), (16, .getfield 414, 3), (19, .if_icmp .ge 12, 3), (22, .iload_n 2, 1), (23, .ifCond .lt 8, 3), (26, .iload_n 2, 1), (27, .iconst 1, 1), (28, .if_icmp .le 6, 3), (31, .bipush (-102), 2), (33, .ireturn, 1), (34, .aload_n 0, 1), (35, .aload_n 0, 1), (36, .getfield 153, 3), (39, .iload_n 1, 1), (40, .iaload, 1), (41, .iload_n 2, 1), (42, .invokevirtual 569, 3), (45, .aload_n 0, 1), (46, .aload_n 0, 1), (47, .getfield 193, 3), (50, .iconst 0, 1), (51, .invokevirtual 466, 3), (54, .aload_n 0, 1), (55, .getfield 470, 3), (58, .ireturn, 1)], 2, 13)
/-- EquationProofsModel.showHypothesis(II)I -/
def mt_271 : am_M := (⟨"EquationProofsModel", "showHypothesis", "(II)I"⟩, prog_15_method_120_code, 5, (some .int), ([(153, 13, 78), (177, 13, 86), (184, 13, 88), (193, 13, 92), (181, 13, 87), (470, 13, 59)], [], [], [], [], [(563, 239), (690, 226), (466, 210)]), [(0, .aload_n 0, 1), (1, .invokevirtual 563, 3), (4, .ifCond .eq 6, 3), (7, .bipush (-103), 2), (9, .ireturn, 1), (10, .aload_n 0, 1), (11, .getfield 153, 3), (14, .iconst 0, 1), (15, .iaload, 1), (16, .istore_n 3, 1), (17, .iload_n 1, 1), (18, .ifCond .lt 22, 3), (21, .iload_n 1, 1), (22, .aload_n 0, 1), (23, .getfield 177, 3), (26, .iload_n 3, 1), (27, .iaload, 1), (28, .if_icmp .ge 12, 3), (31, .iload_n 2, 1), (32, .ifCond .lt 8, 3), (35, .iload_n 2, 1), (36, .iconst 1, 1), (37, .if_icmp .le 6, 3), (40, .bipush (-102), 2), (42, .ireturn, 1), (43, .iconst 0, 1), (44, .istore 4, 2), (46, .iload 4, 2), (48, .aload_n 0, 1), (49, .getfield 184, 3), (52, .iconst 2, 1), (53, .bipush 8, 2), (55, .iload_n 3, 1), (56, .imul, 1), (57, .iload_n 1, 1), (58, .iadd, 1), (59, .imul, 1), (60, .iload_n 2, 1), (61, .iadd, 1), (62, .iaload, 1), (63, .if_icmp .ge 31, 3), (66, .aload_n 0, 1), (67, .getfield 193, 3), (70, .iload 4, 2), (72, .aload_n 0, 1), (73, .getfield 181, 3), (76, .aload_n 0, 1), (77, .iload_n 3, 1), (78, .iload_n 1, 1), (79, .iload_n 2, 1), (80, .invokevirtual 690, 3), (83, .iload 4, 2), (85, .iadd, 1), (86, .iaload, 1), (87, .iastore, 1), (88, .iinc 4 1, 3), (91, .goto (-45), 3), (94, .aload_n 0, 1), (95, .aload_n 0, 1), (96, .getfield 193, 3), (99, .iconst 0, 1), (100, .invokevirtual 466, 3), (103, .aload_n 0, 1), (104, .getfield 470, 3), (107, .ireturn, 1)], 2, 13)
/-- EquationProofsModel.showLaw(II)I -/
def mt_272 : am_M := (⟨"EquationProofsModel", "showLaw", "(II)I"⟩, prog_15_method_121_code, 4, (some .int), ([(387, 13, 19), (59, 13, 22), (193, 13, 92), (56, 13, 21), (470, 13, 59)], [], [], [], [], [(466, 210)]), [(0, .iload_n 1, 1), (1, .ifCond .lt 11, 3), (4, .iload_n 1, 1), (5, .aload_n 0, 1), (6, .getfield 387, 3), (9, .if_icmp .lt 6, 3), (12, .bipush (-101), 2), (14, .ireturn, 1), (15, .iload_n 2, 1), (16, .ifCond .lt 8, 3), (19, .iload_n 2, 1), (20, .iconst 1, 1), (21, .if_icmp .le 6, 3), (24, .bipush (-102), 2), (26, .ireturn, 1), (27, .iconst 0, 1), (28, .istore_n 3, 1), (29, .iload_n 3, 1), (30, .aload_n 0, 1), (31, .getfield 59, 3), (34, .iconst 2, 1), (35, .iload_n 1, 1), (36, .imul, 1), (37, .iload_n 2, 1), (38, .iadd, 1), (39, .iaload, 1), (40, .if_icmp .ge 30, 3), (43, .aload_n 0, 1), (44, .getfield 193, 3), (47, .iload_n 3, 1), (48, .aload_n 0, 1), (49, .getfield 56, 3), (52, .bipush 48, 2), (54, .iconst 2, 1), (55, .iload_n 1, 1), (56, .imul, 1), (57, .iload_n 2, 1), (58, .iadd, 1), (59, .imul, 1), (60, .iload_n 3, 1), (61, .iadd, 1), (62, .iaload, 1), (63, .iastore, 1), (64, .iinc 3 1, 3), (67, .goto (-38), 3), (70, .aload_n 0, 1), (71, .aload_n 0, 1), (72, .getfield 193, 3), (75, .iconst 0, 1), (76, .invokevirtual 466, 3), (79, .aload_n 0, 1), (80, .getfield 470, 3), (83, .ireturn, 1)], 2, 13)
def at_P : List am_M := [mt_0, mt_1, mt_2, mt_3, mt_4, mt_5, mt_6, mt_7, mt_8, mt_9, mt_10, mt_11, mt_12, mt_13, mt_14, mt_15, mt_16, mt_17, mt_18, mt_19, mt_20, mt_21, mt_22, mt_23, mt_24, mt_25, mt_26, mt_27, mt_28, mt_29, mt_30, mt_31, mt_32, mt_33, mt_34, mt_35, mt_36, mt_37, mt_38, mt_39, mt_40, mt_41, mt_42, mt_43, mt_44, mt_45, mt_46, mt_47, mt_48, mt_49, mt_50, mt_51, mt_52, mt_53, mt_54, mt_55, mt_56, mt_57, mt_58, mt_59, mt_60, mt_61, mt_62, mt_63, mt_64, mt_65, mt_66, mt_67, mt_68, mt_69, mt_70, mt_71, mt_72, mt_73, mt_74, mt_75, mt_76, mt_77, mt_78, mt_79, mt_80, mt_81, mt_82, mt_83, mt_84, mt_85, mt_86, mt_87, mt_88, mt_89, mt_90, mt_91, mt_92, mt_93, mt_94, mt_95, mt_96, mt_97, mt_98, mt_99, mt_100, mt_101, mt_102, mt_103, mt_104, mt_105, mt_106, mt_107, mt_108, mt_109, mt_110, mt_111, mt_112, mt_113, mt_114, mt_115, mt_116, mt_117, mt_118, mt_119, mt_120, mt_121, mt_122, mt_123, mt_124, mt_125, mt_126, mt_127, mt_128, mt_129, mt_130, mt_131, mt_132, mt_133, mt_134, mt_135, mt_136, mt_137, mt_138, mt_139, mt_140, mt_141, mt_142, mt_143, mt_144, mt_145, mt_146, mt_147, mt_148, mt_149, mt_150, mt_151, mt_152, mt_153, mt_154, mt_155, mt_156, mt_157, mt_158, mt_159, mt_160, mt_161, mt_162, mt_163, mt_164, mt_165, mt_166, mt_167, mt_168, mt_169, mt_170, mt_171, mt_172, mt_173, mt_174, mt_175, mt_176, mt_177, mt_178, mt_179, mt_180, mt_181, mt_182, mt_183, mt_184, mt_185, mt_186, mt_187, mt_188, mt_189, mt_190, mt_191, mt_192, mt_193, mt_194, mt_195, mt_196, mt_197, mt_198, mt_199, mt_200, mt_201, mt_202, mt_203, mt_204, mt_205, mt_206, mt_207, mt_208, mt_209, mt_210, mt_211, mt_212, mt_213, mt_214, mt_215, mt_216, mt_217, mt_218, mt_219, mt_220, mt_221, mt_222, mt_223, mt_224, mt_225, mt_226, mt_227, mt_228, mt_229, mt_230, mt_231, mt_232, mt_233, mt_234, mt_235, mt_236, mt_237, mt_238, mt_239, mt_240, mt_241, mt_242, mt_243, mt_244, mt_245, mt_246, mt_247, mt_248, mt_249, mt_250, mt_251, mt_252, mt_253, mt_254, mt_255, mt_256, mt_257, mt_258, mt_259, mt_260, mt_261, mt_262, mt_263, mt_264, mt_265, mt_266, mt_267, mt_268, mt_269, mt_270, mt_271, mt_272]
def at_N : List MethodName := [⟨"EquationProofs", "<init>", "()V"⟩, ⟨"EquationProofs", "feed", "(IIIII)I"⟩, ⟨"EquationProofs", "end", "(I)V"⟩, ⟨"EquationProofs", "read", "()I"⟩, ⟨"EquationProofs", "fault", "()I"⟩, ⟨"EquationProofs", "count", "(I)I"⟩, ⟨"EquationProofs", "about", "(II)I"⟩, ⟨"EquationProofs", "work", "(I)I"⟩, ⟨"EquationProofs", "steps", "()I"⟩, ⟨"EquationProofs", "test", "(IIZ)I"⟩, ⟨"EquationProofs", "told", "(I)I"⟩, ⟨"EquationProofs", "begin", "(IZ)I"⟩, ⟨"EquationProofs", "unfold", "(II)I"⟩, ⟨"EquationProofs", "law", "(IZII)I"⟩, ⟨"EquationProofs", "hypothesis", "(IZII)I"⟩, ⟨"EquationProofs", "induction", "(I)I"⟩, ⟨"EquationProofs", "cases", "(II)I"⟩, ⟨"EquationProofs", "same", "()I"⟩, ⟨"EquationProofs", "parts", "()I"⟩, ⟨"EquationProofs", "search", "(I)I"⟩, ⟨"EquationProofs", "show", "(II)I"⟩, ⟨"EquationProofs", "showHypothesis", "(II)I"⟩, ⟨"EquationProofs", "showLaw", "(II)I"⟩, ⟨"EquationProofs", "printed", "(I)I"⟩, ⟨"EquationProofs", "refusalAt", "(II)I"⟩, ⟨"EquationProofs$Tape", "<init>", "()V"⟩, ⟨"EquationProofs$Tape", "putNumber", "(I)V"⟩, ⟨"EquationProofs$Tape", "cut", "()V"⟩, ⟨"EquationProofs$Tape", "addToken", "(IIJ)V"⟩, ⟨"EquationProofs$Tape", "behindName", "(I)I"⟩, ⟨"EquationProofs$Tape", "nameOf", "(II)J"⟩, ⟨"EquationProofs$Tape", "tokenOfName", "(IIJ)I"⟩, ⟨"EquationProofs$Tape", "tokenOfSign", "(I)I"⟩, ⟨"EquationProofs$Tape", "isLetter", "(I)Z"⟩, ⟨"EquationProofs$Program", "<init>", "()V"⟩, ⟨"EquationProofs$Program", "hasLaw", "(I)Z"⟩, ⟨"EquationProofs$Program", "hasLawNamed", "(J)Z"⟩, ⟨"EquationProofs$Program", "typeOf", "(I[I)I"⟩, ⟨"EquationProofs$Program", "codeOfConstructor", "(I)I"⟩, ⟨"EquationProofs$Program", "forgetProofs", "()V"⟩, ⟨"EquationProofs$Symbols", "<init>", "(I)V"⟩, ⟨"EquationProofs$Symbols", "find", "(J)I"⟩, ⟨"EquationProofs$Symbols", "isFull", "()Z"⟩, ⟨"EquationProofs$Symbols", "add", "(JI)V"⟩, ⟨"EquationProofs$Symbols", "addArgument", "(I)V"⟩, ⟨"EquationProofs$Symbols", "argument", "(II)I"⟩, ⟨"EquationProofs$Equation", "<init>", "()V"⟩, ⟨"EquationProofs$Term", "<init>", "(I)V"⟩, ⟨"EquationProofs$Term", "codeOf", "(III)I"⟩, ⟨"EquationProofs$Term", "kindOf", "(I)I"⟩, ⟨"EquationProofs$Term", "indexOf", "(I)I"⟩, ⟨"EquationProofs$Term", "codeAt", "(I)I"⟩, ⟨"EquationProofs$Term", "put", "(I)V"⟩, ⟨"EquationProofs$Term", "behind", "(I)I"⟩, ⟨"EquationProofs$Term", "append", "(LEquationProofs$Term;II)Z"⟩, ⟨"EquationProofs$Term", "copy", "(LEquationProofs$Term;)V"⟩, ⟨"EquationProofs$Term", "hasAt", "(ILEquationProofs$Term;)Z"⟩, ⟨"EquationProofs$Term", "isLike", "(LEquationProofs$Term;)Z"⟩, ⟨"EquationProofs$Term", "areLike", "(II)Z"⟩, ⟨"EquationProofs$Term", "copyReplacing", "(LEquationProofs$Term;LEquationProofs$Term;LEquationProofs$Term;)Z"⟩, ⟨"EquationProofs$Term", "variables", "()J"⟩, ⟨"EquationProofs$Reader", "<init>", "(LEquationProofs$Tape;LEquationProofs$Program;)V"⟩, ⟨"EquationProofs$Reader", "readText", "()I"⟩, ⟨"EquationProofs$Reader", "readClosedTerm", "(LEquationProofs$Term;)I"⟩, ⟨"EquationProofs$Reader", "readData", "()Z"⟩, ⟨"EquationProofs$Reader", "readConstructor", "(I)Z"⟩, ⟨"EquationProofs$Reader", "readFunction", "()Z"⟩, ⟨"EquationProofs$Reader", "readResult", "(I)Z"⟩, ⟨"EquationProofs$Reader", "readRule", "()Z"⟩, ⟨"EquationProofs$Reader", "readLaw", "()Z"⟩, ⟨"EquationProofs$Reader", "readPattern", "(II)Z"⟩, ⟨"EquationProofs$Reader", "readPatternVariable", "(I)Z"⟩, ⟨"EquationProofs$Reader", "readPatternConstructor", "(IIZ)Z"⟩, ⟨"EquationProofs$Reader", "readTerm", "(IIZ)Z"⟩, ⟨"EquationProofs$Reader", "readApplied", "(IIIIZ)Z"⟩, ⟨"EquationProofs$Reader", "readVariable", "(I)Z"⟩, ⟨"EquationProofs$Reader", "tellVariable", "(I)I"⟩, ⟨"EquationProofs$Reader", "addName", "(I)Z"⟩, ⟨"EquationProofs$Reader", "tellName", "(LEquationProofs$Symbols;II)Z"⟩, ⟨"EquationProofs$Reader", "findVariable", "()I"⟩, ⟨"EquationProofs$Reader", "startEquation", "(LEquationProofs$Equation;I)V"⟩, ⟨"EquationProofs$Reader", "startTerm", "(LEquationProofs$Term;)V"⟩, ⟨"EquationProofs$Reader", "take", "(I)Z"⟩, ⟨"EquationProofs$Reader", "token", "()I"⟩, ⟨"EquationProofs$Reader", "name", "()J"⟩, ⟨"EquationProofs$Reader", "misplaced", "()Z"⟩, ⟨"EquationProofs$Reader", "fails", "(I)Z"⟩, ⟨"EquationProofs$Printer", "<init>", "(LEquationProofs$Program;)V"⟩, ⟨"EquationProofs$Printer", "print", "(LEquationProofs$Term;J)I"⟩, ⟨"EquationProofs$Printer", "closeAll", "(I)I"⟩, ⟨"EquationProofs$Printer", "putNameOf", "(IJ)V"⟩, ⟨"EquationProofs$Printer", "putName", "(J)V"⟩, ⟨"EquationProofs$Printer", "putByte", "(I)V"⟩, ⟨"EquationProofs$Rewriter", "<init>", "(LEquationProofs$Program;)V"⟩, ⟨"EquationProofs$Rewriter", "matchCall", "(LEquationProofs$Term;I)I"⟩, ⟨"EquationProofs$Rewriter", "matchRule", "(LEquationProofs$Term;LEquationProofs$Term;I)I"⟩, ⟨"EquationProofs$Rewriter", "matchSide", "(LEquationProofs$Term;JLEquationProofs$Term;I)Z"⟩, ⟨"EquationProofs$Rewriter", "isBound", "(LEquationProofs$Term;J)Z"⟩, ⟨"EquationProofs$Rewriter", "replaceAt", "(LEquationProofs$Term;ILEquationProofs$Term;LEquationProofs$Term;)Z"⟩, ⟨"EquationProofs$Rewriter", "workOut", "(LEquationProofs$Term;I)I"⟩, ⟨"EquationProofs$Rewriter", "firstCall", "(LEquationProofs$Term;)I"⟩, ⟨"EquationProofs$Trial", "<init>", "(LEquationProofs$Program;LEquationProofs$Rewriter;)V"⟩, ⟨"EquationProofs$Trial", "tryLaw", "(LEquationProofs$Equation;IZ)I"⟩, ⟨"EquationProofs$Trial", "tryRow", "(LEquationProofs$Equation;I)I"⟩, ⟨"EquationProofs$Trial", "tellRow", "(LEquationProofs$Equation;)V"⟩, ⟨"EquationProofs$Trial", "fill", "(LEquationProofs$Term;LEquationProofs$Term;)V"⟩, ⟨"EquationProofs$Trial", "countValues", "(I)V"⟩, ⟨"EquationProofs$Trial", "countTuples", "(II)I"⟩, ⟨"EquationProofs$Trial", "valuesOf", "(II)I"⟩, ⟨"EquationProofs$Trial", "tuplesOf", "(III)I"⟩, ⟨"EquationProofs$Trial", "countRows", "(LEquationProofs$Equation;I)I"⟩, ⟨"EquationProofs$Trial", "setValues", "(LEquationProofs$Equation;I)V"⟩, ⟨"EquationProofs$Trial", "putValue", "(IIILEquationProofs$Term;)V"⟩, ⟨"EquationProofs$Trial", "putArguments", "(IIILEquationProofs$Term;)V"⟩, ⟨"EquationProofs$Prover", "<init>", "(LEquationProofs$Program;LEquationProofs$Rewriter;)V"⟩, ⟨"EquationProofs$Prover", "sideOf", "(I)LEquationProofs$Term;"⟩, ⟨"EquationProofs$Prover", "positionOf", "(II)I"⟩, ⟨"EquationProofs$Prover", "unfoldAt", "(II)I"⟩, ⟨"EquationProofs$Prover", "chooseLaw", "(IZ)Z"⟩, ⟨"EquationProofs$Prover", "chooseHypothesis", "(IZ)Z"⟩, ⟨"EquationProofs$Prover", "rewriteAt", "(II)I"⟩, ⟨"EquationProofs$Prover", "isAllowed", "(LEquationProofs$Term;)Z"⟩, ⟨"EquationProofs$Prover", "isSure", "(LEquationProofs$Term;I)Z"⟩, ⟨"EquationProofs$Prover", "changeSide", "(LEquationProofs$Term;)I"⟩, ⟨"EquationProofs$Prover", "inductOver", "(I)I"⟩, ⟨"EquationProofs$Prover", "splitAt", "(II)I"⟩, ⟨"EquationProofs$Prover", "aimAtVariable", "(I)V"⟩, ⟨"EquationProofs$Prover", "split", "()I"⟩, ⟨"EquationProofs$Prover", "putInstead", "(II)I"⟩, ⟨"EquationProofs$Prover", "makeGoal", "(LEquationProofs$Goal;I)Z"⟩, ⟨"EquationProofs$Prover", "addInductionHypotheses", "(LEquationProofs$Goal;I)Z"⟩, ⟨"EquationProofs$Prover", "addCallHypothesis", "(LEquationProofs$Goal;)Z"⟩, ⟨"EquationProofs$Prover", "replaceInHypotheses", "(LEquationProofs$Goal;)Z"⟩, ⟨"EquationProofs$Prover", "bits", "(II)J"⟩, ⟨"EquationProofs$Prover", "dropSame", "()I"⟩, ⟨"EquationProofs$Prover", "takeApart", "()I"⟩, ⟨"EquationProofs$Prover", "putGoals", "(I)I"⟩, ⟨"EquationProofs$Prover", "swapGoals", "(II)V"⟩, ⟨"EquationProofs$Prover", "nextRow", "()Z"⟩, ⟨"EquationProofs$Prover", "unfoldFirst", "()Z"⟩, ⟨"EquationProofs$Prover", "useFirst", "()Z"⟩, ⟨"EquationProofs$Prover", "rewriteFirst", "()Z"⟩, ⟨"EquationProofs$Prover", "splitFirst", "()Z"⟩, ⟨"EquationProofs$Proof", "<init>", "()V"⟩, ⟨"EquationProofs$Proof", "forget", "()V"⟩, ⟨"EquationProofs$Proof", "start", "(LEquationProofs$Equation;IZ)V"⟩, ⟨"EquationProofs$Proof", "copy", "(LEquationProofs$Proof;)V"⟩, ⟨"EquationProofs$Goal", "<init>", "()V"⟩, ⟨"EquationProofs$Goal", "copy", "(LEquationProofs$Goal;)V"⟩, ⟨"EquationProofs$Goal", "copyRest", "(LEquationProofs$Goal;)V"⟩, ⟨"EquationProofs$Goal", "isFixed", "(I)Z"⟩, ⟨"EquationProofs$Goal", "variables", "()J"⟩, ⟨"EquationProofsModel", "<init>", "()V"⟩, ⟨"EquationProofsModel", "thrown", "()I"⟩, ⟨"EquationProofsModel", "arity", "(I)I"⟩, ⟨"EquationProofsModel", "behind", "([II)I"⟩, ⟨"EquationProofsModel", "isCall", "(I)Z"⟩, ⟨"EquationProofsModel", "isCon", "(I)Z"⟩, ⟨"EquationProofsModel", "good", "()Z"⟩, ⟨"EquationProofsModel", "bad", "(I)V"⟩, ⟨"EquationProofsModel", "badAt", "(II)V"⟩, ⟨"EquationProofsModel", "look", "()I"⟩, ⟨"EquationProofsModel", "isLetter", "(I)Z"⟩, ⟨"EquationProofsModel", "isDigit", "(I)Z"⟩, ⟨"EquationProofsModel", "word", "(IIII)J"⟩, ⟨"EquationProofsModel", "next", "()V"⟩, ⟨"EquationProofsModel", "want", "(I)V"⟩, ⟨"EquationProofsModel", "find", "([JIJ)I"⟩, ⟨"EquationProofsModel", "countName", "()V"⟩, ⟨"EquationProofsModel", "put", "(I)V"⟩, ⟨"EquationProofsModel", "data", "()V"⟩, ⟨"EquationProofsModel", "constructor", "()V"⟩, ⟨"EquationProofsModel", "type", "()I"⟩, ⟨"EquationProofsModel", "function", "()V"⟩, ⟨"EquationProofsModel", "wanted", "()I"⟩, ⟨"EquationProofsModel", "argType", "(II)I"⟩, ⟨"EquationProofsModel", "deeper", "()V"⟩, ⟨"EquationProofsModel", "addVariable", "(I)I"⟩, ⟨"EquationProofsModel", "patterns", "(I)V"⟩, ⟨"EquationProofsModel", "patternCon", "(IZ)V"⟩, ⟨"EquationProofsModel", "term", "(I)I"⟩, ⟨"EquationProofsModel", "enter", "(II)V"⟩, ⟨"EquationProofsModel", "head", "(IZ)I"⟩, ⟨"EquationProofsModel", "great", "(IZ)I"⟩, ⟨"EquationProofsModel", "small", "(IZ)I"⟩, ⟨"EquationProofsModel", "beginTerm", "()V"⟩, ⟨"EquationProofsModel", "rule", "()V"⟩, ⟨"EquationProofsModel", "tellLaw", "()V"⟩, ⟨"EquationProofsModel", "keepSide", "(I)V"⟩, ⟨"EquationProofsModel", "feed", "(IIIII)I"⟩, ⟨"EquationProofsModel", "end", "(I)V"⟩, ⟨"EquationProofsModel", "openTape", "()V"⟩, ⟨"EquationProofsModel", "read", "()I"⟩, ⟨"EquationProofsModel", "fault", "()I"⟩, ⟨"EquationProofsModel", "count", "(I)I"⟩, ⟨"EquationProofsModel", "about", "(II)I"⟩, ⟨"EquationProofsModel", "match", "([II)I"⟩, ⟨"EquationProofsModel", "fits", "([III)I"⟩, ⟨"EquationProofsModel", "copy", "([III)V"⟩, ⟨"EquationProofsModel", "makeDone", "([IIII)V"⟩, ⟨"EquationProofsModel", "run", "(I)I"⟩, ⟨"EquationProofsModel", "work", "(I)I"⟩, ⟨"EquationProofsModel", "steps", "()I"⟩, ⟨"EquationProofsModel", "letter", "(I)V"⟩, ⟨"EquationProofsModel", "putName", "(J)V"⟩, ⟨"EquationProofsModel", "putNumber", "(I)V"⟩, ⟨"EquationProofsModel", "print", "([II)V"⟩, ⟨"EquationProofsModel", "printed", "(I)I"⟩, ⟨"EquationProofsModel", "bounded", "(J)J"⟩, ⟨"EquationProofsModel", "countValues", "(IZ)V"⟩, ⟨"EquationProofsModel", "conAmount", "(II)J"⟩, ⟨"EquationProofsModel", "addValue", "(II)V"⟩, ⟨"EquationProofsModel", "makeValues", "(IZ)V"⟩, ⟨"EquationProofsModel", "sizeOf", "(III)I"⟩, ⟨"EquationProofsModel", "putValue", "(III)V"⟩, ⟨"EquationProofsModel", "makeCon", "(III)V"⟩, ⟨"EquationProofsModel", "begun", "(II)V"⟩, ⟨"EquationProofsModel", "makeTwo", "(IIII)V"⟩, ⟨"EquationProofsModel", "test", "(IIZ)I"⟩, ⟨"EquationProofsModel", "row", "(I)I"⟩, ⟨"EquationProofsModel", "told", "(I)I"⟩, ⟨"EquationProofsModel", "sideAt", "(II)I"⟩, ⟨"EquationProofsModel", "hypAt", "(III)I"⟩, ⟨"EquationProofsModel", "tellHyps", "()V"⟩, ⟨"EquationProofsModel", "free", "()I"⟩, ⟨"EquationProofsModel", "copyGoal", "(II)V"⟩, ⟨"EquationProofsModel", "copyHyps", "(II)V"⟩, ⟨"EquationProofsModel", "begin", "(IZ)I"⟩, ⟨"EquationProofsModel", "bring", "(II)V"⟩, ⟨"EquationProofsModel", "isKept", "(II)Z"⟩, ⟨"EquationProofsModel", "placeOf", "(I)I"⟩, ⟨"EquationProofsModel", "typeAt", "(II)I"⟩, ⟨"EquationProofsModel", "did", "()I"⟩, ⟨"EquationProofsModel", "newGoal", "(I)I"⟩, ⟨"EquationProofsModel", "replace", "(Z)I"⟩, ⟨"EquationProofsModel", "idle", "()Z"⟩, ⟨"EquationProofsModel", "isOutside", "(II)Z"⟩, ⟨"EquationProofsModel", "unfold", "(II)I"⟩, ⟨"EquationProofsModel", "unfoldAt", "(III)I"⟩, ⟨"EquationProofsModel", "isLike", "([IIIIIII)Z"⟩, ⟨"EquationProofsModel", "isFit", "(IIIII)Z"⟩, ⟨"EquationProofsModel", "isSame", "([III[III)Z"⟩, ⟨"EquationProofsModel", "isMade", "([IIIII)Z"⟩, ⟨"EquationProofsModel", "law", "(IZII)I"⟩, ⟨"EquationProofsModel", "lawAt", "(IZIII)I"⟩, ⟨"EquationProofsModel", "hypothesis", "(IZII)I"⟩, ⟨"EquationProofsModel", "hypothesisAt", "(IZIII)I"⟩, ⟨"EquationProofsModel", "hasVariable", "(II)Z"⟩, ⟨"EquationProofsModel", "putIn", "([IIII)V"⟩, ⟨"EquationProofsModel", "isNew", "(IZ)Z"⟩, ⟨"EquationProofsModel", "isPut", "(III)Z"⟩, ⟨"EquationProofsModel", "isHypsPut", "(II)Z"⟩, ⟨"EquationProofsModel", "induction", "(I)I"⟩, ⟨"EquationProofsModel", "inducted", "(I)I"⟩, ⟨"EquationProofsModel", "isSupposed", "(IIII)Z"⟩, ⟨"EquationProofsModel", "cases", "(II)I"⟩, ⟨"EquationProofsModel", "casesAt", "(III)I"⟩, ⟨"EquationProofsModel", "casesOf", "(I)I"⟩, ⟨"EquationProofsModel", "casesOfCall", "(I)I"⟩, ⟨"EquationProofsModel", "isCallPut", "(II)Z"⟩, ⟨"EquationProofsModel", "isToldFor", "(I)Z"⟩, ⟨"EquationProofsModel", "same", "()I"⟩, ⟨"EquationProofsModel", "parts", "()I"⟩, ⟨"EquationProofsModel", "move", "([I[I)V"⟩, ⟨"EquationProofsModel", "save", "()V"⟩, ⟨"EquationProofsModel", "restore", "()V"⟩, ⟨"EquationProofsModel", "search", "(I)I"⟩, ⟨"EquationProofsModel", "hasStep", "()Z"⟩, ⟨"EquationProofsModel", "sweep", "(II)Z"⟩, ⟨"EquationProofsModel", "isSplit", "()Z"⟩, ⟨"EquationProofsModel", "show", "(II)I"⟩, ⟨"EquationProofsModel", "showHypothesis", "(II)I"⟩, ⟨"EquationProofsModel", "showLaw", "(II)I"⟩]
def at_X : List Nat := [2000, 0, 0, 0, 0, 0, 0, 0, 0, 0, 0, 0, 0, 0, 0, 0, 0, 0, 0, 0, 0, 0, 0, 0, 0, 2000, 1, 1, 1, 1, 1, 1000, 1000, 1000, 2000, 2, 2, 2, 2, 2, 2000, 3, 3, 3, 3, 3, 2000, 2000, 1000, 1000, 1000, 5, 5, 5, 5, 5, 5, 5, 5, 5, 5, 2000, 6, 6, 6, 6, 6, 6, 6, 6, 6, 6, 6, 6, 6, 6, 6, 6, 6, 6, 6, 6, 6, 6, 6, 6, 6, 2000, 7, 7, 7, 7, 7, 2000, 8, 8, 8, 8, 8, 8, 1000, 2000, 9, 9, 9, 9, 9, 9, 9, 9, 9, 9, 9, 9, 2000, 10, 10, 10, 10, 10, 10, 10, 10, 10, 10, 10, 10, 10, 10, 10, 10, 10, 10, 1000, 10, 10, 10, 10, 10, 10, 10, 10, 10, 2000, 11, 11, 11, 2000, 12, 12, 12, 12, 2000, 13, 13, 13, 1000, 1000, 13, 13, 13, 13, 1000, 1000, 1000, 13, 13, 1000, 13, 13, 13, 13, 13, 13, 13, 13, 13, 13, 13, 13, 13, 13, 13, 13, 13, 13, 13, 13, 13, 13, 13, 13, 13, 13, 13, 13, 13, 13, 13, 13, 13, 13, 13, 13, 13, 13, 13, 13, 1000, 13, 13, 13, 13, 13, 13, 13, 13, 13, 13, 13, 13, 13, 13, 13, 13, 13, 13, 13, 13, 13, 13, 13, 13, 13, 13, 13, 1000, 13, 13, 13, 13, 1000, 13, 13, 13, 13, 13, 13, 13, 13, 13, 13, 13, 13, 13, 13, 13, 13, 13, 13, 13, 13, 13, 1000, 13, 13, 13, 13, 13, 13, 13, 13, 13]
set_option maxRecDepth 100000 in
theorem at_PN : at_P.map (fun M => M.1) = at_N := by decide +kernel
set_option maxRecDepth 100000 in
theorem at_PX : at_P.map (fun M => M.2.2.2.2.2.2.2) = at_X := by decide +kernel
end
section
/-! the stores behind the class's constructor, and behind the reference's, and on the way; cells the newest first -/
def sb_0 : List am_C := [(9, some (.inr (0, [.null, .null, .null, .null, .null, .null, .null, .null, .int 0])))]
def ss_0 : am_S := ((0, none), 1, sb_0)
def sb_1 : List am_C := [(2, some (.inr (5, [.ref 51, .int 0]))),
  (7, some (.inr (4, [.ref 50, .ref 52, .ref 54, .int 0, .int 0, .long 0, .int 0]))),
  (40, some (.inl (.int, 40, .int 0, []))),
  (40, some (.inl (.int, 40, .int 0, []))),
  (2, some (.inr (5, [.ref 47, .int 0]))),
  (40, some (.inl (.int, 40, .int 0, []))),
  (2, some (.inr (5, [.ref 45, .int 0]))),
  (7, some (.inr (4, [.ref 44, .ref 46, .ref 48, .int 0, .int 0, .long 0, .int 0]))),
  (40, some (.inl (.int, 40, .int 0, []))),
  (40, some (.inl (.int, 40, .int 0, []))),
  (2, some (.inr (5, [.ref 41, .int 0]))),
  (40, some (.inl (.int, 40, .int 0, []))),
  (2, some (.inr (5, [.ref 39, .int 0]))),
  (7, some (.inr (4, [.ref 38, .ref 40, .ref 42, .int 0, .int 0, .long 0, .int 0]))),
  (40, some (.inl (.int, 40, .int 0, []))),
  (40, some (.inl (.int, 40, .int 0, []))),
  (2, some (.inr (5, [.ref 35, .int 0]))),
  (40, some (.inl (.int, 40, .int 0, []))),
  (2, some (.inr (5, [.ref 33, .int 0]))),
  (7, some (.inr (4, [.ref 32, .ref 34, .ref 36, .int 0, .int 0, .long 0, .int 0]))),
  (40, some (.inl (.int, 40, .int 0, []))),
  (40, some (.inl (.int, 40, .int 0, []))),
  (2, some (.inr (5, [.ref 29, .int 0]))),
  (40, some (.inl (.int, 40, .int 0, []))),
  (2, some (.inr (5, [.ref 27, .int 0]))),
  (7, some (.inr (4, [.ref 26, .ref 28, .ref 30, .int 0, .int 0, .long 0, .int 0]))),
  (16, some (.inl (.object "EquationProofs$Equation", 16, .null, [(15, .ref 355), (14, .ref 349), (13, .ref 343), (12, .ref 337), (11, .ref 331), (10, .ref 325), (9, .ref 319), (8, .ref 313), (7, .ref 307), (6, .ref 301), (5, .ref 295), (4, .ref 289), (3, .ref 283), (2, .ref 277), (1, .ref 271), (0, .ref 265)]))),
  (40, some (.inl (.object "EquationProofs$Equation", 40, .null, [(39, .ref 259), (38, .ref 253), (37, .ref 247), (36, .ref 241), (35, .ref 235), (34, .ref 229), (33, .ref 223), (32, .ref 217), (31, .ref 211), (30, .ref 205), (29, .ref 199), (28, .ref 193), (27, .ref 187), (26, .ref 181), (25, .ref 175), (24, .ref 169), (23, .ref 163), (22, .ref 157), (21, .ref 151), (20, .ref 145), (19, .ref 139), (18, .ref 133), (17, .ref 127), (16, .ref 121), (15, .ref 115), (14, .ref 109), (13, .ref 103), (12, .ref 97), (11, .ref 91), (10, .ref 85), (9, .ref 79), (8, .ref 73), (7, .ref 67), (6, .ref 61), (5, .ref 55), (4, .ref 49), (3, .ref 43), (2, .ref 37), (1, .ref 31), (0, .ref 25)]))),
  (64, some (.inl (.int, 64, .int 0, []))),
  (16, some (.inl (.int, 16, .int 0, []))),
  (16, some (.inl (.int, 16, .int 0, []))),
  (16, some (.inl (.long, 16, .long 0, []))),
  (5, some (.inr (3, [.ref 19, .ref 20, .ref 21, .ref 22, .int 0]))),
  (64, some (.inl (.int, 64, .int 0, []))),
  (16, some (.inl (.int, 16, .int 0, []))),
  (16, some (.inl (.int, 16, .int 0, []))),
  (16, some (.inl (.long, 16, .long 0, []))),
  (5, some (.inr (3, [.ref 14, .ref 15, .ref 16, .ref 17, .int 0]))),
  (24, some (.inl (.int, 24, .int 0, []))),
  (6, some (.inl (.int, 6, .int 0, []))),
  (6, some (.inl (.int, 6, .int 0, []))),
  (6, some (.inl (.long, 6, .long 0, []))),
  (5, some (.inr (3, [.ref 9, .ref 10, .ref 11, .ref 12, .int 0]))),
  (7, some (.inr (2, [.ref 8, .ref 13, .ref 18, .ref 23, .ref 24, .int 0, .int 0]))),
  (1001, some (.inl (.long, 1001, .long 0, []))),
  (1001, some (.inl (.int, 1001, .int 0, []))),
  (1001, some (.inl (.int, 1001, .int 0, []))),
  (1000, some (.inl (.int, 1000, .int 0, []))),
  (6, some (.inr (1, [.ref 3, .int 0, .ref 4, .ref 5, .ref 6, .int 0]))),
  (9, some (.inr (0, [.ref 2, .ref 7, .ref 361, .ref 363, .ref 366, .ref 372, .null, .null, .int 0])))]
def sb_2 : List am_C := [(2, some (.inr (5, [.ref 101, .int 0]))),
  (40, some (.inl (.int, 40, .int 0, []))),
  (2, some (.inr (5, [.ref 99, .int 0]))),
  (7, some (.inr (4, [.ref 98, .ref 100, .ref 102, .int 0, .int 0, .long 0, .int 0]))),
  (40, some (.inl (.int, 40, .int 0, []))),
  (40, some (.inl (.int, 40, .int 0, []))),
  (2, some (.inr (5, [.ref 95, .int 0]))),
  (40, some (.inl (.int, 40, .int 0, []))),
  (2, some (.inr (5, [.ref 93, .int 0]))),
  (7, some (.inr (4, [.ref 92, .ref 94, .ref 96, .int 0, .int 0, .long 0, .int 0]))),
  (40, some (.inl (.int, 40, .int 0, []))),
  (40, some (.inl (.int, 40, .int 0, []))),
  (2, some (.inr (5, [.ref 89, .int 0]))),
  (40, some (.inl (.int, 40, .int 0, []))),
  (2, some (.inr (5, [.ref 87, .int 0]))),
  (7, some (.inr (4, [.ref 86, .ref 88, .ref 90, .int 0, .int 0, .long 0, .int 0]))),
  (40, some (.inl (.int, 40, .int 0, []))),
  (40, some (.inl (.int, 40, .int 0, []))),
  (2, some (.inr (5, [.ref 83, .int 0]))),
  (40, some (.inl (.int, 40, .int 0, []))),
  (2, some (.inr (5, [.ref 81, .int 0]))),
  (7, some (.inr (4, [.ref 80, .ref 82, .ref 84, .int 0, .int 0, .long 0, .int 0]))),
  (40, some (.inl (.int, 40, .int 0, []))),
  (40, some (.inl (.int, 40, .int 0, []))),
  (2, some (.inr (5, [.ref 77, .int 0]))),
  (40, some (.inl (.int, 40, .int 0, []))),
  (2, some (.inr (5, [.ref 75, .int 0]))),
  (7, some (.inr (4, [.ref 74, .ref 76, .ref 78, .int 0, .int 0, .long 0, .int 0]))),
  (40, some (.inl (.int, 40, .int 0, []))),
  (40, some (.inl (.int, 40, .int 0, []))),
  (2, some (.inr (5, [.ref 71, .int 0]))),
  (40, some (.inl (.int, 40, .int 0, []))),
  (2, some (.inr (5, [.ref 69, .int 0]))),
  (7, some (.inr (4, [.ref 68, .ref 70, .ref 72, .int 0, .int 0, .long 0, .int 0]))),
  (40, some (.inl (.int, 40, .int 0, []))),
  (40, some (.inl (.int, 40, .int 0, []))),
  (2, some (.inr (5, [.ref 65, .int 0]))),
  (40, some (.inl (.int, 40, .int 0, []))),
  (2, some (.inr (5, [.ref 63, .int 0]))),
  (7, some (.inr (4, [.ref 62, .ref 64, .ref 66, .int 0, .int 0, .long 0, .int 0]))),
  (40, some (.inl (.int, 40, .int 0, []))),
  (40, some (.inl (.int, 40, .int 0, []))),
  (2, some (.inr (5, [.ref 59, .int 0]))),
  (40, some (.inl (.int, 40, .int 0, []))),
  (2, some (.inr (5, [.ref 57, .int 0]))),
  (7, some (.inr (4, [.ref 56, .ref 58, .ref 60, .int 0, .int 0, .long 0, .int 0]))),
  (40, some (.inl (.int, 40, .int 0, []))),
  (40, some (.inl (.int, 40, .int 0, []))),
  (2, some (.inr (5, [.ref 53, .int 0]))),
  (40, some (.inl (.int, 40, .int 0, [])))]
def sb_3 : List am_C := [(40, some (.inl (.int, 40, .int 0, []))),
  (40, some (.inl (.int, 40, .int 0, []))),
  (2, some (.inr (5, [.ref 149, .int 0]))),
  (40, some (.inl (.int, 40, .int 0, []))),
  (2, some (.inr (5, [.ref 147, .int 0]))),
  (7, some (.inr (4, [.ref 146, .ref 148, .ref 150, .int 0, .int 0, .long 0, .int 0]))),
  (40, some (.inl (.int, 40, .int 0, []))),
  (40, some (.inl (.int, 40, .int 0, []))),
  (2, some (.inr (5, [.ref 143, .int 0]))),
  (40, some (.inl (.int, 40, .int 0, []))),
  (2, some (.inr (5, [.ref 141, .int 0]))),
  (7, some (.inr (4, [.ref 140, .ref 142, .ref 144, .int 0, .int 0, .long 0, .int 0]))),
  (40, some (.inl (.int, 40, .int 0, []))),
  (40, some (.inl (.int, 40, .int 0, []))),
  (2, some (.inr (5, [.ref 137, .int 0]))),
  (40, some (.inl (.int, 40, .int 0, []))),
  (2, some (.inr (5, [.ref 135, .int 0]))),
  (7, some (.inr (4, [.ref 134, .ref 136, .ref 138, .int 0, .int 0, .long 0, .int 0]))),
  (40, some (.inl (.int, 40, .int 0, []))),
  (40, some (.inl (.int, 40, .int 0, []))),
  (2, some (.inr (5, [.ref 131, .int 0]))),
  (40, some (.inl (.int, 40, .int 0, []))),
  (2, some (.inr (5, [.ref 129, .int 0]))),
  (7, some (.inr (4, [.ref 128, .ref 130, .ref 132, .int 0, .int 0, .long 0, .int 0]))),
  (40, some (.inl (.int, 40, .int 0, []))),
  (40, some (.inl (.int, 40, .int 0, []))),
  (2, some (.inr (5, [.ref 125, .int 0]))),
  (40, some (.inl (.int, 40, .int 0, []))),
  (2, some (.inr (5, [.ref 123, .int 0]))),
  (7, some (.inr (4, [.ref 122, .ref 124, .ref 126, .int 0, .int 0, .long 0, .int 0]))),
  (40, some (.inl (.int, 40, .int 0, []))),
  (40, some (.inl (.int, 40, .int 0, []))),
  (2, some (.inr (5, [.ref 119, .int 0]))),
  (40, some (.inl (.int, 40, .int 0, []))),
  (2, some (.inr (5, [.ref 117, .int 0]))),
  (7, some (.inr (4, [.ref 116, .ref 118, .ref 120, .int 0, .int 0, .long 0, .int 0]))),
  (40, some (.inl (.int, 40, .int 0, []))),
  (40, some (.inl (.int, 40, .int 0, []))),
  (2, some (.inr (5, [.ref 113, .int 0]))),
  (40, some (.inl (.int, 40, .int 0, []))),
  (2, some (.inr (5, [.ref 111, .int 0]))),
  (7, some (.inr (4, [.ref 110, .ref 112, .ref 114, .int 0, .int 0, .long 0, .int 0]))),
  (40, some (.inl (.int, 40, .int 0, []))),
  (40, some (.inl (.int, 40, .int 0, []))),
  (2, some (.inr (5, [.ref 107, .int 0]))),
  (40, some (.inl (.int, 40, .int 0, []))),
  (2, some (.inr (5, [.ref 105, .int 0]))),
  (7, some (.inr (4, [.ref 104, .ref 106, .ref 108, .int 0, .int 0, .long 0, .int 0]))),
  (40, some (.inl (.int, 40, .int 0, []))),
  (40, some (.inl (.int, 40, .int 0, [])))]
def sb_4 : List am_C := [(2, some (.inr (5, [.ref 201, .int 0]))),
  (7, some (.inr (4, [.ref 200, .ref 202, .ref 204, .int 0, .int 0, .long 0, .int 0]))),
  (40, some (.inl (.int, 40, .int 0, []))),
  (40, some (.inl (.int, 40, .int 0, []))),
  (2, some (.inr (5, [.ref 197, .int 0]))),
  (40, some (.inl (.int, 40, .int 0, []))),
  (2, some (.inr (5, [.ref 195, .int 0]))),
  (7, some (.inr (4, [.ref 194, .ref 196, .ref 198, .int 0, .int 0, .long 0, .int 0]))),
  (40, some (.inl (.int, 40, .int 0, []))),
  (40, some (.inl (.int, 40, .int 0, []))),
  (2, some (.inr (5, [.ref 191, .int 0]))),
  (40, some (.inl (.int, 40, .int 0, []))),
  (2, some (.inr (5, [.ref 189, .int 0]))),
  (7, some (.inr (4, [.ref 188, .ref 190, .ref 192, .int 0, .int 0, .long 0, .int 0]))),
  (40, some (.inl (.int, 40, .int 0, []))),
  (40, some (.inl (.int, 40, .int 0, []))),
  (2, some (.inr (5, [.ref 185, .int 0]))),
  (40, some (.inl (.int, 40, .int 0, []))),
  (2, some (.inr (5, [.ref 183, .int 0]))),
  (7, some (.inr (4, [.ref 182, .ref 184, .ref 186, .int 0, .int 0, .long 0, .int 0]))),
  (40, some (.inl (.int, 40, .int 0, []))),
  (40, some (.inl (.int, 40, .int 0, []))),
  (2, some (.inr (5, [.ref 179, .int 0]))),
  (40, some (.inl (.int, 40, .int 0, []))),
  (2, some (.inr (5, [.ref 177, .int 0]))),
  (7, some (.inr (4, [.ref 176, .ref 178, .ref 180, .int 0, .int 0, .long 0, .int 0]))),
  (40, some (.inl (.int, 40, .int 0, []))),
  (40, some (.inl (.int, 40, .int 0, []))),
  (2, some (.inr (5, [.ref 173, .int 0]))),
  (40, some (.inl (.int, 40, .int 0, []))),
  (2, some (.inr (5, [.ref 171, .int 0]))),
  (7, some (.inr (4, [.ref 170, .ref 172, .ref 174, .int 0, .int 0, .long 0, .int 0]))),
  (40, some (.inl (.int, 40, .int 0, []))),
  (40, some (.inl (.int, 40, .int 0, []))),
  (2, some (.inr (5, [.ref 167, .int 0]))),
  (40, some (.inl (.int, 40, .int 0, []))),
  (2, some (.inr (5, [.ref 165, .int 0]))),
  (7, some (.inr (4, [.ref 164, .ref 166, .ref 168, .int 0, .int 0, .long 0, .int 0]))),
  (40, some (.inl (.int, 40, .int 0, []))),
  (40, some (.inl (.int, 40, .int 0, []))),
  (2, some (.inr (5, [.ref 161, .int 0]))),
  (40, some (.inl (.int, 40, .int 0, []))),
  (2, some (.inr (5, [.ref 159, .int 0]))),
  (7, some (.inr (4, [.ref 158, .ref 160, .ref 162, .int 0, .int 0, .long 0, .int 0]))),
  (40, some (.inl (.int, 40, .int 0, []))),
  (40, some (.inl (.int, 40, .int 0, []))),
  (2, some (.inr (5, [.ref 155, .int 0]))),
  (40, some (.inl (.int, 40, .int 0, []))),
  (2, some (.inr (5, [.ref 153, .int 0]))),
  (7, some (.inr (4, [.ref 152, .ref 154, .ref 156, .int 0, .int 0, .long 0, .int 0])))]
def sb_5 : List am_C := [(2, some (.inr (5, [.ref 251, .int 0]))),
  (40, some (.inl (.int, 40, .int 0, []))),
  (2, some (.inr (5, [.ref 249, .int 0]))),
  (7, some (.inr (4, [.ref 248, .ref 250, .ref 252, .int 0, .int 0, .long 0, .int 0]))),
  (40, some (.inl (.int, 40, .int 0, []))),
  (40, some (.inl (.int, 40, .int 0, []))),
  (2, some (.inr (5, [.ref 245, .int 0]))),
  (40, some (.inl (.int, 40, .int 0, []))),
  (2, some (.inr (5, [.ref 243, .int 0]))),
  (7, some (.inr (4, [.ref 242, .ref 244, .ref 246, .int 0, .int 0, .long 0, .int 0]))),
  (40, some (.inl (.int, 40, .int 0, []))),
  (40, some (.inl (.int, 40, .int 0, []))),
  (2, some (.inr (5, [.ref 239, .int 0]))),
  (40, some (.inl (.int, 40, .int 0, []))),
  (2, some (.inr (5, [.ref 237, .int 0]))),
  (7, some (.inr (4, [.ref 236, .ref 238, .ref 240, .int 0, .int 0, .long 0, .int 0]))),
  (40, some (.inl (.int, 40, .int 0, []))),
  (40, some (.inl (.int, 40, .int 0, []))),
  (2, some (.inr (5, [.ref 233, .int 0]))),
  (40, some (.inl (.int, 40, .int 0, []))),
  (2, some (.inr (5, [.ref 231, .int 0]))),
  (7, some (.inr (4, [.ref 230, .ref 232, .ref 234, .int 0, .int 0, .long 0, .int 0]))),
  (40, some (.inl (.int, 40, .int 0, []))),
  (40, some (.inl (.int, 40, .int 0, []))),
  (2, some (.inr (5, [.ref 227, .int 0]))),
  (40, some (.inl (.int, 40, .int 0, []))),
  (2, some (.inr (5, [.ref 225, .int 0]))),
  (7, some (.inr (4, [.ref 224, .ref 226, .ref 228, .int 0, .int 0, .long 0, .int 0]))),
  (40, some (.inl (.int, 40, .int 0, []))),
  (40, some (.inl (.int, 40, .int 0, []))),
  (2, some (.inr (5, [.ref 221, .int 0]))),
  (40, some (.inl (.int, 40, .int 0, []))),
  (2, some (.inr (5, [.ref 219, .int 0]))),
  (7, some (.inr (4, [.ref 218, .ref 220, .ref 222, .int 0, .int 0, .long 0, .int 0]))),
  (40, some (.inl (.int, 40, .int 0, []))),
  (40, some (.inl (.int, 40, .int 0, []))),
  (2, some (.inr (5, [.ref 215, .int 0]))),
  (40, some (.inl (.int, 40, .int 0, []))),
  (2, some (.inr (5, [.ref 213, .int 0]))),
  (7, some (.inr (4, [.ref 212, .ref 214, .ref 216, .int 0, .int 0, .long 0, .int 0]))),
  (40, some (.inl (.int, 40, .int 0, []))),
  (40, some (.inl (.int, 40, .int 0, []))),
  (2, some (.inr (5, [.ref 209, .int 0]))),
  (40, some (.inl (.int, 40, .int 0, []))),
  (2, some (.inr (5, [.ref 207, .int 0]))),
  (7, some (.inr (4, [.ref 206, .ref 208, .ref 210, .int 0, .int 0, .long 0, .int 0]))),
  (40, some (.inl (.int, 40, .int 0, []))),
  (40, some (.inl (.int, 40, .int 0, []))),
  (2, some (.inr (5, [.ref 203, .int 0]))),
  (40, some (.inl (.int, 40, .int 0, [])))]
def sb_6 : List am_C := [(40, some (.inl (.int, 40, .int 0, []))),
  (40, some (.inl (.int, 40, .int 0, []))),
  (2, some (.inr (5, [.ref 299, .int 0]))),
  (40, some (.inl (.int, 40, .int 0, []))),
  (2, some (.inr (5, [.ref 297, .int 0]))),
  (7, some (.inr (4, [.ref 296, .ref 298, .ref 300, .int 0, .int 0, .long 0, .int 0]))),
  (40, some (.inl (.int, 40, .int 0, []))),
  (40, some (.inl (.int, 40, .int 0, []))),
  (2, some (.inr (5, [.ref 293, .int 0]))),
  (40, some (.inl (.int, 40, .int 0, []))),
  (2, some (.inr (5, [.ref 291, .int 0]))),
  (7, some (.inr (4, [.ref 290, .ref 292, .ref 294, .int 0, .int 0, .long 0, .int 0]))),
  (40, some (.inl (.int, 40, .int 0, []))),
  (40, some (.inl (.int, 40, .int 0, []))),
  (2, some (.inr (5, [.ref 287, .int 0]))),
  (40, some (.inl (.int, 40, .int 0, []))),
  (2, some (.inr (5, [.ref 285, .int 0]))),
  (7, some (.inr (4, [.ref 284, .ref 286, .ref 288, .int 0, .int 0, .long 0, .int 0]))),
  (40, some (.inl (.int, 40, .int 0, []))),
  (40, some (.inl (.int, 40, .int 0, []))),
  (2, some (.inr (5, [.ref 281, .int 0]))),
  (40, some (.inl (.int, 40, .int 0, []))),
  (2, some (.inr (5, [.ref 279, .int 0]))),
  (7, some (.inr (4, [.ref 278, .ref 280, .ref 282, .int 0, .int 0, .long 0, .int 0]))),
  (40, some (.inl (.int, 40, .int 0, []))),
  (40, some (.inl (.int, 40, .int 0, []))),
  (2, some (.inr (5, [.ref 275, .int 0]))),
  (40, some (.inl (.int, 40, .int 0, []))),
  (2, some (.inr (5, [.ref 273, .int 0]))),
  (7, some (.inr (4, [.ref 272, .ref 274, .ref 276, .int 0, .int 0, .long 0, .int 0]))),
  (40, some (.inl (.int, 40, .int 0, []))),
  (40, some (.inl (.int, 40, .int 0, []))),
  (2, some (.inr (5, [.ref 269, .int 0]))),
  (40, some (.inl (.int, 40, .int 0, []))),
  (2, some (.inr (5, [.ref 267, .int 0]))),
  (7, some (.inr (4, [.ref 266, .ref 268, .ref 270, .int 0, .int 0, .long 0, .int 0]))),
  (40, some (.inl (.int, 40, .int 0, []))),
  (40, some (.inl (.int, 40, .int 0, []))),
  (2, some (.inr (5, [.ref 263, .int 0]))),
  (40, some (.inl (.int, 40, .int 0, []))),
  (2, some (.inr (5, [.ref 261, .int 0]))),
  (7, some (.inr (4, [.ref 260, .ref 262, .ref 264, .int 0, .int 0, .long 0, .int 0]))),
  (40, some (.inl (.int, 40, .int 0, []))),
  (40, some (.inl (.int, 40, .int 0, []))),
  (2, some (.inr (5, [.ref 257, .int 0]))),
  (40, some (.inl (.int, 40, .int 0, []))),
  (2, some (.inr (5, [.ref 255, .int 0]))),
  (7, some (.inr (4, [.ref 254, .ref 256, .ref 258, .int 0, .int 0, .long 0, .int 0]))),
  (40, some (.inl (.int, 40, .int 0, []))),
  (40, some (.inl (.int, 40, .int 0, [])))]
def sb_7 : List am_C := [(2, some (.inr (5, [.ref 351, .int 0]))),
  (7, some (.inr (4, [.ref 350, .ref 352, .ref 354, .int 0, .int 0, .long 0, .int 0]))),
  (40, some (.inl (.int, 40, .int 0, []))),
  (40, some (.inl (.int, 40, .int 0, []))),
  (2, some (.inr (5, [.ref 347, .int 0]))),
  (40, some (.inl (.int, 40, .int 0, []))),
  (2, some (.inr (5, [.ref 345, .int 0]))),
  (7, some (.inr (4, [.ref 344, .ref 346, .ref 348, .int 0, .int 0, .long 0, .int 0]))),
  (40, some (.inl (.int, 40, .int 0, []))),
  (40, some (.inl (.int, 40, .int 0, []))),
  (2, some (.inr (5, [.ref 341, .int 0]))),
  (40, some (.inl (.int, 40, .int 0, []))),
  (2, some (.inr (5, [.ref 339, .int 0]))),
  (7, some (.inr (4, [.ref 338, .ref 340, .ref 342, .int 0, .int 0, .long 0, .int 0]))),
  (40, some (.inl (.int, 40, .int 0, []))),
  (40, some (.inl (.int, 40, .int 0, []))),
  (2, some (.inr (5, [.ref 335, .int 0]))),
  (40, some (.inl (.int, 40, .int 0, []))),
  (2, some (.inr (5, [.ref 333, .int 0]))),
  (7, some (.inr (4, [.ref 332, .ref 334, .ref 336, .int 0, .int 0, .long 0, .int 0]))),
  (40, some (.inl (.int, 40, .int 0, []))),
  (40, some (.inl (.int, 40, .int 0, []))),
  (2, some (.inr (5, [.ref 329, .int 0]))),
  (40, some (.inl (.int, 40, .int 0, []))),
  (2, some (.inr (5, [.ref 327, .int 0]))),
  (7, some (.inr (4, [.ref 326, .ref 328, .ref 330, .int 0, .int 0, .long 0, .int 0]))),
  (40, some (.inl (.int, 40, .int 0, []))),
  (40, some (.inl (.int, 40, .int 0, []))),
  (2, some (.inr (5, [.ref 323, .int 0]))),
  (40, some (.inl (.int, 40, .int 0, []))),
  (2, some (.inr (5, [.ref 321, .int 0]))),
  (7, some (.inr (4, [.ref 320, .ref 322, .ref 324, .int 0, .int 0, .long 0, .int 0]))),
  (40, some (.inl (.int, 40, .int 0, []))),
  (40, some (.inl (.int, 40, .int 0, []))),
  (2, some (.inr (5, [.ref 317, .int 0]))),
  (40, some (.inl (.int, 40, .int 0, []))),
  (2, some (.inr (5, [.ref 315, .int 0]))),
  (7, some (.inr (4, [.ref 314, .ref 316, .ref 318, .int 0, .int 0, .long 0, .int 0]))),
  (40, some (.inl (.int, 40, .int 0, []))),
  (40, some (.inl (.int, 40, .int 0, []))),
  (2, some (.inr (5, [.ref 311, .int 0]))),
  (40, some (.inl (.int, 40, .int 0, []))),
  (2, some (.inr (5, [.ref 309, .int 0]))),
  (7, some (.inr (4, [.ref 308, .ref 310, .ref 312, .int 0, .int 0, .long 0, .int 0]))),
  (40, some (.inl (.int, 40, .int 0, []))),
  (40, some (.inl (.int, 40, .int 0, []))),
  (2, some (.inr (5, [.ref 305, .int 0]))),
  (40, some (.inl (.int, 40, .int 0, []))),
  (2, some (.inr (5, [.ref 303, .int 0]))),
  (7, some (.inr (4, [.ref 302, .ref 304, .ref 306, .int 0, .int 0, .long 0, .int 0])))]
def sb_8 : List am_C := [(2, some (.inr (5, [.ref 401, .int 0]))),
  (6, some (.inl (.int, 6, .int 0, []))),
  (2, some (.inr (5, [.ref 399, .int 0]))),
  (6, some (.inl (.int, 6, .int 0, []))),
  (2, some (.inr (5, [.ref 397, .int 0]))),
  (6, some (.inl (.int, 6, .int 0, []))),
  (2, some (.inr (5, [.ref 395, .int 0]))),
  (6, some (.inl (.int, 6, .int 0, []))),
  (2, some (.inr (5, [.ref 393, .int 0]))),
  (6, some (.inl (.int, 6, .int 0, []))),
  (2, some (.inr (5, [.ref 391, .int 0]))),
  (6, some (.inl (.int, 6, .int 0, []))),
  (2, some (.inr (5, [.ref 389, .int 0]))),
  (6, some (.inl (.int, 6, .int 0, []))),
  (2, some (.inr (5, [.ref 387, .int 0]))),
  (6, some (.inl (.int, 6, .int 0, []))),
  (2, some (.inr (5, [.ref 385, .int 0]))),
  (6, some (.inl (.int, 6, .int 0, []))),
  (2, some (.inr (5, [.ref 383, .int 0]))),
  (240, some (.inl (.int, 240, .int 0, []))),
  (2, some (.inr (5, [.ref 381, .int 0]))),
  (240, some (.inl (.int, 240, .int 0, []))),
  (2, some (.inr (5, [.ref 379, .int 0]))),
  (6, some (.inl (.object "EquationProofs$Term", 6, .null, [(5, .ref 404), (4, .ref 400), (3, .ref 396), (2, .ref 392), (1, .ref 388), (0, .ref 384)]))),
  (6, some (.inl (.object "EquationProofs$Term", 6, .null, [(5, .ref 402), (4, .ref 398), (3, .ref 394), (2, .ref 390), (1, .ref 386), (0, .ref 382)]))),
  (6, some (.inl (.int, 6, .int 0, []))),
  (448, some (.inl (.int, 448, .int 0, []))),
  (42, some (.inl (.int, 42, .int 0, []))),
  (11, some (.inr (9, [.ref 7, .ref 366, .ref 373, .ref 374, .ref 375, .ref 376, .ref 377, .ref 378, .ref 380, .int 0, .int (-1)]))),
  (120, some (.inl (.int, 120, .int 0, []))),
  (2, some (.inr (5, [.ref 371, .int 0]))),
  (1, some (.inl (.int, 1, .int 0, [(0, .int 0)]))),
  (2, some (.inr (5, [.ref 369, .int 1]))),
  (60, some (.inl (.int, 60, .int 0, []))),
  (7, some (.inr (8, [.ref 7, .ref 367, .ref 368, .ref 370, .ref 368, .int 0, .int 0]))),
  (120, some (.inl (.int, 120, .int 0, []))),
  (1080, some (.inl (.int, 1080, .int 0, []))),
  (4, some (.inr (7, [.ref 7, .ref 364, .ref 365, .int 0]))),
  (40, some (.inl (.long, 40, .long 0, []))),
  (10, some (.inr (6, [.ref 2, .ref 7, .ref 362, .int 0, .int 0, .int 0, .int 0, .ref 25, .ref 26, .int 0]))),
  (40, some (.inl (.int, 40, .int 0, []))),
  (40, some (.inl (.int, 40, .int 0, []))),
  (2, some (.inr (5, [.ref 359, .int 0]))),
  (40, some (.inl (.int, 40, .int 0, []))),
  (2, some (.inr (5, [.ref 357, .int 0]))),
  (7, some (.inr (4, [.ref 356, .ref 358, .ref 360, .int 0, .int 0, .long 0, .int 0]))),
  (40, some (.inl (.int, 40, .int 0, []))),
  (40, some (.inl (.int, 40, .int 0, []))),
  (2, some (.inr (5, [.ref 353, .int 0]))),
  (40, some (.inl (.int, 40, .int 0, [])))]
def sb_9 : List am_C := [(19, some (.inr (10, [.null, .null, .null, .null, .null, .null, .null, .null, .long 0, .long 0, .null, .null, .null, .int 0, .int 0, .long 0, .int 0, .int 0, .int 0]))),
  (6, some (.inl (.int, 6, .int 0, []))),
  (2, some (.inr (5, [.ref 405, .int 0]))),
  (6, some (.inl (.int, 6, .int 0, []))),
  (2, some (.inr (5, [.ref 403, .int 0]))),
  (6, some (.inl (.int, 6, .int 0, [])))]
def ss_1 : am_S := ((0, none), 406, sb_9 ++ (sb_8 ++ (sb_7 ++ (sb_6 ++ (sb_5 ++ (sb_4 ++ (sb_3 ++ (sb_2 ++ (sb_1)))))))))
set_option maxRecDepth 1000000 in
theorem ke_1 : am_many at_P at_cl at_ty 4000 12 mt_0 51 0 [(0, .ref 1)] [] ss_0 = some (107, [(0, .ref 1)], [.ref 366, .ref 7, .ref 406, .ref 406, .ref 1], ss_1, 405, 14253) := am_isM_of (by decide +kernel)
def sb_10 : List am_C := [(18, some (.inl (.object "EquationProofs$Term", 18, .null, [(17, .ref 486), (16, .ref 484), (15, .ref 482), (14, .ref 480), (13, .ref 478), (12, .ref 476), (11, .ref 474), (10, .ref 472), (9, .ref 470), (8, .ref 468), (7, .ref 466), (6, .ref 464), (5, .ref 462), (4, .ref 460), (3, .ref 458), (2, .ref 456), (1, .ref 454), (0, .ref 452)]))),
  (5, some (.inr (12, [.ref 450, .ref 451, .int 0, .long 0, .int 0]))),
  (60, some (.inl (.int, 60, .int 0, []))),
  (2, some (.inr (5, [.ref 448, .int 0]))),
  (60, some (.inl (.int, 60, .int 0, []))),
  (2, some (.inr (5, [.ref 446, .int 0]))),
  (60, some (.inl (.int, 60, .int 0, []))),
  (2, some (.inr (5, [.ref 444, .int 0]))),
  (60, some (.inl (.int, 60, .int 0, []))),
  (2, some (.inr (5, [.ref 442, .int 0]))),
  (60, some (.inl (.int, 60, .int 0, []))),
  (2, some (.inr (5, [.ref 440, .int 0]))),
  (60, some (.inl (.int, 60, .int 0, []))),
  (2, some (.inr (5, [.ref 438, .int 0]))),
  (60, some (.inl (.int, 60, .int 0, []))),
  (2, some (.inr (5, [.ref 436, .int 0]))),
  (60, some (.inl (.int, 60, .int 0, []))),
  (2, some (.inr (5, [.ref 434, .int 0]))),
  (60, some (.inl (.int, 60, .int 0, []))),
  (2, some (.inr (5, [.ref 432, .int 0]))),
  (60, some (.inl (.int, 60, .int 0, []))),
  (2, some (.inr (5, [.ref 430, .int 0]))),
  (60, some (.inl (.int, 60, .int 0, []))),
  (2, some (.inr (5, [.ref 428, .int 0]))),
  (60, some (.inl (.int, 60, .int 0, []))),
  (2, some (.inr (5, [.ref 426, .int 0]))),
  (60, some (.inl (.int, 60, .int 0, []))),
  (2, some (.inr (5, [.ref 424, .int 0]))),
  (60, some (.inl (.int, 60, .int 0, []))),
  (2, some (.inr (5, [.ref 422, .int 0]))),
  (60, some (.inl (.int, 60, .int 0, []))),
  (2, some (.inr (5, [.ref 420, .int 0]))),
  (60, some (.inl (.int, 60, .int 0, []))),
  (2, some (.inr (5, [.ref 418, .int 0]))),
  (60, some (.inl (.int, 60, .int 0, []))),
  (2, some (.inr (5, [.ref 416, .int 0]))),
  (60, some (.inl (.int, 60, .int 0, []))),
  (2, some (.inr (5, [.ref 414, .int 0]))),
  (8, some (.inl (.long, 8, .long 0, []))),
  (18, some (.inl (.object "EquationProofs$Term", 18, .null, [(17, .ref 447), (16, .ref 445), (15, .ref 443), (14, .ref 441), (13, .ref 439), (12, .ref 437), (11, .ref 435), (10, .ref 433), (9, .ref 431), (8, .ref 429), (7, .ref 427), (6, .ref 425), (5, .ref 423), (4, .ref 421), (3, .ref 419), (2, .ref 417), (1, .ref 415), (0, .ref 413)]))),
  (5, some (.inr (12, [.ref 411, .ref 412, .int 0, .long 0, .int 0]))),
  (60, some (.inl (.int, 60, .int 0, []))),
  (12, some (.inl (.object "EquationProofs$Goal", 12, .null, [(11, .ref 839), (10, .ref 800), (9, .ref 761), (8, .ref 722), (7, .ref 683), (6, .ref 644), (5, .ref 605), (4, .ref 566), (3, .ref 527), (2, .ref 488), (1, .ref 449), (0, .ref 410)]))),
  (8, some (.inr (11, [.ref 408, .ref 409, .int 0, .int 0, .int 0, .int 0, .int 0, .long 0]))),
  (19, some (.inr (10, [.null, .null, .ref 407, .null, .null, .null, .null, .null, .long 0, .long 0, .null, .null, .null, .int 0, .int 0, .long 0, .int 0, .int 0, .int 0]))),
  (6, some (.inl (.int, 6, .int 0, []))),
  (2, some (.inr (5, [.ref 405, .int 0]))),
  (6, some (.inl (.int, 6, .int 0, []))),
  (2, some (.inr (5, [.ref 403, .int 0]))),
  (6, some (.inl (.int, 6, .int 0, [])))]
def sb_11 : List am_C := [(60, some (.inl (.int, 60, .int 0, []))),
  (2, some (.inr (5, [.ref 500, .int 0]))),
  (60, some (.inl (.int, 60, .int 0, []))),
  (2, some (.inr (5, [.ref 498, .int 0]))),
  (60, some (.inl (.int, 60, .int 0, []))),
  (2, some (.inr (5, [.ref 496, .int 0]))),
  (60, some (.inl (.int, 60, .int 0, []))),
  (2, some (.inr (5, [.ref 494, .int 0]))),
  (60, some (.inl (.int, 60, .int 0, []))),
  (2, some (.inr (5, [.ref 492, .int 0]))),
  (8, some (.inl (.long, 8, .long 0, []))),
  (18, some (.inl (.object "EquationProofs$Term", 18, .null, [(17, .ref 525), (16, .ref 523), (15, .ref 521), (14, .ref 519), (13, .ref 517), (12, .ref 515), (11, .ref 513), (10, .ref 511), (9, .ref 509), (8, .ref 507), (7, .ref 505), (6, .ref 503), (5, .ref 501), (4, .ref 499), (3, .ref 497), (2, .ref 495), (1, .ref 493), (0, .ref 491)]))),
  (5, some (.inr (12, [.ref 489, .ref 490, .int 0, .long 0, .int 0]))),
  (60, some (.inl (.int, 60, .int 0, []))),
  (2, some (.inr (5, [.ref 487, .int 0]))),
  (60, some (.inl (.int, 60, .int 0, []))),
  (2, some (.inr (5, [.ref 485, .int 0]))),
  (60, some (.inl (.int, 60, .int 0, []))),
  (2, some (.inr (5, [.ref 483, .int 0]))),
  (60, some (.inl (.int, 60, .int 0, []))),
  (2, some (.inr (5, [.ref 481, .int 0]))),
  (60, some (.inl (.int, 60, .int 0, []))),
  (2, some (.inr (5, [.ref 479, .int 0]))),
  (60, some (.inl (.int, 60, .int 0, []))),
  (2, some (.inr (5, [.ref 477, .int 0]))),
  (60, some (.inl (.int, 60, .int 0, []))),
  (2, some (.inr (5, [.ref 475, .int 0]))),
  (60, some (.inl (.int, 60, .int 0, []))),
  (2, some (.inr (5, [.ref 473, .int 0]))),
  (60, some (.inl (.int, 60, .int 0, []))),
  (2, some (.inr (5, [.ref 471, .int 0]))),
  (60, some (.inl (.int, 60, .int 0, []))),
  (2, some (.inr (5, [.ref 469, .int 0]))),
  (60, some (.inl (.int, 60, .int 0, []))),
  (2, some (.inr (5, [.ref 467, .int 0]))),
  (60, some (.inl (.int, 60, .int 0, []))),
  (2, some (.inr (5, [.ref 465, .int 0]))),
  (60, some (.inl (.int, 60, .int 0, []))),
  (2, some (.inr (5, [.ref 463, .int 0]))),
  (60, some (.inl (.int, 60, .int 0, []))),
  (2, some (.inr (5, [.ref 461, .int 0]))),
  (60, some (.inl (.int, 60, .int 0, []))),
  (2, some (.inr (5, [.ref 459, .int 0]))),
  (60, some (.inl (.int, 60, .int 0, []))),
  (2, some (.inr (5, [.ref 457, .int 0]))),
  (60, some (.inl (.int, 60, .int 0, []))),
  (2, some (.inr (5, [.ref 455, .int 0]))),
  (60, some (.inl (.int, 60, .int 0, []))),
  (2, some (.inr (5, [.ref 453, .int 0]))),
  (8, some (.inl (.long, 8, .long 0, [])))]
def sb_12 : List am_C := [(2, some (.inr (5, [.ref 551, .int 0]))),
  (60, some (.inl (.int, 60, .int 0, []))),
  (2, some (.inr (5, [.ref 549, .int 0]))),
  (60, some (.inl (.int, 60, .int 0, []))),
  (2, some (.inr (5, [.ref 547, .int 0]))),
  (60, some (.inl (.int, 60, .int 0, []))),
  (2, some (.inr (5, [.ref 545, .int 0]))),
  (60, some (.inl (.int, 60, .int 0, []))),
  (2, some (.inr (5, [.ref 543, .int 0]))),
  (60, some (.inl (.int, 60, .int 0, []))),
  (2, some (.inr (5, [.ref 541, .int 0]))),
  (60, some (.inl (.int, 60, .int 0, []))),
  (2, some (.inr (5, [.ref 539, .int 0]))),
  (60, some (.inl (.int, 60, .int 0, []))),
  (2, some (.inr (5, [.ref 537, .int 0]))),
  (60, some (.inl (.int, 60, .int 0, []))),
  (2, some (.inr (5, [.ref 535, .int 0]))),
  (60, some (.inl (.int, 60, .int 0, []))),
  (2, some (.inr (5, [.ref 533, .int 0]))),
  (60, some (.inl (.int, 60, .int 0, []))),
  (2, some (.inr (5, [.ref 531, .int 0]))),
  (8, some (.inl (.long, 8, .long 0, []))),
  (18, some (.inl (.object "EquationProofs$Term", 18, .null, [(17, .ref 564), (16, .ref 562), (15, .ref 560), (14, .ref 558), (13, .ref 556), (12, .ref 554), (11, .ref 552), (10, .ref 550), (9, .ref 548), (8, .ref 546), (7, .ref 544), (6, .ref 542), (5, .ref 540), (4, .ref 538), (3, .ref 536), (2, .ref 534), (1, .ref 532), (0, .ref 530)]))),
  (5, some (.inr (12, [.ref 528, .ref 529, .int 0, .long 0, .int 0]))),
  (60, some (.inl (.int, 60, .int 0, []))),
  (2, some (.inr (5, [.ref 526, .int 0]))),
  (60, some (.inl (.int, 60, .int 0, []))),
  (2, some (.inr (5, [.ref 524, .int 0]))),
  (60, some (.inl (.int, 60, .int 0, []))),
  (2, some (.inr (5, [.ref 522, .int 0]))),
  (60, some (.inl (.int, 60, .int 0, []))),
  (2, some (.inr (5, [.ref 520, .int 0]))),
  (60, some (.inl (.int, 60, .int 0, []))),
  (2, some (.inr (5, [.ref 518, .int 0]))),
  (60, some (.inl (.int, 60, .int 0, []))),
  (2, some (.inr (5, [.ref 516, .int 0]))),
  (60, some (.inl (.int, 60, .int 0, []))),
  (2, some (.inr (5, [.ref 514, .int 0]))),
  (60, some (.inl (.int, 60, .int 0, []))),
  (2, some (.inr (5, [.ref 512, .int 0]))),
  (60, some (.inl (.int, 60, .int 0, []))),
  (2, some (.inr (5, [.ref 510, .int 0]))),
  (60, some (.inl (.int, 60, .int 0, []))),
  (2, some (.inr (5, [.ref 508, .int 0]))),
  (60, some (.inl (.int, 60, .int 0, []))),
  (2, some (.inr (5, [.ref 506, .int 0]))),
  (60, some (.inl (.int, 60, .int 0, []))),
  (2, some (.inr (5, [.ref 504, .int 0]))),
  (60, some (.inl (.int, 60, .int 0, []))),
  (2, some (.inr (5, [.ref 502, .int 0])))]
def sb_13 : List am_C := [(60, some (.inl (.int, 60, .int 0, []))),
  (2, some (.inr (5, [.ref 600, .int 0]))),
  (60, some (.inl (.int, 60, .int 0, []))),
  (2, some (.inr (5, [.ref 598, .int 0]))),
  (60, some (.inl (.int, 60, .int 0, []))),
  (2, some (.inr (5, [.ref 596, .int 0]))),
  (60, some (.inl (.int, 60, .int 0, []))),
  (2, some (.inr (5, [.ref 594, .int 0]))),
  (60, some (.inl (.int, 60, .int 0, []))),
  (2, some (.inr (5, [.ref 592, .int 0]))),
  (60, some (.inl (.int, 60, .int 0, []))),
  (2, some (.inr (5, [.ref 590, .int 0]))),
  (60, some (.inl (.int, 60, .int 0, []))),
  (2, some (.inr (5, [.ref 588, .int 0]))),
  (60, some (.inl (.int, 60, .int 0, []))),
  (2, some (.inr (5, [.ref 586, .int 0]))),
  (60, some (.inl (.int, 60, .int 0, []))),
  (2, some (.inr (5, [.ref 584, .int 0]))),
  (60, some (.inl (.int, 60, .int 0, []))),
  (2, some (.inr (5, [.ref 582, .int 0]))),
  (60, some (.inl (.int, 60, .int 0, []))),
  (2, some (.inr (5, [.ref 580, .int 0]))),
  (60, some (.inl (.int, 60, .int 0, []))),
  (2, some (.inr (5, [.ref 578, .int 0]))),
  (60, some (.inl (.int, 60, .int 0, []))),
  (2, some (.inr (5, [.ref 576, .int 0]))),
  (60, some (.inl (.int, 60, .int 0, []))),
  (2, some (.inr (5, [.ref 574, .int 0]))),
  (60, some (.inl (.int, 60, .int 0, []))),
  (2, some (.inr (5, [.ref 572, .int 0]))),
  (60, some (.inl (.int, 60, .int 0, []))),
  (2, some (.inr (5, [.ref 570, .int 0]))),
  (8, some (.inl (.long, 8, .long 0, []))),
  (18, some (.inl (.object "EquationProofs$Term", 18, .null, [(17, .ref 603), (16, .ref 601), (15, .ref 599), (14, .ref 597), (13, .ref 595), (12, .ref 593), (11, .ref 591), (10, .ref 589), (9, .ref 587), (8, .ref 585), (7, .ref 583), (6, .ref 581), (5, .ref 579), (4, .ref 577), (3, .ref 575), (2, .ref 573), (1, .ref 571), (0, .ref 569)]))),
  (5, some (.inr (12, [.ref 567, .ref 568, .int 0, .long 0, .int 0]))),
  (60, some (.inl (.int, 60, .int 0, []))),
  (2, some (.inr (5, [.ref 565, .int 0]))),
  (60, some (.inl (.int, 60, .int 0, []))),
  (2, some (.inr (5, [.ref 563, .int 0]))),
  (60, some (.inl (.int, 60, .int 0, []))),
  (2, some (.inr (5, [.ref 561, .int 0]))),
  (60, some (.inl (.int, 60, .int 0, []))),
  (2, some (.inr (5, [.ref 559, .int 0]))),
  (60, some (.inl (.int, 60, .int 0, []))),
  (2, some (.inr (5, [.ref 557, .int 0]))),
  (60, some (.inl (.int, 60, .int 0, []))),
  (2, some (.inr (5, [.ref 555, .int 0]))),
  (60, some (.inl (.int, 60, .int 0, []))),
  (2, some (.inr (5, [.ref 553, .int 0]))),
  (60, some (.inl (.int, 60, .int 0, [])))]
def sb_14 : List am_C := [(60, some (.inl (.int, 60, .int 0, []))),
  (2, some (.inr (5, [.ref 650, .int 0]))),
  (60, some (.inl (.int, 60, .int 0, []))),
  (2, some (.inr (5, [.ref 648, .int 0]))),
  (8, some (.inl (.long, 8, .long 0, []))),
  (18, some (.inl (.object "EquationProofs$Term", 18, .null, [(17, .ref 681), (16, .ref 679), (15, .ref 677), (14, .ref 675), (13, .ref 673), (12, .ref 671), (11, .ref 669), (10, .ref 667), (9, .ref 665), (8, .ref 663), (7, .ref 661), (6, .ref 659), (5, .ref 657), (4, .ref 655), (3, .ref 653), (2, .ref 651), (1, .ref 649), (0, .ref 647)]))),
  (5, some (.inr (12, [.ref 645, .ref 646, .int 0, .long 0, .int 0]))),
  (60, some (.inl (.int, 60, .int 0, []))),
  (2, some (.inr (5, [.ref 643, .int 0]))),
  (60, some (.inl (.int, 60, .int 0, []))),
  (2, some (.inr (5, [.ref 641, .int 0]))),
  (60, some (.inl (.int, 60, .int 0, []))),
  (2, some (.inr (5, [.ref 639, .int 0]))),
  (60, some (.inl (.int, 60, .int 0, []))),
  (2, some (.inr (5, [.ref 637, .int 0]))),
  (60, some (.inl (.int, 60, .int 0, []))),
  (2, some (.inr (5, [.ref 635, .int 0]))),
  (60, some (.inl (.int, 60, .int 0, []))),
  (2, some (.inr (5, [.ref 633, .int 0]))),
  (60, some (.inl (.int, 60, .int 0, []))),
  (2, some (.inr (5, [.ref 631, .int 0]))),
  (60, some (.inl (.int, 60, .int 0, []))),
  (2, some (.inr (5, [.ref 629, .int 0]))),
  (60, some (.inl (.int, 60, .int 0, []))),
  (2, some (.inr (5, [.ref 627, .int 0]))),
  (60, some (.inl (.int, 60, .int 0, []))),
  (2, some (.inr (5, [.ref 625, .int 0]))),
  (60, some (.inl (.int, 60, .int 0, []))),
  (2, some (.inr (5, [.ref 623, .int 0]))),
  (60, some (.inl (.int, 60, .int 0, []))),
  (2, some (.inr (5, [.ref 621, .int 0]))),
  (60, some (.inl (.int, 60, .int 0, []))),
  (2, some (.inr (5, [.ref 619, .int 0]))),
  (60, some (.inl (.int, 60, .int 0, []))),
  (2, some (.inr (5, [.ref 617, .int 0]))),
  (60, some (.inl (.int, 60, .int 0, []))),
  (2, some (.inr (5, [.ref 615, .int 0]))),
  (60, some (.inl (.int, 60, .int 0, []))),
  (2, some (.inr (5, [.ref 613, .int 0]))),
  (60, some (.inl (.int, 60, .int 0, []))),
  (2, some (.inr (5, [.ref 611, .int 0]))),
  (60, some (.inl (.int, 60, .int 0, []))),
  (2, some (.inr (5, [.ref 609, .int 0]))),
  (8, some (.inl (.long, 8, .long 0, []))),
  (18, some (.inl (.object "EquationProofs$Term", 18, .null, [(17, .ref 642), (16, .ref 640), (15, .ref 638), (14, .ref 636), (13, .ref 634), (12, .ref 632), (11, .ref 630), (10, .ref 628), (9, .ref 626), (8, .ref 624), (7, .ref 622), (6, .ref 620), (5, .ref 618), (4, .ref 616), (3, .ref 614), (2, .ref 612), (1, .ref 610), (0, .ref 608)]))),
  (5, some (.inr (12, [.ref 606, .ref 607, .int 0, .long 0, .int 0]))),
  (60, some (.inl (.int, 60, .int 0, []))),
  (2, some (.inr (5, [.ref 604, .int 0]))),
  (60, some (.inl (.int, 60, .int 0, []))),
  (2, some (.inr (5, [.ref 602, .int 0])))]
def sb_15 : List am_C := [(2, some (.inr (5, [.ref 701, .int 0]))),
  (60, some (.inl (.int, 60, .int 0, []))),
  (2, some (.inr (5, [.ref 699, .int 0]))),
  (60, some (.inl (.int, 60, .int 0, []))),
  (2, some (.inr (5, [.ref 697, .int 0]))),
  (60, some (.inl (.int, 60, .int 0, []))),
  (2, some (.inr (5, [.ref 695, .int 0]))),
  (60, some (.inl (.int, 60, .int 0, []))),
  (2, some (.inr (5, [.ref 693, .int 0]))),
  (60, some (.inl (.int, 60, .int 0, []))),
  (2, some (.inr (5, [.ref 691, .int 0]))),
  (60, some (.inl (.int, 60, .int 0, []))),
  (2, some (.inr (5, [.ref 689, .int 0]))),
  (60, some (.inl (.int, 60, .int 0, []))),
  (2, some (.inr (5, [.ref 687, .int 0]))),
  (8, some (.inl (.long, 8, .long 0, []))),
  (18, some (.inl (.object "EquationProofs$Term", 18, .null, [(17, .ref 720), (16, .ref 718), (15, .ref 716), (14, .ref 714), (13, .ref 712), (12, .ref 710), (11, .ref 708), (10, .ref 706), (9, .ref 704), (8, .ref 702), (7, .ref 700), (6, .ref 698), (5, .ref 696), (4, .ref 694), (3, .ref 692), (2, .ref 690), (1, .ref 688), (0, .ref 686)]))),
  (5, some (.inr (12, [.ref 684, .ref 685, .int 0, .long 0, .int 0]))),
  (60, some (.inl (.int, 60, .int 0, []))),
  (2, some (.inr (5, [.ref 682, .int 0]))),
  (60, some (.inl (.int, 60, .int 0, []))),
  (2, some (.inr (5, [.ref 680, .int 0]))),
  (60, some (.inl (.int, 60, .int 0, []))),
  (2, some (.inr (5, [.ref 678, .int 0]))),
  (60, some (.inl (.int, 60, .int 0, []))),
  (2, some (.inr (5, [.ref 676, .int 0]))),
  (60, some (.inl (.int, 60, .int 0, []))),
  (2, some (.inr (5, [.ref 674, .int 0]))),
  (60, some (.inl (.int, 60, .int 0, []))),
  (2, some (.inr (5, [.ref 672, .int 0]))),
  (60, some (.inl (.int, 60, .int 0, []))),
  (2, some (.inr (5, [.ref 670, .int 0]))),
  (60, some (.inl (.int, 60, .int 0, []))),
  (2, some (.inr (5, [.ref 668, .int 0]))),
  (60, some (.inl (.int, 60, .int 0, []))),
  (2, some (.inr (5, [.ref 666, .int 0]))),
  (60, some (.inl (.int, 60, .int 0, []))),
  (2, some (.inr (5, [.ref 664, .int 0]))),
  (60, some (.inl (.int, 60, .int 0, []))),
  (2, some (.inr (5, [.ref 662, .int 0]))),
  (60, some (.inl (.int, 60, .int 0, []))),
  (2, some (.inr (5, [.ref 660, .int 0]))),
  (60, some (.inl (.int, 60, .int 0, []))),
  (2, some (.inr (5, [.ref 658, .int 0]))),
  (60, some (.inl (.int, 60, .int 0, []))),
  (2, some (.inr (5, [.ref 656, .int 0]))),
  (60, some (.inl (.int, 60, .int 0, []))),
  (2, some (.inr (5, [.ref 654, .int 0]))),
  (60, some (.inl (.int, 60, .int 0, []))),
  (2, some (.inr (5, [.ref 652, .int 0])))]
def sb_16 : List am_C := [(60, some (.inl (.int, 60, .int 0, []))),
  (2, some (.inr (5, [.ref 750, .int 0]))),
  (60, some (.inl (.int, 60, .int 0, []))),
  (2, some (.inr (5, [.ref 748, .int 0]))),
  (60, some (.inl (.int, 60, .int 0, []))),
  (2, some (.inr (5, [.ref 746, .int 0]))),
  (60, some (.inl (.int, 60, .int 0, []))),
  (2, some (.inr (5, [.ref 744, .int 0]))),
  (60, some (.inl (.int, 60, .int 0, []))),
  (2, some (.inr (5, [.ref 742, .int 0]))),
  (60, some (.inl (.int, 60, .int 0, []))),
  (2, some (.inr (5, [.ref 740, .int 0]))),
  (60, some (.inl (.int, 60, .int 0, []))),
  (2, some (.inr (5, [.ref 738, .int 0]))),
  (60, some (.inl (.int, 60, .int 0, []))),
  (2, some (.inr (5, [.ref 736, .int 0]))),
  (60, some (.inl (.int, 60, .int 0, []))),
  (2, some (.inr (5, [.ref 734, .int 0]))),
  (60, some (.inl (.int, 60, .int 0, []))),
  (2, some (.inr (5, [.ref 732, .int 0]))),
  (60, some (.inl (.int, 60, .int 0, []))),
  (2, some (.inr (5, [.ref 730, .int 0]))),
  (60, some (.inl (.int, 60, .int 0, []))),
  (2, some (.inr (5, [.ref 728, .int 0]))),
  (60, some (.inl (.int, 60, .int 0, []))),
  (2, some (.inr (5, [.ref 726, .int 0]))),
  (8, some (.inl (.long, 8, .long 0, []))),
  (18, some (.inl (.object "EquationProofs$Term", 18, .null, [(17, .ref 759), (16, .ref 757), (15, .ref 755), (14, .ref 753), (13, .ref 751), (12, .ref 749), (11, .ref 747), (10, .ref 745), (9, .ref 743), (8, .ref 741), (7, .ref 739), (6, .ref 737), (5, .ref 735), (4, .ref 733), (3, .ref 731), (2, .ref 729), (1, .ref 727), (0, .ref 725)]))),
  (5, some (.inr (12, [.ref 723, .ref 724, .int 0, .long 0, .int 0]))),
  (60, some (.inl (.int, 60, .int 0, []))),
  (2, some (.inr (5, [.ref 721, .int 0]))),
  (60, some (.inl (.int, 60, .int 0, []))),
  (2, some (.inr (5, [.ref 719, .int 0]))),
  (60, some (.inl (.int, 60, .int 0, []))),
  (2, some (.inr (5, [.ref 717, .int 0]))),
  (60, some (.inl (.int, 60, .int 0, []))),
  (2, some (.inr (5, [.ref 715, .int 0]))),
  (60, some (.inl (.int, 60, .int 0, []))),
  (2, some (.inr (5, [.ref 713, .int 0]))),
  (60, some (.inl (.int, 60, .int 0, []))),
  (2, some (.inr (5, [.ref 711, .int 0]))),
  (60, some (.inl (.int, 60, .int 0, []))),
  (2, some (.inr (5, [.ref 709, .int 0]))),
  (60, some (.inl (.int, 60, .int 0, []))),
  (2, some (.inr (5, [.ref 707, .int 0]))),
  (60, some (.inl (.int, 60, .int 0, []))),
  (2, some (.inr (5, [.ref 705, .int 0]))),
  (60, some (.inl (.int, 60, .int 0, []))),
  (2, some (.inr (5, [.ref 703, .int 0]))),
  (60, some (.inl (.int, 60, .int 0, [])))]
def sb_17 : List am_C := [(5, some (.inr (12, [.ref 801, .ref 802, .int 0, .long 0, .int 0]))),
  (60, some (.inl (.int, 60, .int 0, []))),
  (2, some (.inr (5, [.ref 799, .int 0]))),
  (60, some (.inl (.int, 60, .int 0, []))),
  (2, some (.inr (5, [.ref 797, .int 0]))),
  (60, some (.inl (.int, 60, .int 0, []))),
  (2, some (.inr (5, [.ref 795, .int 0]))),
  (60, some (.inl (.int, 60, .int 0, []))),
  (2, some (.inr (5, [.ref 793, .int 0]))),
  (60, some (.inl (.int, 60, .int 0, []))),
  (2, some (.inr (5, [.ref 791, .int 0]))),
  (60, some (.inl (.int, 60, .int 0, []))),
  (2, some (.inr (5, [.ref 789, .int 0]))),
  (60, some (.inl (.int, 60, .int 0, []))),
  (2, some (.inr (5, [.ref 787, .int 0]))),
  (60, some (.inl (.int, 60, .int 0, []))),
  (2, some (.inr (5, [.ref 785, .int 0]))),
  (60, some (.inl (.int, 60, .int 0, []))),
  (2, some (.inr (5, [.ref 783, .int 0]))),
  (60, some (.inl (.int, 60, .int 0, []))),
  (2, some (.inr (5, [.ref 781, .int 0]))),
  (60, some (.inl (.int, 60, .int 0, []))),
  (2, some (.inr (5, [.ref 779, .int 0]))),
  (60, some (.inl (.int, 60, .int 0, []))),
  (2, some (.inr (5, [.ref 777, .int 0]))),
  (60, some (.inl (.int, 60, .int 0, []))),
  (2, some (.inr (5, [.ref 775, .int 0]))),
  (60, some (.inl (.int, 60, .int 0, []))),
  (2, some (.inr (5, [.ref 773, .int 0]))),
  (60, some (.inl (.int, 60, .int 0, []))),
  (2, some (.inr (5, [.ref 771, .int 0]))),
  (60, some (.inl (.int, 60, .int 0, []))),
  (2, some (.inr (5, [.ref 769, .int 0]))),
  (60, some (.inl (.int, 60, .int 0, []))),
  (2, some (.inr (5, [.ref 767, .int 0]))),
  (60, some (.inl (.int, 60, .int 0, []))),
  (2, some (.inr (5, [.ref 765, .int 0]))),
  (8, some (.inl (.long, 8, .long 0, []))),
  (18, some (.inl (.object "EquationProofs$Term", 18, .null, [(17, .ref 798), (16, .ref 796), (15, .ref 794), (14, .ref 792), (13, .ref 790), (12, .ref 788), (11, .ref 786), (10, .ref 784), (9, .ref 782), (8, .ref 780), (7, .ref 778), (6, .ref 776), (5, .ref 774), (4, .ref 772), (3, .ref 770), (2, .ref 768), (1, .ref 766), (0, .ref 764)]))),
  (5, some (.inr (12, [.ref 762, .ref 763, .int 0, .long 0, .int 0]))),
  (60, some (.inl (.int, 60, .int 0, []))),
  (2, some (.inr (5, [.ref 760, .int 0]))),
  (60, some (.inl (.int, 60, .int 0, []))),
  (2, some (.inr (5, [.ref 758, .int 0]))),
  (60, some (.inl (.int, 60, .int 0, []))),
  (2, some (.inr (5, [.ref 756, .int 0]))),
  (60, some (.inl (.int, 60, .int 0, []))),
  (2, some (.inr (5, [.ref 754, .int 0]))),
  (60, some (.inl (.int, 60, .int 0, []))),
  (2, some (.inr (5, [.ref 752, .int 0])))]
def sb_18 : List am_C := [(2, some (.inr (5, [.ref 851, .int 0]))),
  (60, some (.inl (.int, 60, .int 0, []))),
  (2, some (.inr (5, [.ref 849, .int 0]))),
  (60, some (.inl (.int, 60, .int 0, []))),
  (2, some (.inr (5, [.ref 847, .int 0]))),
  (60, some (.inl (.int, 60, .int 0, []))),
  (2, some (.inr (5, [.ref 845, .int 0]))),
  (60, some (.inl (.int, 60, .int 0, []))),
  (2, some (.inr (5, [.ref 843, .int 0]))),
  (8, some (.inl (.long, 8, .long 0, []))),
  (18, some (.inl (.object "EquationProofs$Term", 18, .null, [(17, .ref 876), (16, .ref 874), (15, .ref 872), (14, .ref 870), (13, .ref 868), (12, .ref 866), (11, .ref 864), (10, .ref 862), (9, .ref 860), (8, .ref 858), (7, .ref 856), (6, .ref 854), (5, .ref 852), (4, .ref 850), (3, .ref 848), (2, .ref 846), (1, .ref 844), (0, .ref 842)]))),
  (5, some (.inr (12, [.ref 840, .ref 841, .int 0, .long 0, .int 0]))),
  (60, some (.inl (.int, 60, .int 0, []))),
  (2, some (.inr (5, [.ref 838, .int 0]))),
  (60, some (.inl (.int, 60, .int 0, []))),
  (2, some (.inr (5, [.ref 836, .int 0]))),
  (60, some (.inl (.int, 60, .int 0, []))),
  (2, some (.inr (5, [.ref 834, .int 0]))),
  (60, some (.inl (.int, 60, .int 0, []))),
  (2, some (.inr (5, [.ref 832, .int 0]))),
  (60, some (.inl (.int, 60, .int 0, []))),
  (2, some (.inr (5, [.ref 830, .int 0]))),
  (60, some (.inl (.int, 60, .int 0, []))),
  (2, some (.inr (5, [.ref 828, .int 0]))),
  (60, some (.inl (.int, 60, .int 0, []))),
  (2, some (.inr (5, [.ref 826, .int 0]))),
  (60, some (.inl (.int, 60, .int 0, []))),
  (2, some (.inr (5, [.ref 824, .int 0]))),
  (60, some (.inl (.int, 60, .int 0, []))),
  (2, some (.inr (5, [.ref 822, .int 0]))),
  (60, some (.inl (.int, 60, .int 0, []))),
  (2, some (.inr (5, [.ref 820, .int 0]))),
  (60, some (.inl (.int, 60, .int 0, []))),
  (2, some (.inr (5, [.ref 818, .int 0]))),
  (60, some (.inl (.int, 60, .int 0, []))),
  (2, some (.inr (5, [.ref 816, .int 0]))),
  (60, some (.inl (.int, 60, .int 0, []))),
  (2, some (.inr (5, [.ref 814, .int 0]))),
  (60, some (.inl (.int, 60, .int 0, []))),
  (2, some (.inr (5, [.ref 812, .int 0]))),
  (60, some (.inl (.int, 60, .int 0, []))),
  (2, some (.inr (5, [.ref 810, .int 0]))),
  (60, some (.inl (.int, 60, .int 0, []))),
  (2, some (.inr (5, [.ref 808, .int 0]))),
  (60, some (.inl (.int, 60, .int 0, []))),
  (2, some (.inr (5, [.ref 806, .int 0]))),
  (60, some (.inl (.int, 60, .int 0, []))),
  (2, some (.inr (5, [.ref 804, .int 0]))),
  (8, some (.inl (.long, 8, .long 0, []))),
  (18, some (.inl (.object "EquationProofs$Term", 18, .null, [(17, .ref 837), (16, .ref 835), (15, .ref 833), (14, .ref 831), (13, .ref 829), (12, .ref 827), (11, .ref 825), (10, .ref 823), (9, .ref 821), (8, .ref 819), (7, .ref 817), (6, .ref 815), (5, .ref 813), (4, .ref 811), (3, .ref 809), (2, .ref 807), (1, .ref 805), (0, .ref 803)])))]
def sb_19 : List am_C := [(60, some (.inl (.int, 60, .int 0, []))),
  (2, some (.inr (5, [.ref 877, .int 0]))),
  (60, some (.inl (.int, 60, .int 0, []))),
  (2, some (.inr (5, [.ref 875, .int 0]))),
  (60, some (.inl (.int, 60, .int 0, []))),
  (2, some (.inr (5, [.ref 873, .int 0]))),
  (60, some (.inl (.int, 60, .int 0, []))),
  (2, some (.inr (5, [.ref 871, .int 0]))),
  (60, some (.inl (.int, 60, .int 0, []))),
  (2, some (.inr (5, [.ref 869, .int 0]))),
  (60, some (.inl (.int, 60, .int 0, []))),
  (2, some (.inr (5, [.ref 867, .int 0]))),
  (60, some (.inl (.int, 60, .int 0, []))),
  (2, some (.inr (5, [.ref 865, .int 0]))),
  (60, some (.inl (.int, 60, .int 0, []))),
  (2, some (.inr (5, [.ref 863, .int 0]))),
  (60, some (.inl (.int, 60, .int 0, []))),
  (2, some (.inr (5, [.ref 861, .int 0]))),
  (60, some (.inl (.int, 60, .int 0, []))),
  (2, some (.inr (5, [.ref 859, .int 0]))),
  (60, some (.inl (.int, 60, .int 0, []))),
  (2, some (.inr (5, [.ref 857, .int 0]))),
  (60, some (.inl (.int, 60, .int 0, []))),
  (2, some (.inr (5, [.ref 855, .int 0]))),
  (60, some (.inl (.int, 60, .int 0, []))),
  (2, some (.inr (5, [.ref 853, .int 0]))),
  (60, some (.inl (.int, 60, .int 0, [])))]
def ss_2 : am_S := ((0, none), 877, sb_19 ++ (sb_18 ++ (sb_17 ++ (sb_16 ++ (sb_15 ++ (sb_14 ++ (sb_13 ++ (sb_12 ++ (sb_11 ++ (sb_10 ++ (sb_8 ++ (sb_7 ++ (sb_6 ++ (sb_5 ++ (sb_4 ++ (sb_3 ++ (sb_2 ++ (sb_1))))))))))))))))))
set_option maxRecDepth 1000000 in
theorem kp_1 : am_many at_P at_cl at_ty 2000 11 mt_114 7 0 [(0, .ref 406), (1, .ref 7), (2, .ref 366)] [] ss_1 = some (15, [(0, .ref 406), (1, .ref 7), (2, .ref 366)], [], ss_2, 471, 13844) := am_isM_of (by decide +kernel)
def sb_20 : List am_C := [(18, some (.inl (.object "EquationProofs$Term", 18, .null, [(17, .ref 486), (16, .ref 484), (15, .ref 482), (14, .ref 480), (13, .ref 478), (12, .ref 476), (11, .ref 474), (10, .ref 472), (9, .ref 470), (8, .ref 468), (7, .ref 466), (6, .ref 464), (5, .ref 462), (4, .ref 460), (3, .ref 458), (2, .ref 456), (1, .ref 454), (0, .ref 452)]))),
  (5, some (.inr (12, [.ref 450, .ref 451, .int 0, .long 0, .int 0]))),
  (60, some (.inl (.int, 60, .int 0, []))),
  (2, some (.inr (5, [.ref 448, .int 0]))),
  (60, some (.inl (.int, 60, .int 0, []))),
  (2, some (.inr (5, [.ref 446, .int 0]))),
  (60, some (.inl (.int, 60, .int 0, []))),
  (2, some (.inr (5, [.ref 444, .int 0]))),
  (60, some (.inl (.int, 60, .int 0, []))),
  (2, some (.inr (5, [.ref 442, .int 0]))),
  (60, some (.inl (.int, 60, .int 0, []))),
  (2, some (.inr (5, [.ref 440, .int 0]))),
  (60, some (.inl (.int, 60, .int 0, []))),
  (2, some (.inr (5, [.ref 438, .int 0]))),
  (60, some (.inl (.int, 60, .int 0, []))),
  (2, some (.inr (5, [.ref 436, .int 0]))),
  (60, some (.inl (.int, 60, .int 0, []))),
  (2, some (.inr (5, [.ref 434, .int 0]))),
  (60, some (.inl (.int, 60, .int 0, []))),
  (2, some (.inr (5, [.ref 432, .int 0]))),
  (60, some (.inl (.int, 60, .int 0, []))),
  (2, some (.inr (5, [.ref 430, .int 0]))),
  (60, some (.inl (.int, 60, .int 0, []))),
  (2, some (.inr (5, [.ref 428, .int 0]))),
  (60, some (.inl (.int, 60, .int 0, []))),
  (2, some (.inr (5, [.ref 426, .int 0]))),
  (60, some (.inl (.int, 60, .int 0, []))),
  (2, some (.inr (5, [.ref 424, .int 0]))),
  (60, some (.inl (.int, 60, .int 0, []))),
  (2, some (.inr (5, [.ref 422, .int 0]))),
  (60, some (.inl (.int, 60, .int 0, []))),
  (2, some (.inr (5, [.ref 420, .int 0]))),
  (60, some (.inl (.int, 60, .int 0, []))),
  (2, some (.inr (5, [.ref 418, .int 0]))),
  (60, some (.inl (.int, 60, .int 0, []))),
  (2, some (.inr (5, [.ref 416, .int 0]))),
  (60, some (.inl (.int, 60, .int 0, []))),
  (2, some (.inr (5, [.ref 414, .int 0]))),
  (8, some (.inl (.long, 8, .long 0, []))),
  (18, some (.inl (.object "EquationProofs$Term", 18, .null, [(17, .ref 447), (16, .ref 445), (15, .ref 443), (14, .ref 441), (13, .ref 439), (12, .ref 437), (11, .ref 435), (10, .ref 433), (9, .ref 431), (8, .ref 429), (7, .ref 427), (6, .ref 425), (5, .ref 423), (4, .ref 421), (3, .ref 419), (2, .ref 417), (1, .ref 415), (0, .ref 413)]))),
  (5, some (.inr (12, [.ref 411, .ref 412, .int 0, .long 0, .int 0]))),
  (60, some (.inl (.int, 60, .int 0, []))),
  (12, some (.inl (.object "EquationProofs$Goal", 12, .null, [(11, .ref 839), (10, .ref 800), (9, .ref 761), (8, .ref 722), (7, .ref 683), (6, .ref 644), (5, .ref 605), (4, .ref 566), (3, .ref 527), (2, .ref 488), (1, .ref 449), (0, .ref 410)]))),
  (8, some (.inr (11, [.ref 408, .ref 409, .int 0, .int 0, .int 0, .int 0, .int 0, .long 0]))),
  (19, some (.inr (10, [.null, .null, .ref 407, .ref 878, .null, .null, .null, .null, .long 0, .long 0, .null, .null, .null, .int 0, .int 0, .long 0, .int 0, .int 0, .int 0]))),
  (6, some (.inl (.int, 6, .int 0, []))),
  (2, some (.inr (5, [.ref 405, .int 0]))),
  (6, some (.inl (.int, 6, .int 0, []))),
  (2, some (.inr (5, [.ref 403, .int 0]))),
  (6, some (.inl (.int, 6, .int 0, [])))]
def sb_21 : List am_C := [(2, some (.inr (5, [.ref 901, .int 0]))),
  (60, some (.inl (.int, 60, .int 0, []))),
  (2, some (.inr (5, [.ref 899, .int 0]))),
  (60, some (.inl (.int, 60, .int 0, []))),
  (2, some (.inr (5, [.ref 897, .int 0]))),
  (60, some (.inl (.int, 60, .int 0, []))),
  (2, some (.inr (5, [.ref 895, .int 0]))),
  (60, some (.inl (.int, 60, .int 0, []))),
  (2, some (.inr (5, [.ref 893, .int 0]))),
  (60, some (.inl (.int, 60, .int 0, []))),
  (2, some (.inr (5, [.ref 891, .int 0]))),
  (60, some (.inl (.int, 60, .int 0, []))),
  (2, some (.inr (5, [.ref 889, .int 0]))),
  (60, some (.inl (.int, 60, .int 0, []))),
  (2, some (.inr (5, [.ref 887, .int 0]))),
  (60, some (.inl (.int, 60, .int 0, []))),
  (2, some (.inr (5, [.ref 885, .int 0]))),
  (8, some (.inl (.long, 8, .long 0, []))),
  (18, some (.inl (.object "EquationProofs$Term", 18, .null, [(17, .ref 918), (16, .ref 916), (15, .ref 914), (14, .ref 912), (13, .ref 910), (12, .ref 908), (11, .ref 906), (10, .ref 904), (9, .ref 902), (8, .ref 900), (7, .ref 898), (6, .ref 896), (5, .ref 894), (4, .ref 892), (3, .ref 890), (2, .ref 888), (1, .ref 886), (0, .ref 884)]))),
  (5, some (.inr (12, [.ref 882, .ref 883, .int 0, .long 0, .int 0]))),
  (60, some (.inl (.int, 60, .int 0, []))),
  (12, some (.inl (.object "EquationProofs$Goal", 12, .null, [(11, .ref 1310), (10, .ref 1271), (9, .ref 1232), (8, .ref 1193), (7, .ref 1154), (6, .ref 1115), (5, .ref 1076), (4, .ref 1037), (3, .ref 998), (2, .ref 959), (1, .ref 920), (0, .ref 881)]))),
  (8, some (.inr (11, [.ref 879, .ref 880, .int 0, .int 0, .int 0, .int 0, .int 0, .long 0]))),
  (60, some (.inl (.int, 60, .int 0, []))),
  (2, some (.inr (5, [.ref 877, .int 0]))),
  (60, some (.inl (.int, 60, .int 0, []))),
  (2, some (.inr (5, [.ref 875, .int 0]))),
  (60, some (.inl (.int, 60, .int 0, []))),
  (2, some (.inr (5, [.ref 873, .int 0]))),
  (60, some (.inl (.int, 60, .int 0, []))),
  (2, some (.inr (5, [.ref 871, .int 0]))),
  (60, some (.inl (.int, 60, .int 0, []))),
  (2, some (.inr (5, [.ref 869, .int 0]))),
  (60, some (.inl (.int, 60, .int 0, []))),
  (2, some (.inr (5, [.ref 867, .int 0]))),
  (60, some (.inl (.int, 60, .int 0, []))),
  (2, some (.inr (5, [.ref 865, .int 0]))),
  (60, some (.inl (.int, 60, .int 0, []))),
  (2, some (.inr (5, [.ref 863, .int 0]))),
  (60, some (.inl (.int, 60, .int 0, []))),
  (2, some (.inr (5, [.ref 861, .int 0]))),
  (60, some (.inl (.int, 60, .int 0, []))),
  (2, some (.inr (5, [.ref 859, .int 0]))),
  (60, some (.inl (.int, 60, .int 0, []))),
  (2, some (.inr (5, [.ref 857, .int 0]))),
  (60, some (.inl (.int, 60, .int 0, []))),
  (2, some (.inr (5, [.ref 855, .int 0]))),
  (60, some (.inl (.int, 60, .int 0, []))),
  (2, some (.inr (5, [.ref 853, .int 0]))),
  (60, some (.inl (.int, 60, .int 0, [])))]
def sb_22 : List am_C := [(60, some (.inl (.int, 60, .int 0, []))),
  (2, some (.inr (5, [.ref 950, .int 0]))),
  (60, some (.inl (.int, 60, .int 0, []))),
  (2, some (.inr (5, [.ref 948, .int 0]))),
  (60, some (.inl (.int, 60, .int 0, []))),
  (2, some (.inr (5, [.ref 946, .int 0]))),
  (60, some (.inl (.int, 60, .int 0, []))),
  (2, some (.inr (5, [.ref 944, .int 0]))),
  (60, some (.inl (.int, 60, .int 0, []))),
  (2, some (.inr (5, [.ref 942, .int 0]))),
  (60, some (.inl (.int, 60, .int 0, []))),
  (2, some (.inr (5, [.ref 940, .int 0]))),
  (60, some (.inl (.int, 60, .int 0, []))),
  (2, some (.inr (5, [.ref 938, .int 0]))),
  (60, some (.inl (.int, 60, .int 0, []))),
  (2, some (.inr (5, [.ref 936, .int 0]))),
  (60, some (.inl (.int, 60, .int 0, []))),
  (2, some (.inr (5, [.ref 934, .int 0]))),
  (60, some (.inl (.int, 60, .int 0, []))),
  (2, some (.inr (5, [.ref 932, .int 0]))),
  (60, some (.inl (.int, 60, .int 0, []))),
  (2, some (.inr (5, [.ref 930, .int 0]))),
  (60, some (.inl (.int, 60, .int 0, []))),
  (2, some (.inr (5, [.ref 928, .int 0]))),
  (60, some (.inl (.int, 60, .int 0, []))),
  (2, some (.inr (5, [.ref 926, .int 0]))),
  (60, some (.inl (.int, 60, .int 0, []))),
  (2, some (.inr (5, [.ref 924, .int 0]))),
  (8, some (.inl (.long, 8, .long 0, []))),
  (18, some (.inl (.object "EquationProofs$Term", 18, .null, [(17, .ref 957), (16, .ref 955), (15, .ref 953), (14, .ref 951), (13, .ref 949), (12, .ref 947), (11, .ref 945), (10, .ref 943), (9, .ref 941), (8, .ref 939), (7, .ref 937), (6, .ref 935), (5, .ref 933), (4, .ref 931), (3, .ref 929), (2, .ref 927), (1, .ref 925), (0, .ref 923)]))),
  (5, some (.inr (12, [.ref 921, .ref 922, .int 0, .long 0, .int 0]))),
  (60, some (.inl (.int, 60, .int 0, []))),
  (2, some (.inr (5, [.ref 919, .int 0]))),
  (60, some (.inl (.int, 60, .int 0, []))),
  (2, some (.inr (5, [.ref 917, .int 0]))),
  (60, some (.inl (.int, 60, .int 0, []))),
  (2, some (.inr (5, [.ref 915, .int 0]))),
  (60, some (.inl (.int, 60, .int 0, []))),
  (2, some (.inr (5, [.ref 913, .int 0]))),
  (60, some (.inl (.int, 60, .int 0, []))),
  (2, some (.inr (5, [.ref 911, .int 0]))),
  (60, some (.inl (.int, 60, .int 0, []))),
  (2, some (.inr (5, [.ref 909, .int 0]))),
  (60, some (.inl (.int, 60, .int 0, []))),
  (2, some (.inr (5, [.ref 907, .int 0]))),
  (60, some (.inl (.int, 60, .int 0, []))),
  (2, some (.inr (5, [.ref 905, .int 0]))),
  (60, some (.inl (.int, 60, .int 0, []))),
  (2, some (.inr (5, [.ref 903, .int 0]))),
  (60, some (.inl (.int, 60, .int 0, [])))]
def sb_23 : List am_C := [(8, some (.inl (.long, 8, .long 0, []))),
  (18, some (.inl (.object "EquationProofs$Term", 18, .null, [(17, .ref 1035), (16, .ref 1033), (15, .ref 1031), (14, .ref 1029), (13, .ref 1027), (12, .ref 1025), (11, .ref 1023), (10, .ref 1021), (9, .ref 1019), (8, .ref 1017), (7, .ref 1015), (6, .ref 1013), (5, .ref 1011), (4, .ref 1009), (3, .ref 1007), (2, .ref 1005), (1, .ref 1003), (0, .ref 1001)]))),
  (5, some (.inr (12, [.ref 999, .ref 1000, .int 0, .long 0, .int 0]))),
  (60, some (.inl (.int, 60, .int 0, []))),
  (2, some (.inr (5, [.ref 997, .int 0]))),
  (60, some (.inl (.int, 60, .int 0, []))),
  (2, some (.inr (5, [.ref 995, .int 0]))),
  (60, some (.inl (.int, 60, .int 0, []))),
  (2, some (.inr (5, [.ref 993, .int 0]))),
  (60, some (.inl (.int, 60, .int 0, []))),
  (2, some (.inr (5, [.ref 991, .int 0]))),
  (60, some (.inl (.int, 60, .int 0, []))),
  (2, some (.inr (5, [.ref 989, .int 0]))),
  (60, some (.inl (.int, 60, .int 0, []))),
  (2, some (.inr (5, [.ref 987, .int 0]))),
  (60, some (.inl (.int, 60, .int 0, []))),
  (2, some (.inr (5, [.ref 985, .int 0]))),
  (60, some (.inl (.int, 60, .int 0, []))),
  (2, some (.inr (5, [.ref 983, .int 0]))),
  (60, some (.inl (.int, 60, .int 0, []))),
  (2, some (.inr (5, [.ref 981, .int 0]))),
  (60, some (.inl (.int, 60, .int 0, []))),
  (2, some (.inr (5, [.ref 979, .int 0]))),
  (60, some (.inl (.int, 60, .int 0, []))),
  (2, some (.inr (5, [.ref 977, .int 0]))),
  (60, some (.inl (.int, 60, .int 0, []))),
  (2, some (.inr (5, [.ref 975, .int 0]))),
  (60, some (.inl (.int, 60, .int 0, []))),
  (2, some (.inr (5, [.ref 973, .int 0]))),
  (60, some (.inl (.int, 60, .int 0, []))),
  (2, some (.inr (5, [.ref 971, .int 0]))),
  (60, some (.inl (.int, 60, .int 0, []))),
  (2, some (.inr (5, [.ref 969, .int 0]))),
  (60, some (.inl (.int, 60, .int 0, []))),
  (2, some (.inr (5, [.ref 967, .int 0]))),
  (60, some (.inl (.int, 60, .int 0, []))),
  (2, some (.inr (5, [.ref 965, .int 0]))),
  (60, some (.inl (.int, 60, .int 0, []))),
  (2, some (.inr (5, [.ref 963, .int 0]))),
  (8, some (.inl (.long, 8, .long 0, []))),
  (18, some (.inl (.object "EquationProofs$Term", 18, .null, [(17, .ref 996), (16, .ref 994), (15, .ref 992), (14, .ref 990), (13, .ref 988), (12, .ref 986), (11, .ref 984), (10, .ref 982), (9, .ref 980), (8, .ref 978), (7, .ref 976), (6, .ref 974), (5, .ref 972), (4, .ref 970), (3, .ref 968), (2, .ref 966), (1, .ref 964), (0, .ref 962)]))),
  (5, some (.inr (12, [.ref 960, .ref 961, .int 0, .long 0, .int 0]))),
  (60, some (.inl (.int, 60, .int 0, []))),
  (2, some (.inr (5, [.ref 958, .int 0]))),
  (60, some (.inl (.int, 60, .int 0, []))),
  (2, some (.inr (5, [.ref 956, .int 0]))),
  (60, some (.inl (.int, 60, .int 0, []))),
  (2, some (.inr (5, [.ref 954, .int 0]))),
  (60, some (.inl (.int, 60, .int 0, []))),
  (2, some (.inr (5, [.ref 952, .int 0])))]
def sb_24 : List am_C := [(2, some (.inr (5, [.ref 1051, .int 0]))),
  (60, some (.inl (.int, 60, .int 0, []))),
  (2, some (.inr (5, [.ref 1049, .int 0]))),
  (60, some (.inl (.int, 60, .int 0, []))),
  (2, some (.inr (5, [.ref 1047, .int 0]))),
  (60, some (.inl (.int, 60, .int 0, []))),
  (2, some (.inr (5, [.ref 1045, .int 0]))),
  (60, some (.inl (.int, 60, .int 0, []))),
  (2, some (.inr (5, [.ref 1043, .int 0]))),
  (60, some (.inl (.int, 60, .int 0, []))),
  (2, some (.inr (5, [.ref 1041, .int 0]))),
  (8, some (.inl (.long, 8, .long 0, []))),
  (18, some (.inl (.object "EquationProofs$Term", 18, .null, [(17, .ref 1074), (16, .ref 1072), (15, .ref 1070), (14, .ref 1068), (13, .ref 1066), (12, .ref 1064), (11, .ref 1062), (10, .ref 1060), (9, .ref 1058), (8, .ref 1056), (7, .ref 1054), (6, .ref 1052), (5, .ref 1050), (4, .ref 1048), (3, .ref 1046), (2, .ref 1044), (1, .ref 1042), (0, .ref 1040)]))),
  (5, some (.inr (12, [.ref 1038, .ref 1039, .int 0, .long 0, .int 0]))),
  (60, some (.inl (.int, 60, .int 0, []))),
  (2, some (.inr (5, [.ref 1036, .int 0]))),
  (60, some (.inl (.int, 60, .int 0, []))),
  (2, some (.inr (5, [.ref 1034, .int 0]))),
  (60, some (.inl (.int, 60, .int 0, []))),
  (2, some (.inr (5, [.ref 1032, .int 0]))),
  (60, some (.inl (.int, 60, .int 0, []))),
  (2, some (.inr (5, [.ref 1030, .int 0]))),
  (60, some (.inl (.int, 60, .int 0, []))),
  (2, some (.inr (5, [.ref 1028, .int 0]))),
  (60, some (.inl (.int, 60, .int 0, []))),
  (2, some (.inr (5, [.ref 1026, .int 0]))),
  (60, some (.inl (.int, 60, .int 0, []))),
  (2, some (.inr (5, [.ref 1024, .int 0]))),
  (60, some (.inl (.int, 60, .int 0, []))),
  (2, some (.inr (5, [.ref 1022, .int 0]))),
  (60, some (.inl (.int, 60, .int 0, []))),
  (2, some (.inr (5, [.ref 1020, .int 0]))),
  (60, some (.inl (.int, 60, .int 0, []))),
  (2, some (.inr (5, [.ref 1018, .int 0]))),
  (60, some (.inl (.int, 60, .int 0, []))),
  (2, some (.inr (5, [.ref 1016, .int 0]))),
  (60, some (.inl (.int, 60, .int 0, []))),
  (2, some (.inr (5, [.ref 1014, .int 0]))),
  (60, some (.inl (.int, 60, .int 0, []))),
  (2, some (.inr (5, [.ref 1012, .int 0]))),
  (60, some (.inl (.int, 60, .int 0, []))),
  (2, some (.inr (5, [.ref 1010, .int 0]))),
  (60, some (.inl (.int, 60, .int 0, []))),
  (2, some (.inr (5, [.ref 1008, .int 0]))),
  (60, some (.inl (.int, 60, .int 0, []))),
  (2, some (.inr (5, [.ref 1006, .int 0]))),
  (60, some (.inl (.int, 60, .int 0, []))),
  (2, some (.inr (5, [.ref 1004, .int 0]))),
  (60, some (.inl (.int, 60, .int 0, []))),
  (2, some (.inr (5, [.ref 1002, .int 0])))]
def sb_25 : List am_C := [(60, some (.inl (.int, 60, .int 0, []))),
  (2, some (.inr (5, [.ref 1100, .int 0]))),
  (60, some (.inl (.int, 60, .int 0, []))),
  (2, some (.inr (5, [.ref 1098, .int 0]))),
  (60, some (.inl (.int, 60, .int 0, []))),
  (2, some (.inr (5, [.ref 1096, .int 0]))),
  (60, some (.inl (.int, 60, .int 0, []))),
  (2, some (.inr (5, [.ref 1094, .int 0]))),
  (60, some (.inl (.int, 60, .int 0, []))),
  (2, some (.inr (5, [.ref 1092, .int 0]))),
  (60, some (.inl (.int, 60, .int 0, []))),
  (2, some (.inr (5, [.ref 1090, .int 0]))),
  (60, some (.inl (.int, 60, .int 0, []))),
  (2, some (.inr (5, [.ref 1088, .int 0]))),
  (60, some (.inl (.int, 60, .int 0, []))),
  (2, some (.inr (5, [.ref 1086, .int 0]))),
  (60, some (.inl (.int, 60, .int 0, []))),
  (2, some (.inr (5, [.ref 1084, .int 0]))),
  (60, some (.inl (.int, 60, .int 0, []))),
  (2, some (.inr (5, [.ref 1082, .int 0]))),
  (60, some (.inl (.int, 60, .int 0, []))),
  (2, some (.inr (5, [.ref 1080, .int 0]))),
  (8, some (.inl (.long, 8, .long 0, []))),
  (18, some (.inl (.object "EquationProofs$Term", 18, .null, [(17, .ref 1113), (16, .ref 1111), (15, .ref 1109), (14, .ref 1107), (13, .ref 1105), (12, .ref 1103), (11, .ref 1101), (10, .ref 1099), (9, .ref 1097), (8, .ref 1095), (7, .ref 1093), (6, .ref 1091), (5, .ref 1089), (4, .ref 1087), (3, .ref 1085), (2, .ref 1083), (1, .ref 1081), (0, .ref 1079)]))),
  (5, some (.inr (12, [.ref 1077, .ref 1078, .int 0, .long 0, .int 0]))),
  (60, some (.inl (.int, 60, .int 0, []))),
  (2, some (.inr (5, [.ref 1075, .int 0]))),
  (60, some (.inl (.int, 60, .int 0, []))),
  (2, some (.inr (5, [.ref 1073, .int 0]))),
  (60, some (.inl (.int, 60, .int 0, []))),
  (2, some (.inr (5, [.ref 1071, .int 0]))),
  (60, some (.inl (.int, 60, .int 0, []))),
  (2, some (.inr (5, [.ref 1069, .int 0]))),
  (60, some (.inl (.int, 60, .int 0, []))),
  (2, some (.inr (5, [.ref 1067, .int 0]))),
  (60, some (.inl (.int, 60, .int 0, []))),
  (2, some (.inr (5, [.ref 1065, .int 0]))),
  (60, some (.inl (.int, 60, .int 0, []))),
  (2, some (.inr (5, [.ref 1063, .int 0]))),
  (60, some (.inl (.int, 60, .int 0, []))),
  (2, some (.inr (5, [.ref 1061, .int 0]))),
  (60, some (.inl (.int, 60, .int 0, []))),
  (2, some (.inr (5, [.ref 1059, .int 0]))),
  (60, some (.inl (.int, 60, .int 0, []))),
  (2, some (.inr (5, [.ref 1057, .int 0]))),
  (60, some (.inl (.int, 60, .int 0, []))),
  (2, some (.inr (5, [.ref 1055, .int 0]))),
  (60, some (.inl (.int, 60, .int 0, []))),
  (2, some (.inr (5, [.ref 1053, .int 0]))),
  (60, some (.inl (.int, 60, .int 0, [])))]
def sb_26 : List am_C := [(2, some (.inr (5, [.ref 1151, .int 0]))),
  (60, some (.inl (.int, 60, .int 0, []))),
  (2, some (.inr (5, [.ref 1149, .int 0]))),
  (60, some (.inl (.int, 60, .int 0, []))),
  (2, some (.inr (5, [.ref 1147, .int 0]))),
  (60, some (.inl (.int, 60, .int 0, []))),
  (2, some (.inr (5, [.ref 1145, .int 0]))),
  (60, some (.inl (.int, 60, .int 0, []))),
  (2, some (.inr (5, [.ref 1143, .int 0]))),
  (60, some (.inl (.int, 60, .int 0, []))),
  (2, some (.inr (5, [.ref 1141, .int 0]))),
  (60, some (.inl (.int, 60, .int 0, []))),
  (2, some (.inr (5, [.ref 1139, .int 0]))),
  (60, some (.inl (.int, 60, .int 0, []))),
  (2, some (.inr (5, [.ref 1137, .int 0]))),
  (60, some (.inl (.int, 60, .int 0, []))),
  (2, some (.inr (5, [.ref 1135, .int 0]))),
  (60, some (.inl (.int, 60, .int 0, []))),
  (2, some (.inr (5, [.ref 1133, .int 0]))),
  (60, some (.inl (.int, 60, .int 0, []))),
  (2, some (.inr (5, [.ref 1131, .int 0]))),
  (60, some (.inl (.int, 60, .int 0, []))),
  (2, some (.inr (5, [.ref 1129, .int 0]))),
  (60, some (.inl (.int, 60, .int 0, []))),
  (2, some (.inr (5, [.ref 1127, .int 0]))),
  (60, some (.inl (.int, 60, .int 0, []))),
  (2, some (.inr (5, [.ref 1125, .int 0]))),
  (60, some (.inl (.int, 60, .int 0, []))),
  (2, some (.inr (5, [.ref 1123, .int 0]))),
  (60, some (.inl (.int, 60, .int 0, []))),
  (2, some (.inr (5, [.ref 1121, .int 0]))),
  (60, some (.inl (.int, 60, .int 0, []))),
  (2, some (.inr (5, [.ref 1119, .int 0]))),
  (8, some (.inl (.long, 8, .long 0, []))),
  (18, some (.inl (.object "EquationProofs$Term", 18, .null, [(17, .ref 1152), (16, .ref 1150), (15, .ref 1148), (14, .ref 1146), (13, .ref 1144), (12, .ref 1142), (11, .ref 1140), (10, .ref 1138), (9, .ref 1136), (8, .ref 1134), (7, .ref 1132), (6, .ref 1130), (5, .ref 1128), (4, .ref 1126), (3, .ref 1124), (2, .ref 1122), (1, .ref 1120), (0, .ref 1118)]))),
  (5, some (.inr (12, [.ref 1116, .ref 1117, .int 0, .long 0, .int 0]))),
  (60, some (.inl (.int, 60, .int 0, []))),
  (2, some (.inr (5, [.ref 1114, .int 0]))),
  (60, some (.inl (.int, 60, .int 0, []))),
  (2, some (.inr (5, [.ref 1112, .int 0]))),
  (60, some (.inl (.int, 60, .int 0, []))),
  (2, some (.inr (5, [.ref 1110, .int 0]))),
  (60, some (.inl (.int, 60, .int 0, []))),
  (2, some (.inr (5, [.ref 1108, .int 0]))),
  (60, some (.inl (.int, 60, .int 0, []))),
  (2, some (.inr (5, [.ref 1106, .int 0]))),
  (60, some (.inl (.int, 60, .int 0, []))),
  (2, some (.inr (5, [.ref 1104, .int 0]))),
  (60, some (.inl (.int, 60, .int 0, []))),
  (2, some (.inr (5, [.ref 1102, .int 0])))]
def sb_27 : List am_C := [(2, some (.inr (5, [.ref 1201, .int 0]))),
  (60, some (.inl (.int, 60, .int 0, []))),
  (2, some (.inr (5, [.ref 1199, .int 0]))),
  (60, some (.inl (.int, 60, .int 0, []))),
  (2, some (.inr (5, [.ref 1197, .int 0]))),
  (8, some (.inl (.long, 8, .long 0, []))),
  (18, some (.inl (.object "EquationProofs$Term", 18, .null, [(17, .ref 1230), (16, .ref 1228), (15, .ref 1226), (14, .ref 1224), (13, .ref 1222), (12, .ref 1220), (11, .ref 1218), (10, .ref 1216), (9, .ref 1214), (8, .ref 1212), (7, .ref 1210), (6, .ref 1208), (5, .ref 1206), (4, .ref 1204), (3, .ref 1202), (2, .ref 1200), (1, .ref 1198), (0, .ref 1196)]))),
  (5, some (.inr (12, [.ref 1194, .ref 1195, .int 0, .long 0, .int 0]))),
  (60, some (.inl (.int, 60, .int 0, []))),
  (2, some (.inr (5, [.ref 1192, .int 0]))),
  (60, some (.inl (.int, 60, .int 0, []))),
  (2, some (.inr (5, [.ref 1190, .int 0]))),
  (60, some (.inl (.int, 60, .int 0, []))),
  (2, some (.inr (5, [.ref 1188, .int 0]))),
  (60, some (.inl (.int, 60, .int 0, []))),
  (2, some (.inr (5, [.ref 1186, .int 0]))),
  (60, some (.inl (.int, 60, .int 0, []))),
  (2, some (.inr (5, [.ref 1184, .int 0]))),
  (60, some (.inl (.int, 60, .int 0, []))),
  (2, some (.inr (5, [.ref 1182, .int 0]))),
  (60, some (.inl (.int, 60, .int 0, []))),
  (2, some (.inr (5, [.ref 1180, .int 0]))),
  (60, some (.inl (.int, 60, .int 0, []))),
  (2, some (.inr (5, [.ref 1178, .int 0]))),
  (60, some (.inl (.int, 60, .int 0, []))),
  (2, some (.inr (5, [.ref 1176, .int 0]))),
  (60, some (.inl (.int, 60, .int 0, []))),
  (2, some (.inr (5, [.ref 1174, .int 0]))),
  (60, some (.inl (.int, 60, .int 0, []))),
  (2, some (.inr (5, [.ref 1172, .int 0]))),
  (60, some (.inl (.int, 60, .int 0, []))),
  (2, some (.inr (5, [.ref 1170, .int 0]))),
  (60, some (.inl (.int, 60, .int 0, []))),
  (2, some (.inr (5, [.ref 1168, .int 0]))),
  (60, some (.inl (.int, 60, .int 0, []))),
  (2, some (.inr (5, [.ref 1166, .int 0]))),
  (60, some (.inl (.int, 60, .int 0, []))),
  (2, some (.inr (5, [.ref 1164, .int 0]))),
  (60, some (.inl (.int, 60, .int 0, []))),
  (2, some (.inr (5, [.ref 1162, .int 0]))),
  (60, some (.inl (.int, 60, .int 0, []))),
  (2, some (.inr (5, [.ref 1160, .int 0]))),
  (60, some (.inl (.int, 60, .int 0, []))),
  (2, some (.inr (5, [.ref 1158, .int 0]))),
  (8, some (.inl (.long, 8, .long 0, []))),
  (18, some (.inl (.object "EquationProofs$Term", 18, .null, [(17, .ref 1191), (16, .ref 1189), (15, .ref 1187), (14, .ref 1185), (13, .ref 1183), (12, .ref 1181), (11, .ref 1179), (10, .ref 1177), (9, .ref 1175), (8, .ref 1173), (7, .ref 1171), (6, .ref 1169), (5, .ref 1167), (4, .ref 1165), (3, .ref 1163), (2, .ref 1161), (1, .ref 1159), (0, .ref 1157)]))),
  (5, some (.inr (12, [.ref 1155, .ref 1156, .int 0, .long 0, .int 0]))),
  (60, some (.inl (.int, 60, .int 0, []))),
  (2, some (.inr (5, [.ref 1153, .int 0]))),
  (60, some (.inl (.int, 60, .int 0, [])))]
def sb_28 : List am_C := [(60, some (.inl (.int, 60, .int 0, []))),
  (2, some (.inr (5, [.ref 1250, .int 0]))),
  (60, some (.inl (.int, 60, .int 0, []))),
  (2, some (.inr (5, [.ref 1248, .int 0]))),
  (60, some (.inl (.int, 60, .int 0, []))),
  (2, some (.inr (5, [.ref 1246, .int 0]))),
  (60, some (.inl (.int, 60, .int 0, []))),
  (2, some (.inr (5, [.ref 1244, .int 0]))),
  (60, some (.inl (.int, 60, .int 0, []))),
  (2, some (.inr (5, [.ref 1242, .int 0]))),
  (60, some (.inl (.int, 60, .int 0, []))),
  (2, some (.inr (5, [.ref 1240, .int 0]))),
  (60, some (.inl (.int, 60, .int 0, []))),
  (2, some (.inr (5, [.ref 1238, .int 0]))),
  (60, some (.inl (.int, 60, .int 0, []))),
  (2, some (.inr (5, [.ref 1236, .int 0]))),
  (8, some (.inl (.long, 8, .long 0, []))),
  (18, some (.inl (.object "EquationProofs$Term", 18, .null, [(17, .ref 1269), (16, .ref 1267), (15, .ref 1265), (14, .ref 1263), (13, .ref 1261), (12, .ref 1259), (11, .ref 1257), (10, .ref 1255), (9, .ref 1253), (8, .ref 1251), (7, .ref 1249), (6, .ref 1247), (5, .ref 1245), (4, .ref 1243), (3, .ref 1241), (2, .ref 1239), (1, .ref 1237), (0, .ref 1235)]))),
  (5, some (.inr (12, [.ref 1233, .ref 1234, .int 0, .long 0, .int 0]))),
  (60, some (.inl (.int, 60, .int 0, []))),
  (2, some (.inr (5, [.ref 1231, .int 0]))),
  (60, some (.inl (.int, 60, .int 0, []))),
  (2, some (.inr (5, [.ref 1229, .int 0]))),
  (60, some (.inl (.int, 60, .int 0, []))),
  (2, some (.inr (5, [.ref 1227, .int 0]))),
  (60, some (.inl (.int, 60, .int 0, []))),
  (2, some (.inr (5, [.ref 1225, .int 0]))),
  (60, some (.inl (.int, 60, .int 0, []))),
  (2, some (.inr (5, [.ref 1223, .int 0]))),
  (60, some (.inl (.int, 60, .int 0, []))),
  (2, some (.inr (5, [.ref 1221, .int 0]))),
  (60, some (.inl (.int, 60, .int 0, []))),
  (2, some (.inr (5, [.ref 1219, .int 0]))),
  (60, some (.inl (.int, 60, .int 0, []))),
  (2, some (.inr (5, [.ref 1217, .int 0]))),
  (60, some (.inl (.int, 60, .int 0, []))),
  (2, some (.inr (5, [.ref 1215, .int 0]))),
  (60, some (.inl (.int, 60, .int 0, []))),
  (2, some (.inr (5, [.ref 1213, .int 0]))),
  (60, some (.inl (.int, 60, .int 0, []))),
  (2, some (.inr (5, [.ref 1211, .int 0]))),
  (60, some (.inl (.int, 60, .int 0, []))),
  (2, some (.inr (5, [.ref 1209, .int 0]))),
  (60, some (.inl (.int, 60, .int 0, []))),
  (2, some (.inr (5, [.ref 1207, .int 0]))),
  (60, some (.inl (.int, 60, .int 0, []))),
  (2, some (.inr (5, [.ref 1205, .int 0]))),
  (60, some (.inl (.int, 60, .int 0, []))),
  (2, some (.inr (5, [.ref 1203, .int 0]))),
  (60, some (.inl (.int, 60, .int 0, [])))]
def sb_29 : List am_C := [(2, some (.inr (5, [.ref 1301, .int 0]))),
  (60, some (.inl (.int, 60, .int 0, []))),
  (2, some (.inr (5, [.ref 1299, .int 0]))),
  (60, some (.inl (.int, 60, .int 0, []))),
  (2, some (.inr (5, [.ref 1297, .int 0]))),
  (60, some (.inl (.int, 60, .int 0, []))),
  (2, some (.inr (5, [.ref 1295, .int 0]))),
  (60, some (.inl (.int, 60, .int 0, []))),
  (2, some (.inr (5, [.ref 1293, .int 0]))),
  (60, some (.inl (.int, 60, .int 0, []))),
  (2, some (.inr (5, [.ref 1291, .int 0]))),
  (60, some (.inl (.int, 60, .int 0, []))),
  (2, some (.inr (5, [.ref 1289, .int 0]))),
  (60, some (.inl (.int, 60, .int 0, []))),
  (2, some (.inr (5, [.ref 1287, .int 0]))),
  (60, some (.inl (.int, 60, .int 0, []))),
  (2, some (.inr (5, [.ref 1285, .int 0]))),
  (60, some (.inl (.int, 60, .int 0, []))),
  (2, some (.inr (5, [.ref 1283, .int 0]))),
  (60, some (.inl (.int, 60, .int 0, []))),
  (2, some (.inr (5, [.ref 1281, .int 0]))),
  (60, some (.inl (.int, 60, .int 0, []))),
  (2, some (.inr (5, [.ref 1279, .int 0]))),
  (60, some (.inl (.int, 60, .int 0, []))),
  (2, some (.inr (5, [.ref 1277, .int 0]))),
  (60, some (.inl (.int, 60, .int 0, []))),
  (2, some (.inr (5, [.ref 1275, .int 0]))),
  (8, some (.inl (.long, 8, .long 0, []))),
  (18, some (.inl (.object "EquationProofs$Term", 18, .null, [(17, .ref 1308), (16, .ref 1306), (15, .ref 1304), (14, .ref 1302), (13, .ref 1300), (12, .ref 1298), (11, .ref 1296), (10, .ref 1294), (9, .ref 1292), (8, .ref 1290), (7, .ref 1288), (6, .ref 1286), (5, .ref 1284), (4, .ref 1282), (3, .ref 1280), (2, .ref 1278), (1, .ref 1276), (0, .ref 1274)]))),
  (5, some (.inr (12, [.ref 1272, .ref 1273, .int 0, .long 0, .int 0]))),
  (60, some (.inl (.int, 60, .int 0, []))),
  (2, some (.inr (5, [.ref 1270, .int 0]))),
  (60, some (.inl (.int, 60, .int 0, []))),
  (2, some (.inr (5, [.ref 1268, .int 0]))),
  (60, some (.inl (.int, 60, .int 0, []))),
  (2, some (.inr (5, [.ref 1266, .int 0]))),
  (60, some (.inl (.int, 60, .int 0, []))),
  (2, some (.inr (5, [.ref 1264, .int 0]))),
  (60, some (.inl (.int, 60, .int 0, []))),
  (2, some (.inr (5, [.ref 1262, .int 0]))),
  (60, some (.inl (.int, 60, .int 0, []))),
  (2, some (.inr (5, [.ref 1260, .int 0]))),
  (60, some (.inl (.int, 60, .int 0, []))),
  (2, some (.inr (5, [.ref 1258, .int 0]))),
  (60, some (.inl (.int, 60, .int 0, []))),
  (2, some (.inr (5, [.ref 1256, .int 0]))),
  (60, some (.inl (.int, 60, .int 0, []))),
  (2, some (.inr (5, [.ref 1254, .int 0]))),
  (60, some (.inl (.int, 60, .int 0, []))),
  (2, some (.inr (5, [.ref 1252, .int 0])))]
def sb_30 : List am_C := [(60, some (.inl (.int, 60, .int 0, []))),
  (2, some (.inr (5, [.ref 1348, .int 0]))),
  (60, some (.inl (.int, 60, .int 0, []))),
  (2, some (.inr (5, [.ref 1346, .int 0]))),
  (60, some (.inl (.int, 60, .int 0, []))),
  (2, some (.inr (5, [.ref 1344, .int 0]))),
  (60, some (.inl (.int, 60, .int 0, []))),
  (2, some (.inr (5, [.ref 1342, .int 0]))),
  (60, some (.inl (.int, 60, .int 0, []))),
  (2, some (.inr (5, [.ref 1340, .int 0]))),
  (60, some (.inl (.int, 60, .int 0, []))),
  (2, some (.inr (5, [.ref 1338, .int 0]))),
  (60, some (.inl (.int, 60, .int 0, []))),
  (2, some (.inr (5, [.ref 1336, .int 0]))),
  (60, some (.inl (.int, 60, .int 0, []))),
  (2, some (.inr (5, [.ref 1334, .int 0]))),
  (60, some (.inl (.int, 60, .int 0, []))),
  (2, some (.inr (5, [.ref 1332, .int 0]))),
  (60, some (.inl (.int, 60, .int 0, []))),
  (2, some (.inr (5, [.ref 1330, .int 0]))),
  (60, some (.inl (.int, 60, .int 0, []))),
  (2, some (.inr (5, [.ref 1328, .int 0]))),
  (60, some (.inl (.int, 60, .int 0, []))),
  (2, some (.inr (5, [.ref 1326, .int 0]))),
  (60, some (.inl (.int, 60, .int 0, []))),
  (2, some (.inr (5, [.ref 1324, .int 0]))),
  (60, some (.inl (.int, 60, .int 0, []))),
  (2, some (.inr (5, [.ref 1322, .int 0]))),
  (60, some (.inl (.int, 60, .int 0, []))),
  (2, some (.inr (5, [.ref 1320, .int 0]))),
  (60, some (.inl (.int, 60, .int 0, []))),
  (2, some (.inr (5, [.ref 1318, .int 0]))),
  (60, some (.inl (.int, 60, .int 0, []))),
  (2, some (.inr (5, [.ref 1316, .int 0]))),
  (60, some (.inl (.int, 60, .int 0, []))),
  (2, some (.inr (5, [.ref 1314, .int 0]))),
  (8, some (.inl (.long, 8, .long 0, []))),
  (18, some (.inl (.object "EquationProofs$Term", 18, .null, [(17, .ref 1347), (16, .ref 1345), (15, .ref 1343), (14, .ref 1341), (13, .ref 1339), (12, .ref 1337), (11, .ref 1335), (10, .ref 1333), (9, .ref 1331), (8, .ref 1329), (7, .ref 1327), (6, .ref 1325), (5, .ref 1323), (4, .ref 1321), (3, .ref 1319), (2, .ref 1317), (1, .ref 1315), (0, .ref 1313)]))),
  (5, some (.inr (12, [.ref 1311, .ref 1312, .int 0, .long 0, .int 0]))),
  (60, some (.inl (.int, 60, .int 0, []))),
  (2, some (.inr (5, [.ref 1309, .int 0]))),
  (60, some (.inl (.int, 60, .int 0, []))),
  (2, some (.inr (5, [.ref 1307, .int 0]))),
  (60, some (.inl (.int, 60, .int 0, []))),
  (2, some (.inr (5, [.ref 1305, .int 0]))),
  (60, some (.inl (.int, 60, .int 0, []))),
  (2, some (.inr (5, [.ref 1303, .int 0]))),
  (60, some (.inl (.int, 60, .int 0, [])))]
def ss_3 : am_S := ((0, none), 1348, sb_30 ++ (sb_29 ++ (sb_28 ++ (sb_27 ++ (sb_26 ++ (sb_25 ++ (sb_24 ++ (sb_23 ++ (sb_22 ++ (sb_21 ++ (sb_18 ++ (sb_17 ++ (sb_16 ++ (sb_15 ++ (sb_14 ++ (sb_13 ++ (sb_12 ++ (sb_11 ++ (sb_20 ++ (sb_8 ++ (sb_7 ++ (sb_6 ++ (sb_5 ++ (sb_4 ++ (sb_3 ++ (sb_2 ++ (sb_1)))))))))))))))))))))))))))
set_option maxRecDepth 1000000 in
theorem kp_2 : am_many at_P at_cl at_ty 2000 11 mt_114 5 15 [(0, .ref 406), (1, .ref 7), (2, .ref 366)] [] ss_2 = some (26, [(0, .ref 406), (1, .ref 7), (2, .ref 366)], [], ss_3, 471, 13844) := am_isM_of (by decide +kernel)
def sb_31 : List am_C := [(18, some (.inl (.object "EquationProofs$Term", 18, .null, [(17, .ref 486), (16, .ref 484), (15, .ref 482), (14, .ref 480), (13, .ref 478), (12, .ref 476), (11, .ref 474), (10, .ref 472), (9, .ref 470), (8, .ref 468), (7, .ref 466), (6, .ref 464), (5, .ref 462), (4, .ref 460), (3, .ref 458), (2, .ref 456), (1, .ref 454), (0, .ref 452)]))),
  (5, some (.inr (12, [.ref 450, .ref 451, .int 0, .long 0, .int 0]))),
  (60, some (.inl (.int, 60, .int 0, []))),
  (2, some (.inr (5, [.ref 448, .int 0]))),
  (60, some (.inl (.int, 60, .int 0, []))),
  (2, some (.inr (5, [.ref 446, .int 0]))),
  (60, some (.inl (.int, 60, .int 0, []))),
  (2, some (.inr (5, [.ref 444, .int 0]))),
  (60, some (.inl (.int, 60, .int 0, []))),
  (2, some (.inr (5, [.ref 442, .int 0]))),
  (60, some (.inl (.int, 60, .int 0, []))),
  (2, some (.inr (5, [.ref 440, .int 0]))),
  (60, some (.inl (.int, 60, .int 0, []))),
  (2, some (.inr (5, [.ref 438, .int 0]))),
  (60, some (.inl (.int, 60, .int 0, []))),
  (2, some (.inr (5, [.ref 436, .int 0]))),
  (60, some (.inl (.int, 60, .int 0, []))),
  (2, some (.inr (5, [.ref 434, .int 0]))),
  (60, some (.inl (.int, 60, .int 0, []))),
  (2, some (.inr (5, [.ref 432, .int 0]))),
  (60, some (.inl (.int, 60, .int 0, []))),
  (2, some (.inr (5, [.ref 430, .int 0]))),
  (60, some (.inl (.int, 60, .int 0, []))),
  (2, some (.inr (5, [.ref 428, .int 0]))),
  (60, some (.inl (.int, 60, .int 0, []))),
  (2, some (.inr (5, [.ref 426, .int 0]))),
  (60, some (.inl (.int, 60, .int 0, []))),
  (2, some (.inr (5, [.ref 424, .int 0]))),
  (60, some (.inl (.int, 60, .int 0, []))),
  (2, some (.inr (5, [.ref 422, .int 0]))),
  (60, some (.inl (.int, 60, .int 0, []))),
  (2, some (.inr (5, [.ref 420, .int 0]))),
  (60, some (.inl (.int, 60, .int 0, []))),
  (2, some (.inr (5, [.ref 418, .int 0]))),
  (60, some (.inl (.int, 60, .int 0, []))),
  (2, some (.inr (5, [.ref 416, .int 0]))),
  (60, some (.inl (.int, 60, .int 0, []))),
  (2, some (.inr (5, [.ref 414, .int 0]))),
  (8, some (.inl (.long, 8, .long 0, []))),
  (18, some (.inl (.object "EquationProofs$Term", 18, .null, [(17, .ref 447), (16, .ref 445), (15, .ref 443), (14, .ref 441), (13, .ref 439), (12, .ref 437), (11, .ref 435), (10, .ref 433), (9, .ref 431), (8, .ref 429), (7, .ref 427), (6, .ref 425), (5, .ref 423), (4, .ref 421), (3, .ref 419), (2, .ref 417), (1, .ref 415), (0, .ref 413)]))),
  (5, some (.inr (12, [.ref 411, .ref 412, .int 0, .long 0, .int 0]))),
  (60, some (.inl (.int, 60, .int 0, []))),
  (12, some (.inl (.object "EquationProofs$Goal", 12, .null, [(11, .ref 839), (10, .ref 800), (9, .ref 761), (8, .ref 722), (7, .ref 683), (6, .ref 644), (5, .ref 605), (4, .ref 566), (3, .ref 527), (2, .ref 488), (1, .ref 449), (0, .ref 410)]))),
  (8, some (.inr (11, [.ref 408, .ref 409, .int 0, .int 0, .int 0, .int 0, .int 0, .long 0]))),
  (19, some (.inr (10, [.ref 7, .ref 366, .ref 407, .ref 878, .ref 1349, .ref 1350, .ref 1350, .ref 1350, .long 0, .long 0, .ref 409, .ref 1352, .ref 1354, .int 0, .int 0, .long 0, .int 0, .int 0, .int 0]))),
  (6, some (.inl (.int, 6, .int 0, []))),
  (2, some (.inr (5, [.ref 405, .int 0]))),
  (6, some (.inl (.int, 6, .int 0, []))),
  (2, some (.inr (5, [.ref 403, .int 0]))),
  (6, some (.inl (.int, 6, .int 0, [])))]
def sb_32 : List am_C := [(2, some (.inr (5, [.ref 1351, .int 0]))),
  (12, some (.inl (.object "EquationProofs$Goal", 12, .null, [(11, .ref 1785), (10, .ref 1746), (9, .ref 1707), (8, .ref 1668), (7, .ref 1629), (6, .ref 1590), (5, .ref 1551), (4, .ref 1512), (3, .ref 1473), (2, .ref 1434), (1, .ref 1395), (0, .ref 1356)]))),
  (60, some (.inl (.int, 60, .int 0, []))),
  (2, some (.inr (5, [.ref 1348, .int 0]))),
  (60, some (.inl (.int, 60, .int 0, []))),
  (2, some (.inr (5, [.ref 1346, .int 0]))),
  (60, some (.inl (.int, 60, .int 0, []))),
  (2, some (.inr (5, [.ref 1344, .int 0]))),
  (60, some (.inl (.int, 60, .int 0, []))),
  (2, some (.inr (5, [.ref 1342, .int 0]))),
  (60, some (.inl (.int, 60, .int 0, []))),
  (2, some (.inr (5, [.ref 1340, .int 0]))),
  (60, some (.inl (.int, 60, .int 0, []))),
  (2, some (.inr (5, [.ref 1338, .int 0]))),
  (60, some (.inl (.int, 60, .int 0, []))),
  (2, some (.inr (5, [.ref 1336, .int 0]))),
  (60, some (.inl (.int, 60, .int 0, []))),
  (2, some (.inr (5, [.ref 1334, .int 0]))),
  (60, some (.inl (.int, 60, .int 0, []))),
  (2, some (.inr (5, [.ref 1332, .int 0]))),
  (60, some (.inl (.int, 60, .int 0, []))),
  (2, some (.inr (5, [.ref 1330, .int 0]))),
  (60, some (.inl (.int, 60, .int 0, []))),
  (2, some (.inr (5, [.ref 1328, .int 0]))),
  (60, some (.inl (.int, 60, .int 0, []))),
  (2, some (.inr (5, [.ref 1326, .int 0]))),
  (60, some (.inl (.int, 60, .int 0, []))),
  (2, some (.inr (5, [.ref 1324, .int 0]))),
  (60, some (.inl (.int, 60, .int 0, []))),
  (2, some (.inr (5, [.ref 1322, .int 0]))),
  (60, some (.inl (.int, 60, .int 0, []))),
  (2, some (.inr (5, [.ref 1320, .int 0]))),
  (60, some (.inl (.int, 60, .int 0, []))),
  (2, some (.inr (5, [.ref 1318, .int 0]))),
  (60, some (.inl (.int, 60, .int 0, []))),
  (2, some (.inr (5, [.ref 1316, .int 0]))),
  (60, some (.inl (.int, 60, .int 0, []))),
  (2, some (.inr (5, [.ref 1314, .int 0]))),
  (8, some (.inl (.long, 8, .long 0, []))),
  (18, some (.inl (.object "EquationProofs$Term", 18, .null, [(17, .ref 1347), (16, .ref 1345), (15, .ref 1343), (14, .ref 1341), (13, .ref 1339), (12, .ref 1337), (11, .ref 1335), (10, .ref 1333), (9, .ref 1331), (8, .ref 1329), (7, .ref 1327), (6, .ref 1325), (5, .ref 1323), (4, .ref 1321), (3, .ref 1319), (2, .ref 1317), (1, .ref 1315), (0, .ref 1313)]))),
  (5, some (.inr (12, [.ref 1311, .ref 1312, .int 0, .long 0, .int 0]))),
  (60, some (.inl (.int, 60, .int 0, []))),
  (2, some (.inr (5, [.ref 1309, .int 0]))),
  (60, some (.inl (.int, 60, .int 0, []))),
  (2, some (.inr (5, [.ref 1307, .int 0]))),
  (60, some (.inl (.int, 60, .int 0, []))),
  (2, some (.inr (5, [.ref 1305, .int 0]))),
  (60, some (.inl (.int, 60, .int 0, []))),
  (2, some (.inr (5, [.ref 1303, .int 0]))),
  (60, some (.inl (.int, 60, .int 0, [])))]
def sb_33 : List am_C := [(2, some (.inr (5, [.ref 1401, .int 0]))),
  (60, some (.inl (.int, 60, .int 0, []))),
  (2, some (.inr (5, [.ref 1399, .int 0]))),
  (8, some (.inl (.long, 8, .long 0, []))),
  (18, some (.inl (.object "EquationProofs$Term", 18, .null, [(17, .ref 1432), (16, .ref 1430), (15, .ref 1428), (14, .ref 1426), (13, .ref 1424), (12, .ref 1422), (11, .ref 1420), (10, .ref 1418), (9, .ref 1416), (8, .ref 1414), (7, .ref 1412), (6, .ref 1410), (5, .ref 1408), (4, .ref 1406), (3, .ref 1404), (2, .ref 1402), (1, .ref 1400), (0, .ref 1398)]))),
  (5, some (.inr (12, [.ref 1396, .ref 1397, .int 0, .long 0, .int 0]))),
  (60, some (.inl (.int, 60, .int 0, []))),
  (2, some (.inr (5, [.ref 1394, .int 0]))),
  (60, some (.inl (.int, 60, .int 0, []))),
  (2, some (.inr (5, [.ref 1392, .int 0]))),
  (60, some (.inl (.int, 60, .int 0, []))),
  (2, some (.inr (5, [.ref 1390, .int 0]))),
  (60, some (.inl (.int, 60, .int 0, []))),
  (2, some (.inr (5, [.ref 1388, .int 0]))),
  (60, some (.inl (.int, 60, .int 0, []))),
  (2, some (.inr (5, [.ref 1386, .int 0]))),
  (60, some (.inl (.int, 60, .int 0, []))),
  (2, some (.inr (5, [.ref 1384, .int 0]))),
  (60, some (.inl (.int, 60, .int 0, []))),
  (2, some (.inr (5, [.ref 1382, .int 0]))),
  (60, some (.inl (.int, 60, .int 0, []))),
  (2, some (.inr (5, [.ref 1380, .int 0]))),
  (60, some (.inl (.int, 60, .int 0, []))),
  (2, some (.inr (5, [.ref 1378, .int 0]))),
  (60, some (.inl (.int, 60, .int 0, []))),
  (2, some (.inr (5, [.ref 1376, .int 0]))),
  (60, some (.inl (.int, 60, .int 0, []))),
  (2, some (.inr (5, [.ref 1374, .int 0]))),
  (60, some (.inl (.int, 60, .int 0, []))),
  (2, some (.inr (5, [.ref 1372, .int 0]))),
  (60, some (.inl (.int, 60, .int 0, []))),
  (2, some (.inr (5, [.ref 1370, .int 0]))),
  (60, some (.inl (.int, 60, .int 0, []))),
  (2, some (.inr (5, [.ref 1368, .int 0]))),
  (60, some (.inl (.int, 60, .int 0, []))),
  (2, some (.inr (5, [.ref 1366, .int 0]))),
  (60, some (.inl (.int, 60, .int 0, []))),
  (2, some (.inr (5, [.ref 1364, .int 0]))),
  (60, some (.inl (.int, 60, .int 0, []))),
  (2, some (.inr (5, [.ref 1362, .int 0]))),
  (60, some (.inl (.int, 60, .int 0, []))),
  (2, some (.inr (5, [.ref 1360, .int 0]))),
  (8, some (.inl (.long, 8, .long 0, []))),
  (18, some (.inl (.object "EquationProofs$Term", 18, .null, [(17, .ref 1393), (16, .ref 1391), (15, .ref 1389), (14, .ref 1387), (13, .ref 1385), (12, .ref 1383), (11, .ref 1381), (10, .ref 1379), (9, .ref 1377), (8, .ref 1375), (7, .ref 1373), (6, .ref 1371), (5, .ref 1369), (4, .ref 1367), (3, .ref 1365), (2, .ref 1363), (1, .ref 1361), (0, .ref 1359)]))),
  (5, some (.inr (12, [.ref 1357, .ref 1358, .int 0, .long 0, .int 0]))),
  (4, some (.inl (.int, 4, .int 0, []))),
  (2, some (.inr (5, [.ref 1355, .int 0]))),
  (60, some (.inl (.int, 60, .int 0, []))),
  (2, some (.inr (5, [.ref 1353, .int 0]))),
  (60, some (.inl (.int, 60, .int 0, [])))]
def sb_34 : List am_C := [(60, some (.inl (.int, 60, .int 0, []))),
  (2, some (.inr (5, [.ref 1450, .int 0]))),
  (60, some (.inl (.int, 60, .int 0, []))),
  (2, some (.inr (5, [.ref 1448, .int 0]))),
  (60, some (.inl (.int, 60, .int 0, []))),
  (2, some (.inr (5, [.ref 1446, .int 0]))),
  (60, some (.inl (.int, 60, .int 0, []))),
  (2, some (.inr (5, [.ref 1444, .int 0]))),
  (60, some (.inl (.int, 60, .int 0, []))),
  (2, some (.inr (5, [.ref 1442, .int 0]))),
  (60, some (.inl (.int, 60, .int 0, []))),
  (2, some (.inr (5, [.ref 1440, .int 0]))),
  (60, some (.inl (.int, 60, .int 0, []))),
  (2, some (.inr (5, [.ref 1438, .int 0]))),
  (8, some (.inl (.long, 8, .long 0, []))),
  (18, some (.inl (.object "EquationProofs$Term", 18, .null, [(17, .ref 1471), (16, .ref 1469), (15, .ref 1467), (14, .ref 1465), (13, .ref 1463), (12, .ref 1461), (11, .ref 1459), (10, .ref 1457), (9, .ref 1455), (8, .ref 1453), (7, .ref 1451), (6, .ref 1449), (5, .ref 1447), (4, .ref 1445), (3, .ref 1443), (2, .ref 1441), (1, .ref 1439), (0, .ref 1437)]))),
  (5, some (.inr (12, [.ref 1435, .ref 1436, .int 0, .long 0, .int 0]))),
  (60, some (.inl (.int, 60, .int 0, []))),
  (2, some (.inr (5, [.ref 1433, .int 0]))),
  (60, some (.inl (.int, 60, .int 0, []))),
  (2, some (.inr (5, [.ref 1431, .int 0]))),
  (60, some (.inl (.int, 60, .int 0, []))),
  (2, some (.inr (5, [.ref 1429, .int 0]))),
  (60, some (.inl (.int, 60, .int 0, []))),
  (2, some (.inr (5, [.ref 1427, .int 0]))),
  (60, some (.inl (.int, 60, .int 0, []))),
  (2, some (.inr (5, [.ref 1425, .int 0]))),
  (60, some (.inl (.int, 60, .int 0, []))),
  (2, some (.inr (5, [.ref 1423, .int 0]))),
  (60, some (.inl (.int, 60, .int 0, []))),
  (2, some (.inr (5, [.ref 1421, .int 0]))),
  (60, some (.inl (.int, 60, .int 0, []))),
  (2, some (.inr (5, [.ref 1419, .int 0]))),
  (60, some (.inl (.int, 60, .int 0, []))),
  (2, some (.inr (5, [.ref 1417, .int 0]))),
  (60, some (.inl (.int, 60, .int 0, []))),
  (2, some (.inr (5, [.ref 1415, .int 0]))),
  (60, some (.inl (.int, 60, .int 0, []))),
  (2, some (.inr (5, [.ref 1413, .int 0]))),
  (60, some (.inl (.int, 60, .int 0, []))),
  (2, some (.inr (5, [.ref 1411, .int 0]))),
  (60, some (.inl (.int, 60, .int 0, []))),
  (2, some (.inr (5, [.ref 1409, .int 0]))),
  (60, some (.inl (.int, 60, .int 0, []))),
  (2, some (.inr (5, [.ref 1407, .int 0]))),
  (60, some (.inl (.int, 60, .int 0, []))),
  (2, some (.inr (5, [.ref 1405, .int 0]))),
  (60, some (.inl (.int, 60, .int 0, []))),
  (2, some (.inr (5, [.ref 1403, .int 0]))),
  (60, some (.inl (.int, 60, .int 0, [])))]
def sb_35 : List am_C := [(2, some (.inr (5, [.ref 1501, .int 0]))),
  (60, some (.inl (.int, 60, .int 0, []))),
  (2, some (.inr (5, [.ref 1499, .int 0]))),
  (60, some (.inl (.int, 60, .int 0, []))),
  (2, some (.inr (5, [.ref 1497, .int 0]))),
  (60, some (.inl (.int, 60, .int 0, []))),
  (2, some (.inr (5, [.ref 1495, .int 0]))),
  (60, some (.inl (.int, 60, .int 0, []))),
  (2, some (.inr (5, [.ref 1493, .int 0]))),
  (60, some (.inl (.int, 60, .int 0, []))),
  (2, some (.inr (5, [.ref 1491, .int 0]))),
  (60, some (.inl (.int, 60, .int 0, []))),
  (2, some (.inr (5, [.ref 1489, .int 0]))),
  (60, some (.inl (.int, 60, .int 0, []))),
  (2, some (.inr (5, [.ref 1487, .int 0]))),
  (60, some (.inl (.int, 60, .int 0, []))),
  (2, some (.inr (5, [.ref 1485, .int 0]))),
  (60, some (.inl (.int, 60, .int 0, []))),
  (2, some (.inr (5, [.ref 1483, .int 0]))),
  (60, some (.inl (.int, 60, .int 0, []))),
  (2, some (.inr (5, [.ref 1481, .int 0]))),
  (60, some (.inl (.int, 60, .int 0, []))),
  (2, some (.inr (5, [.ref 1479, .int 0]))),
  (60, some (.inl (.int, 60, .int 0, []))),
  (2, some (.inr (5, [.ref 1477, .int 0]))),
  (8, some (.inl (.long, 8, .long 0, []))),
  (18, some (.inl (.object "EquationProofs$Term", 18, .null, [(17, .ref 1510), (16, .ref 1508), (15, .ref 1506), (14, .ref 1504), (13, .ref 1502), (12, .ref 1500), (11, .ref 1498), (10, .ref 1496), (9, .ref 1494), (8, .ref 1492), (7, .ref 1490), (6, .ref 1488), (5, .ref 1486), (4, .ref 1484), (3, .ref 1482), (2, .ref 1480), (1, .ref 1478), (0, .ref 1476)]))),
  (5, some (.inr (12, [.ref 1474, .ref 1475, .int 0, .long 0, .int 0]))),
  (60, some (.inl (.int, 60, .int 0, []))),
  (2, some (.inr (5, [.ref 1472, .int 0]))),
  (60, some (.inl (.int, 60, .int 0, []))),
  (2, some (.inr (5, [.ref 1470, .int 0]))),
  (60, some (.inl (.int, 60, .int 0, []))),
  (2, some (.inr (5, [.ref 1468, .int 0]))),
  (60, some (.inl (.int, 60, .int 0, []))),
  (2, some (.inr (5, [.ref 1466, .int 0]))),
  (60, some (.inl (.int, 60, .int 0, []))),
  (2, some (.inr (5, [.ref 1464, .int 0]))),
  (60, some (.inl (.int, 60, .int 0, []))),
  (2, some (.inr (5, [.ref 1462, .int 0]))),
  (60, some (.inl (.int, 60, .int 0, []))),
  (2, some (.inr (5, [.ref 1460, .int 0]))),
  (60, some (.inl (.int, 60, .int 0, []))),
  (2, some (.inr (5, [.ref 1458, .int 0]))),
  (60, some (.inl (.int, 60, .int 0, []))),
  (2, some (.inr (5, [.ref 1456, .int 0]))),
  (60, some (.inl (.int, 60, .int 0, []))),
  (2, some (.inr (5, [.ref 1454, .int 0]))),
  (60, some (.inl (.int, 60, .int 0, []))),
  (2, some (.inr (5, [.ref 1452, .int 0])))]
def sb_36 : List am_C := [(60, some (.inl (.int, 60, .int 0, []))),
  (2, some (.inr (5, [.ref 1550, .int 0]))),
  (60, some (.inl (.int, 60, .int 0, []))),
  (2, some (.inr (5, [.ref 1548, .int 0]))),
  (60, some (.inl (.int, 60, .int 0, []))),
  (2, some (.inr (5, [.ref 1546, .int 0]))),
  (60, some (.inl (.int, 60, .int 0, []))),
  (2, some (.inr (5, [.ref 1544, .int 0]))),
  (60, some (.inl (.int, 60, .int 0, []))),
  (2, some (.inr (5, [.ref 1542, .int 0]))),
  (60, some (.inl (.int, 60, .int 0, []))),
  (2, some (.inr (5, [.ref 1540, .int 0]))),
  (60, some (.inl (.int, 60, .int 0, []))),
  (2, some (.inr (5, [.ref 1538, .int 0]))),
  (60, some (.inl (.int, 60, .int 0, []))),
  (2, some (.inr (5, [.ref 1536, .int 0]))),
  (60, some (.inl (.int, 60, .int 0, []))),
  (2, some (.inr (5, [.ref 1534, .int 0]))),
  (60, some (.inl (.int, 60, .int 0, []))),
  (2, some (.inr (5, [.ref 1532, .int 0]))),
  (60, some (.inl (.int, 60, .int 0, []))),
  (2, some (.inr (5, [.ref 1530, .int 0]))),
  (60, some (.inl (.int, 60, .int 0, []))),
  (2, some (.inr (5, [.ref 1528, .int 0]))),
  (60, some (.inl (.int, 60, .int 0, []))),
  (2, some (.inr (5, [.ref 1526, .int 0]))),
  (60, some (.inl (.int, 60, .int 0, []))),
  (2, some (.inr (5, [.ref 1524, .int 0]))),
  (60, some (.inl (.int, 60, .int 0, []))),
  (2, some (.inr (5, [.ref 1522, .int 0]))),
  (60, some (.inl (.int, 60, .int 0, []))),
  (2, some (.inr (5, [.ref 1520, .int 0]))),
  (60, some (.inl (.int, 60, .int 0, []))),
  (2, some (.inr (5, [.ref 1518, .int 0]))),
  (60, some (.inl (.int, 60, .int 0, []))),
  (2, some (.inr (5, [.ref 1516, .int 0]))),
  (8, some (.inl (.long, 8, .long 0, []))),
  (18, some (.inl (.object "EquationProofs$Term", 18, .null, [(17, .ref 1549), (16, .ref 1547), (15, .ref 1545), (14, .ref 1543), (13, .ref 1541), (12, .ref 1539), (11, .ref 1537), (10, .ref 1535), (9, .ref 1533), (8, .ref 1531), (7, .ref 1529), (6, .ref 1527), (5, .ref 1525), (4, .ref 1523), (3, .ref 1521), (2, .ref 1519), (1, .ref 1517), (0, .ref 1515)]))),
  (5, some (.inr (12, [.ref 1513, .ref 1514, .int 0, .long 0, .int 0]))),
  (60, some (.inl (.int, 60, .int 0, []))),
  (2, some (.inr (5, [.ref 1511, .int 0]))),
  (60, some (.inl (.int, 60, .int 0, []))),
  (2, some (.inr (5, [.ref 1509, .int 0]))),
  (60, some (.inl (.int, 60, .int 0, []))),
  (2, some (.inr (5, [.ref 1507, .int 0]))),
  (60, some (.inl (.int, 60, .int 0, []))),
  (2, some (.inr (5, [.ref 1505, .int 0]))),
  (60, some (.inl (.int, 60, .int 0, []))),
  (2, some (.inr (5, [.ref 1503, .int 0]))),
  (60, some (.inl (.int, 60, .int 0, [])))]
def sb_37 : List am_C := [(60, some (.inl (.int, 60, .int 0, []))),
  (2, some (.inr (5, [.ref 1600, .int 0]))),
  (60, some (.inl (.int, 60, .int 0, []))),
  (2, some (.inr (5, [.ref 1598, .int 0]))),
  (60, some (.inl (.int, 60, .int 0, []))),
  (2, some (.inr (5, [.ref 1596, .int 0]))),
  (60, some (.inl (.int, 60, .int 0, []))),
  (2, some (.inr (5, [.ref 1594, .int 0]))),
  (8, some (.inl (.long, 8, .long 0, []))),
  (18, some (.inl (.object "EquationProofs$Term", 18, .null, [(17, .ref 1627), (16, .ref 1625), (15, .ref 1623), (14, .ref 1621), (13, .ref 1619), (12, .ref 1617), (11, .ref 1615), (10, .ref 1613), (9, .ref 1611), (8, .ref 1609), (7, .ref 1607), (6, .ref 1605), (5, .ref 1603), (4, .ref 1601), (3, .ref 1599), (2, .ref 1597), (1, .ref 1595), (0, .ref 1593)]))),
  (5, some (.inr (12, [.ref 1591, .ref 1592, .int 0, .long 0, .int 0]))),
  (60, some (.inl (.int, 60, .int 0, []))),
  (2, some (.inr (5, [.ref 1589, .int 0]))),
  (60, some (.inl (.int, 60, .int 0, []))),
  (2, some (.inr (5, [.ref 1587, .int 0]))),
  (60, some (.inl (.int, 60, .int 0, []))),
  (2, some (.inr (5, [.ref 1585, .int 0]))),
  (60, some (.inl (.int, 60, .int 0, []))),
  (2, some (.inr (5, [.ref 1583, .int 0]))),
  (60, some (.inl (.int, 60, .int 0, []))),
  (2, some (.inr (5, [.ref 1581, .int 0]))),
  (60, some (.inl (.int, 60, .int 0, []))),
  (2, some (.inr (5, [.ref 1579, .int 0]))),
  (60, some (.inl (.int, 60, .int 0, []))),
  (2, some (.inr (5, [.ref 1577, .int 0]))),
  (60, some (.inl (.int, 60, .int 0, []))),
  (2, some (.inr (5, [.ref 1575, .int 0]))),
  (60, some (.inl (.int, 60, .int 0, []))),
  (2, some (.inr (5, [.ref 1573, .int 0]))),
  (60, some (.inl (.int, 60, .int 0, []))),
  (2, some (.inr (5, [.ref 1571, .int 0]))),
  (60, some (.inl (.int, 60, .int 0, []))),
  (2, some (.inr (5, [.ref 1569, .int 0]))),
  (60, some (.inl (.int, 60, .int 0, []))),
  (2, some (.inr (5, [.ref 1567, .int 0]))),
  (60, some (.inl (.int, 60, .int 0, []))),
  (2, some (.inr (5, [.ref 1565, .int 0]))),
  (60, some (.inl (.int, 60, .int 0, []))),
  (2, some (.inr (5, [.ref 1563, .int 0]))),
  (60, some (.inl (.int, 60, .int 0, []))),
  (2, some (.inr (5, [.ref 1561, .int 0]))),
  (60, some (.inl (.int, 60, .int 0, []))),
  (2, some (.inr (5, [.ref 1559, .int 0]))),
  (60, some (.inl (.int, 60, .int 0, []))),
  (2, some (.inr (5, [.ref 1557, .int 0]))),
  (60, some (.inl (.int, 60, .int 0, []))),
  (2, some (.inr (5, [.ref 1555, .int 0]))),
  (8, some (.inl (.long, 8, .long 0, []))),
  (18, some (.inl (.object "EquationProofs$Term", 18, .null, [(17, .ref 1588), (16, .ref 1586), (15, .ref 1584), (14, .ref 1582), (13, .ref 1580), (12, .ref 1578), (11, .ref 1576), (10, .ref 1574), (9, .ref 1572), (8, .ref 1570), (7, .ref 1568), (6, .ref 1566), (5, .ref 1564), (4, .ref 1562), (3, .ref 1560), (2, .ref 1558), (1, .ref 1556), (0, .ref 1554)]))),
  (5, some (.inr (12, [.ref 1552, .ref 1553, .int 0, .long 0, .int 0])))]
def sb_38 : List am_C := [(2, some (.inr (5, [.ref 1651, .int 0]))),
  (60, some (.inl (.int, 60, .int 0, []))),
  (2, some (.inr (5, [.ref 1649, .int 0]))),
  (60, some (.inl (.int, 60, .int 0, []))),
  (2, some (.inr (5, [.ref 1647, .int 0]))),
  (60, some (.inl (.int, 60, .int 0, []))),
  (2, some (.inr (5, [.ref 1645, .int 0]))),
  (60, some (.inl (.int, 60, .int 0, []))),
  (2, some (.inr (5, [.ref 1643, .int 0]))),
  (60, some (.inl (.int, 60, .int 0, []))),
  (2, some (.inr (5, [.ref 1641, .int 0]))),
  (60, some (.inl (.int, 60, .int 0, []))),
  (2, some (.inr (5, [.ref 1639, .int 0]))),
  (60, some (.inl (.int, 60, .int 0, []))),
  (2, some (.inr (5, [.ref 1637, .int 0]))),
  (60, some (.inl (.int, 60, .int 0, []))),
  (2, some (.inr (5, [.ref 1635, .int 0]))),
  (60, some (.inl (.int, 60, .int 0, []))),
  (2, some (.inr (5, [.ref 1633, .int 0]))),
  (8, some (.inl (.long, 8, .long 0, []))),
  (18, some (.inl (.object "EquationProofs$Term", 18, .null, [(17, .ref 1666), (16, .ref 1664), (15, .ref 1662), (14, .ref 1660), (13, .ref 1658), (12, .ref 1656), (11, .ref 1654), (10, .ref 1652), (9, .ref 1650), (8, .ref 1648), (7, .ref 1646), (6, .ref 1644), (5, .ref 1642), (4, .ref 1640), (3, .ref 1638), (2, .ref 1636), (1, .ref 1634), (0, .ref 1632)]))),
  (5, some (.inr (12, [.ref 1630, .ref 1631, .int 0, .long 0, .int 0]))),
  (60, some (.inl (.int, 60, .int 0, []))),
  (2, some (.inr (5, [.ref 1628, .int 0]))),
  (60, some (.inl (.int, 60, .int 0, []))),
  (2, some (.inr (5, [.ref 1626, .int 0]))),
  (60, some (.inl (.int, 60, .int 0, []))),
  (2, some (.inr (5, [.ref 1624, .int 0]))),
  (60, some (.inl (.int, 60, .int 0, []))),
  (2, some (.inr (5, [.ref 1622, .int 0]))),
  (60, some (.inl (.int, 60, .int 0, []))),
  (2, some (.inr (5, [.ref 1620, .int 0]))),
  (60, some (.inl (.int, 60, .int 0, []))),
  (2, some (.inr (5, [.ref 1618, .int 0]))),
  (60, some (.inl (.int, 60, .int 0, []))),
  (2, some (.inr (5, [.ref 1616, .int 0]))),
  (60, some (.inl (.int, 60, .int 0, []))),
  (2, some (.inr (5, [.ref 1614, .int 0]))),
  (60, some (.inl (.int, 60, .int 0, []))),
  (2, some (.inr (5, [.ref 1612, .int 0]))),
  (60, some (.inl (.int, 60, .int 0, []))),
  (2, some (.inr (5, [.ref 1610, .int 0]))),
  (60, some (.inl (.int, 60, .int 0, []))),
  (2, some (.inr (5, [.ref 1608, .int 0]))),
  (60, some (.inl (.int, 60, .int 0, []))),
  (2, some (.inr (5, [.ref 1606, .int 0]))),
  (60, some (.inl (.int, 60, .int 0, []))),
  (2, some (.inr (5, [.ref 1604, .int 0]))),
  (60, some (.inl (.int, 60, .int 0, []))),
  (2, some (.inr (5, [.ref 1602, .int 0])))]
def sb_39 : List am_C := [(60, some (.inl (.int, 60, .int 0, []))),
  (2, some (.inr (5, [.ref 1700, .int 0]))),
  (60, some (.inl (.int, 60, .int 0, []))),
  (2, some (.inr (5, [.ref 1698, .int 0]))),
  (60, some (.inl (.int, 60, .int 0, []))),
  (2, some (.inr (5, [.ref 1696, .int 0]))),
  (60, some (.inl (.int, 60, .int 0, []))),
  (2, some (.inr (5, [.ref 1694, .int 0]))),
  (60, some (.inl (.int, 60, .int 0, []))),
  (2, some (.inr (5, [.ref 1692, .int 0]))),
  (60, some (.inl (.int, 60, .int 0, []))),
  (2, some (.inr (5, [.ref 1690, .int 0]))),
  (60, some (.inl (.int, 60, .int 0, []))),
  (2, some (.inr (5, [.ref 1688, .int 0]))),
  (60, some (.inl (.int, 60, .int 0, []))),
  (2, some (.inr (5, [.ref 1686, .int 0]))),
  (60, some (.inl (.int, 60, .int 0, []))),
  (2, some (.inr (5, [.ref 1684, .int 0]))),
  (60, some (.inl (.int, 60, .int 0, []))),
  (2, some (.inr (5, [.ref 1682, .int 0]))),
  (60, some (.inl (.int, 60, .int 0, []))),
  (2, some (.inr (5, [.ref 1680, .int 0]))),
  (60, some (.inl (.int, 60, .int 0, []))),
  (2, some (.inr (5, [.ref 1678, .int 0]))),
  (60, some (.inl (.int, 60, .int 0, []))),
  (2, some (.inr (5, [.ref 1676, .int 0]))),
  (60, some (.inl (.int, 60, .int 0, []))),
  (2, some (.inr (5, [.ref 1674, .int 0]))),
  (60, some (.inl (.int, 60, .int 0, []))),
  (2, some (.inr (5, [.ref 1672, .int 0]))),
  (8, some (.inl (.long, 8, .long 0, []))),
  (18, some (.inl (.object "EquationProofs$Term", 18, .null, [(17, .ref 1705), (16, .ref 1703), (15, .ref 1701), (14, .ref 1699), (13, .ref 1697), (12, .ref 1695), (11, .ref 1693), (10, .ref 1691), (9, .ref 1689), (8, .ref 1687), (7, .ref 1685), (6, .ref 1683), (5, .ref 1681), (4, .ref 1679), (3, .ref 1677), (2, .ref 1675), (1, .ref 1673), (0, .ref 1671)]))),
  (5, some (.inr (12, [.ref 1669, .ref 1670, .int 0, .long 0, .int 0]))),
  (60, some (.inl (.int, 60, .int 0, []))),
  (2, some (.inr (5, [.ref 1667, .int 0]))),
  (60, some (.inl (.int, 60, .int 0, []))),
  (2, some (.inr (5, [.ref 1665, .int 0]))),
  (60, some (.inl (.int, 60, .int 0, []))),
  (2, some (.inr (5, [.ref 1663, .int 0]))),
  (60, some (.inl (.int, 60, .int 0, []))),
  (2, some (.inr (5, [.ref 1661, .int 0]))),
  (60, some (.inl (.int, 60, .int 0, []))),
  (2, some (.inr (5, [.ref 1659, .int 0]))),
  (60, some (.inl (.int, 60, .int 0, []))),
  (2, some (.inr (5, [.ref 1657, .int 0]))),
  (60, some (.inl (.int, 60, .int 0, []))),
  (2, some (.inr (5, [.ref 1655, .int 0]))),
  (60, some (.inl (.int, 60, .int 0, []))),
  (2, some (.inr (5, [.ref 1653, .int 0]))),
  (60, some (.inl (.int, 60, .int 0, [])))]
def sb_40 : List am_C := [(60, some (.inl (.int, 60, .int 0, []))),
  (2, some (.inr (5, [.ref 1750, .int 0]))),
  (8, some (.inl (.long, 8, .long 0, []))),
  (18, some (.inl (.object "EquationProofs$Term", 18, .null, [(17, .ref 1783), (16, .ref 1781), (15, .ref 1779), (14, .ref 1777), (13, .ref 1775), (12, .ref 1773), (11, .ref 1771), (10, .ref 1769), (9, .ref 1767), (8, .ref 1765), (7, .ref 1763), (6, .ref 1761), (5, .ref 1759), (4, .ref 1757), (3, .ref 1755), (2, .ref 1753), (1, .ref 1751), (0, .ref 1749)]))),
  (5, some (.inr (12, [.ref 1747, .ref 1748, .int 0, .long 0, .int 0]))),
  (60, some (.inl (.int, 60, .int 0, []))),
  (2, some (.inr (5, [.ref 1745, .int 0]))),
  (60, some (.inl (.int, 60, .int 0, []))),
  (2, some (.inr (5, [.ref 1743, .int 0]))),
  (60, some (.inl (.int, 60, .int 0, []))),
  (2, some (.inr (5, [.ref 1741, .int 0]))),
  (60, some (.inl (.int, 60, .int 0, []))),
  (2, some (.inr (5, [.ref 1739, .int 0]))),
  (60, some (.inl (.int, 60, .int 0, []))),
  (2, some (.inr (5, [.ref 1737, .int 0]))),
  (60, some (.inl (.int, 60, .int 0, []))),
  (2, some (.inr (5, [.ref 1735, .int 0]))),
  (60, some (.inl (.int, 60, .int 0, []))),
  (2, some (.inr (5, [.ref 1733, .int 0]))),
  (60, some (.inl (.int, 60, .int 0, []))),
  (2, some (.inr (5, [.ref 1731, .int 0]))),
  (60, some (.inl (.int, 60, .int 0, []))),
  (2, some (.inr (5, [.ref 1729, .int 0]))),
  (60, some (.inl (.int, 60, .int 0, []))),
  (2, some (.inr (5, [.ref 1727, .int 0]))),
  (60, some (.inl (.int, 60, .int 0, []))),
  (2, some (.inr (5, [.ref 1725, .int 0]))),
  (60, some (.inl (.int, 60, .int 0, []))),
  (2, some (.inr (5, [.ref 1723, .int 0]))),
  (60, some (.inl (.int, 60, .int 0, []))),
  (2, some (.inr (5, [.ref 1721, .int 0]))),
  (60, some (.inl (.int, 60, .int 0, []))),
  (2, some (.inr (5, [.ref 1719, .int 0]))),
  (60, some (.inl (.int, 60, .int 0, []))),
  (2, some (.inr (5, [.ref 1717, .int 0]))),
  (60, some (.inl (.int, 60, .int 0, []))),
  (2, some (.inr (5, [.ref 1715, .int 0]))),
  (60, some (.inl (.int, 60, .int 0, []))),
  (2, some (.inr (5, [.ref 1713, .int 0]))),
  (60, some (.inl (.int, 60, .int 0, []))),
  (2, some (.inr (5, [.ref 1711, .int 0]))),
  (8, some (.inl (.long, 8, .long 0, []))),
  (18, some (.inl (.object "EquationProofs$Term", 18, .null, [(17, .ref 1744), (16, .ref 1742), (15, .ref 1740), (14, .ref 1738), (13, .ref 1736), (12, .ref 1734), (11, .ref 1732), (10, .ref 1730), (9, .ref 1728), (8, .ref 1726), (7, .ref 1724), (6, .ref 1722), (5, .ref 1720), (4, .ref 1718), (3, .ref 1716), (2, .ref 1714), (1, .ref 1712), (0, .ref 1710)]))),
  (5, some (.inr (12, [.ref 1708, .ref 1709, .int 0, .long 0, .int 0]))),
  (60, some (.inl (.int, 60, .int 0, []))),
  (2, some (.inr (5, [.ref 1706, .int 0]))),
  (60, some (.inl (.int, 60, .int 0, []))),
  (2, some (.inr (5, [.ref 1704, .int 0]))),
  (60, some (.inl (.int, 60, .int 0, []))),
  (2, some (.inr (5, [.ref 1702, .int 0])))]
def sb_41 : List am_C := [(2, some (.inr (5, [.ref 1801, .int 0]))),
  (60, some (.inl (.int, 60, .int 0, []))),
  (2, some (.inr (5, [.ref 1799, .int 0]))),
  (60, some (.inl (.int, 60, .int 0, []))),
  (2, some (.inr (5, [.ref 1797, .int 0]))),
  (60, some (.inl (.int, 60, .int 0, []))),
  (2, some (.inr (5, [.ref 1795, .int 0]))),
  (60, some (.inl (.int, 60, .int 0, []))),
  (2, some (.inr (5, [.ref 1793, .int 0]))),
  (60, some (.inl (.int, 60, .int 0, []))),
  (2, some (.inr (5, [.ref 1791, .int 0]))),
  (60, some (.inl (.int, 60, .int 0, []))),
  (2, some (.inr (5, [.ref 1789, .int 0]))),
  (8, some (.inl (.long, 8, .long 0, []))),
  (18, some (.inl (.object "EquationProofs$Term", 18, .null, [(17, .ref 1822), (16, .ref 1820), (15, .ref 1818), (14, .ref 1816), (13, .ref 1814), (12, .ref 1812), (11, .ref 1810), (10, .ref 1808), (9, .ref 1806), (8, .ref 1804), (7, .ref 1802), (6, .ref 1800), (5, .ref 1798), (4, .ref 1796), (3, .ref 1794), (2, .ref 1792), (1, .ref 1790), (0, .ref 1788)]))),
  (5, some (.inr (12, [.ref 1786, .ref 1787, .int 0, .long 0, .int 0]))),
  (60, some (.inl (.int, 60, .int 0, []))),
  (2, some (.inr (5, [.ref 1784, .int 0]))),
  (60, some (.inl (.int, 60, .int 0, []))),
  (2, some (.inr (5, [.ref 1782, .int 0]))),
  (60, some (.inl (.int, 60, .int 0, []))),
  (2, some (.inr (5, [.ref 1780, .int 0]))),
  (60, some (.inl (.int, 60, .int 0, []))),
  (2, some (.inr (5, [.ref 1778, .int 0]))),
  (60, some (.inl (.int, 60, .int 0, []))),
  (2, some (.inr (5, [.ref 1776, .int 0]))),
  (60, some (.inl (.int, 60, .int 0, []))),
  (2, some (.inr (5, [.ref 1774, .int 0]))),
  (60, some (.inl (.int, 60, .int 0, []))),
  (2, some (.inr (5, [.ref 1772, .int 0]))),
  (60, some (.inl (.int, 60, .int 0, []))),
  (2, some (.inr (5, [.ref 1770, .int 0]))),
  (60, some (.inl (.int, 60, .int 0, []))),
  (2, some (.inr (5, [.ref 1768, .int 0]))),
  (60, some (.inl (.int, 60, .int 0, []))),
  (2, some (.inr (5, [.ref 1766, .int 0]))),
  (60, some (.inl (.int, 60, .int 0, []))),
  (2, some (.inr (5, [.ref 1764, .int 0]))),
  (60, some (.inl (.int, 60, .int 0, []))),
  (2, some (.inr (5, [.ref 1762, .int 0]))),
  (60, some (.inl (.int, 60, .int 0, []))),
  (2, some (.inr (5, [.ref 1760, .int 0]))),
  (60, some (.inl (.int, 60, .int 0, []))),
  (2, some (.inr (5, [.ref 1758, .int 0]))),
  (60, some (.inl (.int, 60, .int 0, []))),
  (2, some (.inr (5, [.ref 1756, .int 0]))),
  (60, some (.inl (.int, 60, .int 0, []))),
  (2, some (.inr (5, [.ref 1754, .int 0]))),
  (60, some (.inl (.int, 60, .int 0, []))),
  (2, some (.inr (5, [.ref 1752, .int 0])))]
def sb_42 : List am_C := [(60, some (.inl (.int, 60, .int 0, []))),
  (2, some (.inr (5, [.ref 1823, .int 0]))),
  (60, some (.inl (.int, 60, .int 0, []))),
  (2, some (.inr (5, [.ref 1821, .int 0]))),
  (60, some (.inl (.int, 60, .int 0, []))),
  (2, some (.inr (5, [.ref 1819, .int 0]))),
  (60, some (.inl (.int, 60, .int 0, []))),
  (2, some (.inr (5, [.ref 1817, .int 0]))),
  (60, some (.inl (.int, 60, .int 0, []))),
  (2, some (.inr (5, [.ref 1815, .int 0]))),
  (60, some (.inl (.int, 60, .int 0, []))),
  (2, some (.inr (5, [.ref 1813, .int 0]))),
  (60, some (.inl (.int, 60, .int 0, []))),
  (2, some (.inr (5, [.ref 1811, .int 0]))),
  (60, some (.inl (.int, 60, .int 0, []))),
  (2, some (.inr (5, [.ref 1809, .int 0]))),
  (60, some (.inl (.int, 60, .int 0, []))),
  (2, some (.inr (5, [.ref 1807, .int 0]))),
  (60, some (.inl (.int, 60, .int 0, []))),
  (2, some (.inr (5, [.ref 1805, .int 0]))),
  (60, some (.inl (.int, 60, .int 0, []))),
  (2, some (.inr (5, [.ref 1803, .int 0]))),
  (60, some (.inl (.int, 60, .int 0, [])))]
def ss_4 : am_S := ((0, none), 1823, sb_42 ++ (sb_41 ++ (sb_40 ++ (sb_39 ++ (sb_38 ++ (sb_37 ++ (sb_36 ++ (sb_35 ++ (sb_34 ++ (sb_33 ++ (sb_32 ++ (sb_29 ++ (sb_28 ++ (sb_27 ++ (sb_26 ++ (sb_25 ++ (sb_24 ++ (sb_23 ++ (sb_22 ++ (sb_21 ++ (sb_18 ++ (sb_17 ++ (sb_16 ++ (sb_15 ++ (sb_14 ++ (sb_13 ++ (sb_12 ++ (sb_11 ++ (sb_31 ++ (sb_8 ++ (sb_7 ++ (sb_6 ++ (sb_5 ++ (sb_4 ++ (sb_3 ++ (sb_2 ++ (sb_1)))))))))))))))))))))))))))))))))))))
set_option maxRecDepth 1000000 in
theorem kp_3 : am_run at_P at_cl at_ty 2000 11 mt_114 26 [(0, .ref 406), (1, .ref 7), (2, .ref 366)] [] ss_3 = some (none, ss_4, 475, 13906) := am_is_of (by decide +kernel)
theorem kp : ∃ g, am_run at_P at_cl at_ty (2000 + g) 11 mt_114 0 [(0, .ref 406), (1, .ref 7), (2, .ref 366)] [] ss_1 = some (none, ss_4, 1417, 41594) := by
  obtain ⟨g, hg⟩ := am_run_many _ kp_2 kp_3
  have h1 := am_many_le kp_1 g
  obtain ⟨g2, hg2⟩ := am_run_many _ h1 hg
  exact ⟨g + g2, by rw [← Nat.add_assoc]; exact hg2⟩
def sb_43 : List am_C := [(2, some (.inr (5, [.ref 51, .int 0]))),
  (7, some (.inr (4, [.ref 50, .ref 52, .ref 54, .int 0, .int 0, .long 0, .int 0]))),
  (40, some (.inl (.int, 40, .int 0, []))),
  (40, some (.inl (.int, 40, .int 0, []))),
  (2, some (.inr (5, [.ref 47, .int 0]))),
  (40, some (.inl (.int, 40, .int 0, []))),
  (2, some (.inr (5, [.ref 45, .int 0]))),
  (7, some (.inr (4, [.ref 44, .ref 46, .ref 48, .int 0, .int 0, .long 0, .int 0]))),
  (40, some (.inl (.int, 40, .int 0, []))),
  (40, some (.inl (.int, 40, .int 0, []))),
  (2, some (.inr (5, [.ref 41, .int 0]))),
  (40, some (.inl (.int, 40, .int 0, []))),
  (2, some (.inr (5, [.ref 39, .int 0]))),
  (7, some (.inr (4, [.ref 38, .ref 40, .ref 42, .int 0, .int 0, .long 0, .int 0]))),
  (40, some (.inl (.int, 40, .int 0, []))),
  (40, some (.inl (.int, 40, .int 0, []))),
  (2, some (.inr (5, [.ref 35, .int 0]))),
  (40, some (.inl (.int, 40, .int 0, []))),
  (2, some (.inr (5, [.ref 33, .int 0]))),
  (7, some (.inr (4, [.ref 32, .ref 34, .ref 36, .int 0, .int 0, .long 0, .int 0]))),
  (40, some (.inl (.int, 40, .int 0, []))),
  (40, some (.inl (.int, 40, .int 0, []))),
  (2, some (.inr (5, [.ref 29, .int 0]))),
  (40, some (.inl (.int, 40, .int 0, []))),
  (2, some (.inr (5, [.ref 27, .int 0]))),
  (7, some (.inr (4, [.ref 26, .ref 28, .ref 30, .int 0, .int 0, .long 0, .int 0]))),
  (16, some (.inl (.object "EquationProofs$Equation", 16, .null, [(15, .ref 355), (14, .ref 349), (13, .ref 343), (12, .ref 337), (11, .ref 331), (10, .ref 325), (9, .ref 319), (8, .ref 313), (7, .ref 307), (6, .ref 301), (5, .ref 295), (4, .ref 289), (3, .ref 283), (2, .ref 277), (1, .ref 271), (0, .ref 265)]))),
  (40, some (.inl (.object "EquationProofs$Equation", 40, .null, [(39, .ref 259), (38, .ref 253), (37, .ref 247), (36, .ref 241), (35, .ref 235), (34, .ref 229), (33, .ref 223), (32, .ref 217), (31, .ref 211), (30, .ref 205), (29, .ref 199), (28, .ref 193), (27, .ref 187), (26, .ref 181), (25, .ref 175), (24, .ref 169), (23, .ref 163), (22, .ref 157), (21, .ref 151), (20, .ref 145), (19, .ref 139), (18, .ref 133), (17, .ref 127), (16, .ref 121), (15, .ref 115), (14, .ref 109), (13, .ref 103), (12, .ref 97), (11, .ref 91), (10, .ref 85), (9, .ref 79), (8, .ref 73), (7, .ref 67), (6, .ref 61), (5, .ref 55), (4, .ref 49), (3, .ref 43), (2, .ref 37), (1, .ref 31), (0, .ref 25)]))),
  (64, some (.inl (.int, 64, .int 0, []))),
  (16, some (.inl (.int, 16, .int 0, []))),
  (16, some (.inl (.int, 16, .int 0, []))),
  (16, some (.inl (.long, 16, .long 0, []))),
  (5, some (.inr (3, [.ref 19, .ref 20, .ref 21, .ref 22, .int 0]))),
  (64, some (.inl (.int, 64, .int 0, []))),
  (16, some (.inl (.int, 16, .int 0, []))),
  (16, some (.inl (.int, 16, .int 0, []))),
  (16, some (.inl (.long, 16, .long 0, []))),
  (5, some (.inr (3, [.ref 14, .ref 15, .ref 16, .ref 17, .int 0]))),
  (24, some (.inl (.int, 24, .int 0, []))),
  (6, some (.inl (.int, 6, .int 0, []))),
  (6, some (.inl (.int, 6, .int 0, []))),
  (6, some (.inl (.long, 6, .long 0, []))),
  (5, some (.inr (3, [.ref 9, .ref 10, .ref 11, .ref 12, .int 0]))),
  (7, some (.inr (2, [.ref 8, .ref 13, .ref 18, .ref 23, .ref 24, .int 0, .int 0]))),
  (1001, some (.inl (.long, 1001, .long 0, []))),
  (1001, some (.inl (.int, 1001, .int 0, []))),
  (1001, some (.inl (.int, 1001, .int 0, []))),
  (1000, some (.inl (.int, 1000, .int 0, []))),
  (6, some (.inr (1, [.ref 3, .int 0, .ref 4, .ref 5, .ref 6, .int 0]))),
  (9, some (.inr (0, [.ref 2, .ref 7, .ref 361, .ref 363, .ref 366, .ref 372, .ref 406, .ref 1824, .int 0])))]
def sb_44 : List am_C := [(120, some (.inl (.int, 120, .int 0, []))),
  (2, some (.inr (5, [.ref 1825, .int 0]))),
  (60, some (.inl (.int, 60, .int 0, []))),
  (2, some (.inr (5, [.ref 1823, .int 0]))),
  (60, some (.inl (.int, 60, .int 0, []))),
  (2, some (.inr (5, [.ref 1821, .int 0]))),
  (60, some (.inl (.int, 60, .int 0, []))),
  (2, some (.inr (5, [.ref 1819, .int 0]))),
  (60, some (.inl (.int, 60, .int 0, []))),
  (2, some (.inr (5, [.ref 1817, .int 0]))),
  (60, some (.inl (.int, 60, .int 0, []))),
  (2, some (.inr (5, [.ref 1815, .int 0]))),
  (60, some (.inl (.int, 60, .int 0, []))),
  (2, some (.inr (5, [.ref 1813, .int 0]))),
  (60, some (.inl (.int, 60, .int 0, []))),
  (2, some (.inr (5, [.ref 1811, .int 0]))),
  (60, some (.inl (.int, 60, .int 0, []))),
  (2, some (.inr (5, [.ref 1809, .int 0]))),
  (60, some (.inl (.int, 60, .int 0, []))),
  (2, some (.inr (5, [.ref 1807, .int 0]))),
  (60, some (.inl (.int, 60, .int 0, []))),
  (2, some (.inr (5, [.ref 1805, .int 0]))),
  (60, some (.inl (.int, 60, .int 0, []))),
  (2, some (.inr (5, [.ref 1803, .int 0]))),
  (60, some (.inl (.int, 60, .int 0, [])))]
def ss_5 : am_S := ((0, none), 1825, sb_44 ++ (sb_41 ++ (sb_40 ++ (sb_39 ++ (sb_38 ++ (sb_37 ++ (sb_36 ++ (sb_35 ++ (sb_34 ++ (sb_33 ++ (sb_32 ++ (sb_29 ++ (sb_28 ++ (sb_27 ++ (sb_26 ++ (sb_25 ++ (sb_24 ++ (sb_23 ++ (sb_22 ++ (sb_21 ++ (sb_18 ++ (sb_17 ++ (sb_16 ++ (sb_15 ++ (sb_14 ++ (sb_13 ++ (sb_12 ++ (sb_11 ++ (sb_31 ++ (sb_8 ++ (sb_7 ++ (sb_6 ++ (sb_5 ++ (sb_4 ++ (sb_3 ++ (sb_2 ++ (sb_43)))))))))))))))))))))))))))))))))))))
set_option maxRecDepth 1000000 in
theorem ke_3 : am_run at_P at_cl at_ty 2000 12 mt_0 110 [(0, .ref 1)] [.ref 406, .ref 1] ss_4 = some (none, ss_5, 2, 122) := am_is_of (by decide +kernel)
/-- THE CLASS'S CONSTRUCTOR on an empty store -/
theorem kx : ∃ f, am_run at_P at_cl at_ty f 12 mt_0 0 [(0, .ref 1)] [] ss_0 = some (none, ss_5, 1824, 55969) := by
  obtain ⟨g, hg⟩ := kp
  have h3 := am_run_le ke_3 g
  have ho : am_own at_P 114 (.invokespecial 59) [.ref 366, .ref 7, .ref 406, .ref 406, .ref 1] ss_1 = some (mt_114, [.ref 406, .ref 7, .ref 366], [.ref 406, .ref 1]) := rfl
  have h2 : am_one at_P at_cl at_ty (2000 + g) 12 mt_0 107 [(0, .ref 1)] [.ref 366, .ref 7, .ref 406, .ref 406, .ref 1] ss_1 = some (107+3, [(0, .ref 1)], [.ref 406, .ref 1], ss_4, 1417, 41594) := am_one_call (i := 59) (j := 114) rfl rfl rfl ho hg
  have h4 := am_run_one h2 h3
  have h1 := am_many_le (am_many_le ke_1 g) 1
  have h5 := am_run_le h4 2000
  rw [show 2000 + g + 1 + 2000 = 4000 + g + 1 by omega] at h5
  obtain ⟨g2, hg2⟩ := am_run_many _ h1 h5
  exact ⟨_, hg2⟩
def sb_45 : List am_C := [(115, some (.inr (13, [.int 0, .int 0, .null, .int 0, .null, .null, .null, .null, .int 0, .null, .null, .null, .null, .int 0, .null, .null, .null, .null, .null, .int 0, .null, .null, .null, .null, .null, .null, .null, .null, .int 0, .int 0, .int 0, .int 0, .int 0, .long 0, .int 0, .int 0, .int 0, .null, .null, .int 0, .int 0, .int 0, .null, .int 0, .int 0, .null, .null, .int 0, .null, .null, .int 0, .int 0, .null, .int 0, .null, .int 0, .int 0, .int 0, .null, .int 0, .null, .null, .null, .null, .null, .null, .null, .int 0, .null, .null, .null, .null, .int 0, .null, .int 0, .int 0, .int 0, .int 0, .null, .null, .null, .null, .null, .null, .null, .null, .null, .null, .null, .int 0, .null, .null, .null, .int 0, .null, .int 0, .null, .int 0, .null, .int 0, .null, .int 0, .null, .null, .null, .null, .null, .null, .null, .null, .null, .null, .int 0, .int 0, .int 0]))),
  (120, some (.inl (.int, 120, .int 0, []))),
  (2, some (.inr (5, [.ref 1825, .int 0]))),
  (60, some (.inl (.int, 60, .int 0, []))),
  (2, some (.inr (5, [.ref 1823, .int 0]))),
  (60, some (.inl (.int, 60, .int 0, []))),
  (2, some (.inr (5, [.ref 1821, .int 0]))),
  (60, some (.inl (.int, 60, .int 0, []))),
  (2, some (.inr (5, [.ref 1819, .int 0]))),
  (60, some (.inl (.int, 60, .int 0, []))),
  (2, some (.inr (5, [.ref 1817, .int 0]))),
  (60, some (.inl (.int, 60, .int 0, []))),
  (2, some (.inr (5, [.ref 1815, .int 0]))),
  (60, some (.inl (.int, 60, .int 0, []))),
  (2, some (.inr (5, [.ref 1813, .int 0]))),
  (60, some (.inl (.int, 60, .int 0, []))),
  (2, some (.inr (5, [.ref 1811, .int 0]))),
  (60, some (.inl (.int, 60, .int 0, []))),
  (2, some (.inr (5, [.ref 1809, .int 0]))),
  (60, some (.inl (.int, 60, .int 0, []))),
  (2, some (.inr (5, [.ref 1807, .int 0]))),
  (60, some (.inl (.int, 60, .int 0, []))),
  (2, some (.inr (5, [.ref 1805, .int 0]))),
  (60, some (.inl (.int, 60, .int 0, []))),
  (2, some (.inr (5, [.ref 1803, .int 0]))),
  (60, some (.inl (.int, 60, .int 0, [])))]
def ss_6 : am_S := ((0, none), 1826, sb_45 ++ (sb_41 ++ (sb_40 ++ (sb_39 ++ (sb_38 ++ (sb_37 ++ (sb_36 ++ (sb_35 ++ (sb_34 ++ (sb_33 ++ (sb_32 ++ (sb_29 ++ (sb_28 ++ (sb_27 ++ (sb_26 ++ (sb_25 ++ (sb_24 ++ (sb_23 ++ (sb_22 ++ (sb_21 ++ (sb_18 ++ (sb_17 ++ (sb_16 ++ (sb_15 ++ (sb_14 ++ (sb_13 ++ (sb_12 ++ (sb_11 ++ (sb_31 ++ (sb_8 ++ (sb_7 ++ (sb_6 ++ (sb_5 ++ (sb_4 ++ (sb_3 ++ (sb_2 ++ (sb_43)))))))))))))))))))))))))))))))))))))
def sb_46 : List am_C := [(48, some (.inl (.int, 48, .int 0, []))),
  (48, some (.inl (.long, 48, .long 0, []))),
  (1000, some (.inl (.byte, 1000, .int 0, []))),
  (16, some (.inl (.int, 16, .int 0, []))),
  (96, some (.inl (.int, 96, .int 0, []))),
  (16, some (.inl (.int, 16, .int 0, []))),
  (16, some (.inl (.int, 16, .int 0, []))),
  (32, some (.inl (.int, 32, .int 0, []))),
  (1536, some (.inl (.int, 1536, .int 0, []))),
  (16, some (.inl (.long, 16, .long 0, []))),
  (40, some (.inl (.int, 40, .int 0, []))),
  (1920, some (.inl (.int, 1920, .int 0, []))),
  (40, some (.inl (.int, 40, .int 0, []))),
  (1920, some (.inl (.int, 1920, .int 0, []))),
  (40, some (.inl (.int, 40, .int 0, []))),
  (16, some (.inl (.int, 16, .int 0, []))),
  (64, some (.inl (.int, 64, .int 0, []))),
  (16, some (.inl (.int, 16, .int 0, []))),
  (16, some (.inl (.long, 16, .long 0, []))),
  (48, some (.inl (.int, 48, .int 0, []))),
  (16, some (.inl (.int, 16, .int 0, []))),
  (16, some (.inl (.int, 16, .int 0, []))),
  (16, some (.inl (.long, 16, .long 0, []))),
  (6, some (.inl (.long, 6, .long 0, []))),
  (115, some (.inr (13, [.int 0, .int 0, .ref 1827, .int 0, .ref 1828, .ref 1829, .ref 1830, .ref 1831, .int 0, .ref 1832, .ref 1833, .ref 1834, .ref 1835, .int 0, .ref 1836, .ref 1837, .ref 1838, .ref 1839, .ref 1840, .int 0, .ref 1841, .ref 1842, .ref 1843, .ref 1844, .ref 1845, .ref 1846, .ref 1847, .ref 1848, .int 0, .int 0, .int 0, .int 0, .int 0, .long 0, .int 0, .int 0, .int 0, .ref 1849, .ref 1850, .int 0, .int 0, .int 0, .ref 1851, .int 0, .int 0, .ref 1852, .ref 1853, .int 0, .ref 1854, .ref 1855, .int 0, .int 0, .ref 1856, .int 0, .ref 1857, .int 0, .int 0, .int 0, .ref 1858, .int 0, .ref 1859, .ref 1860, .ref 1861, .ref 1862, .ref 1863, .ref 1864, .ref 1865, .int (-1), .ref 1866, .ref 1867, .ref 1868, .ref 1869, .int 0, .ref 1870, .int (-1), .int 0, .int 0, .int 0, .ref 1871, .ref 1872, .ref 1873, .ref 1874, .ref 1875, .ref 1876, .ref 1877, .ref 1878, .ref 1879, .ref 1880, .ref 1881, .int 0, .ref 1882, .ref 1883, .ref 1884, .int 0, .ref 1885, .int 0, .ref 1886, .int (-1), .ref 1887, .int 0, .ref 1888, .int 0, .ref 1889, .ref 1890, .ref 1891, .ref 1892, .ref 1893, .ref 1894, .ref 1895, .ref 1896, .ref 1897, .ref 1898, .int 0, .int 0, .int 0]))),
  (120, some (.inl (.int, 120, .int 0, []))),
  (2, some (.inr (5, [.ref 1825, .int 0]))),
  (60, some (.inl (.int, 60, .int 0, []))),
  (2, some (.inr (5, [.ref 1823, .int 0]))),
  (60, some (.inl (.int, 60, .int 0, []))),
  (2, some (.inr (5, [.ref 1821, .int 0]))),
  (60, some (.inl (.int, 60, .int 0, []))),
  (2, some (.inr (5, [.ref 1819, .int 0]))),
  (60, some (.inl (.int, 60, .int 0, []))),
  (2, some (.inr (5, [.ref 1817, .int 0]))),
  (60, some (.inl (.int, 60, .int 0, []))),
  (2, some (.inr (5, [.ref 1815, .int 0]))),
  (60, some (.inl (.int, 60, .int 0, []))),
  (2, some (.inr (5, [.ref 1813, .int 0]))),
  (60, some (.inl (.int, 60, .int 0, []))),
  (2, some (.inr (5, [.ref 1811, .int 0]))),
  (60, some (.inl (.int, 60, .int 0, []))),
  (2, some (.inr (5, [.ref 1809, .int 0]))),
  (60, some (.inl (.int, 60, .int 0, []))),
  (2, some (.inr (5, [.ref 1807, .int 0]))),
  (60, some (.inl (.int, 60, .int 0, []))),
  (2, some (.inr (5, [.ref 1805, .int 0]))),
  (60, some (.inl (.int, 60, .int 0, []))),
  (2, some (.inr (5, [.ref 1803, .int 0]))),
  (60, some (.inl (.int, 60, .int 0, [])))]
def sb_47 : List am_C := [(40, some (.inl (.boolean, 40, .int 0, []))),
  (13, some (.inl (.int, 13, .int 0, []))),
  (640, some (.inl (.int, 640, .int 0, []))),
  (40960, some (.inl (.int, 40960, .int 0, []))),
  (40, some (.inl (.int, 40, .int 0, []))),
  (40, some (.inl (.int, 40, .int 0, []))),
  (40, some (.inl (.long, 40, .long 0, []))),
  (40, some (.inl (.int, 40, .int 0, []))),
  (80, some (.inl (.int, 80, .int 0, []))),
  (5120, some (.inl (.int, 5120, .int 0, []))),
  (64, some (.inl (.int, 64, .int 0, []))),
  (8, some (.inl (.int, 8, .int 0, []))),
  (60, some (.inl (.int, 60, .int 0, []))),
  (24, some (.inl (.int, 24, .int 0, []))),
  (128, some (.inl (.int, 128, .int 0, []))),
  (60, some (.inl (.boolean, 60, .int 0, []))),
  (60, some (.inl (.int, 60, .int 0, []))),
  (640, some (.inl (.int, 640, .int 0, []))),
  (40960, some (.inl (.int, 40960, .int 0, []))),
  (40, some (.inl (.int, 40, .int 0, []))),
  (1, some (.inl (.int, 1, .int 0, []))),
  (40, some (.inl (.int, 40, .int 0, []))),
  (40, some (.inl (.long, 40, .long 0, []))),
  (40, some (.inl (.int, 40, .int 0, []))),
  (80, some (.inl (.int, 80, .int 0, []))),
  (5120, some (.inl (.int, 5120, .int 0, []))),
  (40, some (.inl (.boolean, 40, .int 0, []))),
  (13, some (.inl (.int, 13, .int 0, []))),
  (400, some (.inl (.int, 400, .int 0, []))),
  (400, some (.inl (.int, 400, .int 0, []))),
  (6, some (.inl (.int, 6, .int 0, []))),
  (42, some (.inl (.int, 42, .int 0, []))),
  (6, some (.inl (.int, 6, .int 0, []))),
  (64, some (.inl (.int, 64, .int 0, []))),
  (48, some (.inl (.long, 48, .long 0, []))),
  (6, some (.inl (.int, 6, .int 0, []))),
  (12006, some (.inl (.int, 12006, .int 0, []))),
  (84042, some (.inl (.int, 84042, .int 0, []))),
  (400, some (.inl (.boolean, 400, .int 0, []))),
  (400, some (.inl (.int, 400, .int 0, []))),
  (8000, some (.inl (.byte, 8000, .int 0, []))),
  (400, some (.inl (.int, 400, .int 0, []))),
  (12000, some (.inl (.int, 12000, .int 0, []))),
  (48, some (.inl (.int, 48, .int 0, []))),
  (64, some (.inl (.int, 64, .int 0, []))),
  (64, some (.inl (.int, 64, .int 0, []))),
  (64, some (.inl (.int, 64, .int 0, []))),
  (48, some (.inl (.int, 48, .int 0, [])))]
def ss_7 : am_S := ((0, none), 1898, sb_47 ++ (sb_46 ++ (sb_41 ++ (sb_40 ++ (sb_39 ++ (sb_38 ++ (sb_37 ++ (sb_36 ++ (sb_35 ++ (sb_34 ++ (sb_33 ++ (sb_32 ++ (sb_29 ++ (sb_28 ++ (sb_27 ++ (sb_26 ++ (sb_25 ++ (sb_24 ++ (sb_23 ++ (sb_22 ++ (sb_21 ++ (sb_18 ++ (sb_17 ++ (sb_16 ++ (sb_15 ++ (sb_14 ++ (sb_13 ++ (sb_12 ++ (sb_11 ++ (sb_31 ++ (sb_8 ++ (sb_7 ++ (sb_6 ++ (sb_5 ++ (sb_4 ++ (sb_3 ++ (sb_2 ++ (sb_43))))))))))))))))))))))))))))))))))))))
set_option maxRecDepth 1000000 in
/-- THE REFERENCE'S CONSTRUCTOR behind it -/
theorem km : am_run at_P at_cl at_ty 2000 12 mt_152 0 [(0, .ref 1826)] [] ss_6 = some (none, ss_7, 72, 219937) := am_is_of (by decide +kernel)
end
section
-- ===== PART A: goes FIRST, ahead of the names: the tables' words, and 'selects' of the private methods out of them =====
/-- a private method of a class that the tables say can be made, by its rows of tables_1 -/
def lw_okq (q : MethodName × Nat) : Prop := (q.1.cls ≠ "java/lang/invoke/MethodHandle" ∧ q.1.cls ≠ "java/lang/invoke/VarHandle") ∧ Cond.instantiable q.1.cls q.2 ∈ tables_1 ∧ Cond.privateMethod q.1 ∈ tables_1 ∧ Cond.instanceMethod q.1 ∈ tables_1
theorem lw_p0 : lw_okq (⟨"EquationProofs$Tape", "behindName", "(I)I"⟩, 6) := ⟨⟨by decide +kernel, by decide +kernel⟩, List.mem_of_getElem? (i := 31) (by decide +kernel), List.mem_of_getElem? (i := 563) (by decide +kernel), List.mem_of_getElem? (i := 564) (by decide +kernel)⟩
theorem lw_p1 : lw_okq (⟨"EquationProofs$Tape", "nameOf", "(II)J"⟩, 6) := ⟨⟨by decide +kernel, by decide +kernel⟩, List.mem_of_getElem? (i := 31) (by decide +kernel), List.mem_of_getElem? (i := 567) (by decide +kernel), List.mem_of_getElem? (i := 568) (by decide +kernel)⟩
theorem lw_p2 : lw_okq (⟨"EquationProofs$Tape", "addToken", "(IIJ)V"⟩, 6) := ⟨⟨by decide +kernel, by decide +kernel⟩, List.mem_of_getElem? (i := 31) (by decide +kernel), List.mem_of_getElem? (i := 581) (by decide +kernel), List.mem_of_getElem? (i := 582) (by decide +kernel)⟩
theorem lw_p3 : lw_okq (⟨"EquationProofs$Reader", "token", "()I"⟩, 10) := ⟨⟨by decide +kernel, by decide +kernel⟩, List.mem_of_getElem? (i := 231) (by decide +kernel), List.mem_of_getElem? (i := 585) (by decide +kernel), List.mem_of_getElem? (i := 586) (by decide +kernel)⟩
theorem lw_p4 : lw_okq (⟨"EquationProofs$Reader", "readData", "()Z"⟩, 10) := ⟨⟨by decide +kernel, by decide +kernel⟩, List.mem_of_getElem? (i := 231) (by decide +kernel), List.mem_of_getElem? (i := 589) (by decide +kernel), List.mem_of_getElem? (i := 590) (by decide +kernel)⟩
theorem lw_p5 : lw_okq (⟨"EquationProofs$Reader", "tellName", "(LEquationProofs$Symbols;II)Z"⟩, 10) := ⟨⟨by decide +kernel, by decide +kernel⟩, List.mem_of_getElem? (i := 231) (by decide +kernel), List.mem_of_getElem? (i := 593) (by decide +kernel), List.mem_of_getElem? (i := 594) (by decide +kernel)⟩
theorem lw_p6 : lw_okq (⟨"EquationProofs$Reader", "misplaced", "()Z"⟩, 10) := ⟨⟨by decide +kernel, by decide +kernel⟩, List.mem_of_getElem? (i := 231) (by decide +kernel), List.mem_of_getElem? (i := 597) (by decide +kernel), List.mem_of_getElem? (i := 598) (by decide +kernel)⟩
theorem lw_p7 : lw_okq (⟨"EquationProofs$Reader", "fails", "(I)Z"⟩, 10) := ⟨⟨by decide +kernel, by decide +kernel⟩, List.mem_of_getElem? (i := 231) (by decide +kernel), List.mem_of_getElem? (i := 601) (by decide +kernel), List.mem_of_getElem? (i := 602) (by decide +kernel)⟩
theorem lw_p8 : lw_okq (⟨"EquationProofs$Reader", "name", "()J"⟩, 10) := ⟨⟨by decide +kernel, by decide +kernel⟩, List.mem_of_getElem? (i := 231) (by decide +kernel), List.mem_of_getElem? (i := 605) (by decide +kernel), List.mem_of_getElem? (i := 606) (by decide +kernel)⟩
theorem lw_p9 : lw_okq (⟨"EquationProofs$Reader", "take", "(I)Z"⟩, 10) := ⟨⟨by decide +kernel, by decide +kernel⟩, List.mem_of_getElem? (i := 231) (by decide +kernel), List.mem_of_getElem? (i := 621) (by decide +kernel), List.mem_of_getElem? (i := 622) (by decide +kernel)⟩
theorem lw_p10 : lw_okq (⟨"EquationProofs$Reader", "readConstructor", "(I)Z"⟩, 10) := ⟨⟨by decide +kernel, by decide +kernel⟩, List.mem_of_getElem? (i := 231) (by decide +kernel), List.mem_of_getElem? (i := 625) (by decide +kernel), List.mem_of_getElem? (i := 626) (by decide +kernel)⟩
theorem lw_p11 : lw_okq (⟨"EquationProofs$Reader", "readFunction", "()Z"⟩, 10) := ⟨⟨by decide +kernel, by decide +kernel⟩, List.mem_of_getElem? (i := 231) (by decide +kernel), List.mem_of_getElem? (i := 633) (by decide +kernel), List.mem_of_getElem? (i := 634) (by decide +kernel)⟩
theorem lw_p12 : lw_okq (⟨"EquationProofs$Reader", "readResult", "(I)Z"⟩, 10) := ⟨⟨by decide +kernel, by decide +kernel⟩, List.mem_of_getElem? (i := 231) (by decide +kernel), List.mem_of_getElem? (i := 637) (by decide +kernel), List.mem_of_getElem? (i := 638) (by decide +kernel)⟩
theorem lw_p13 : lw_okq (⟨"EquationProofs$Reader", "readRule", "()Z"⟩, 10) := ⟨⟨by decide +kernel, by decide +kernel⟩, List.mem_of_getElem? (i := 231) (by decide +kernel), List.mem_of_getElem? (i := 641) (by decide +kernel), List.mem_of_getElem? (i := 642) (by decide +kernel)⟩
theorem lw_p14 : lw_okq (⟨"EquationProofs$Reader", "startEquation", "(LEquationProofs$Equation;I)V"⟩, 10) := ⟨⟨by decide +kernel, by decide +kernel⟩, List.mem_of_getElem? (i := 231) (by decide +kernel), List.mem_of_getElem? (i := 645) (by decide +kernel), List.mem_of_getElem? (i := 646) (by decide +kernel)⟩
theorem lw_p15 : lw_okq (⟨"EquationProofs$Reader", "startTerm", "(LEquationProofs$Term;)V"⟩, 10) := ⟨⟨by decide +kernel, by decide +kernel⟩, List.mem_of_getElem? (i := 231) (by decide +kernel), List.mem_of_getElem? (i := 649) (by decide +kernel), List.mem_of_getElem? (i := 650) (by decide +kernel)⟩
def lw_privs_1 : List (MethodName × Nat) := [(⟨"EquationProofs$Tape", "behindName", "(I)I"⟩, 6), (⟨"EquationProofs$Tape", "nameOf", "(II)J"⟩, 6), (⟨"EquationProofs$Tape", "addToken", "(IIJ)V"⟩, 6), (⟨"EquationProofs$Reader", "token", "()I"⟩, 10), (⟨"EquationProofs$Reader", "readData", "()Z"⟩, 10), (⟨"EquationProofs$Reader", "tellName", "(LEquationProofs$Symbols;II)Z"⟩, 10), (⟨"EquationProofs$Reader", "misplaced", "()Z"⟩, 10), (⟨"EquationProofs$Reader", "fails", "(I)Z"⟩, 10), (⟨"EquationProofs$Reader", "name", "()J"⟩, 10), (⟨"EquationProofs$Reader", "take", "(I)Z"⟩, 10), (⟨"EquationProofs$Reader", "readConstructor", "(I)Z"⟩, 10), (⟨"EquationProofs$Reader", "readFunction", "()Z"⟩, 10), (⟨"EquationProofs$Reader", "readResult", "(I)Z"⟩, 10), (⟨"EquationProofs$Reader", "readRule", "()Z"⟩, 10), (⟨"EquationProofs$Reader", "startEquation", "(LEquationProofs$Equation;I)V"⟩, 10), (⟨"EquationProofs$Reader", "startTerm", "(LEquationProofs$Term;)V"⟩, 10)]
theorem lw_r1 : ∀ q ∈ lw_privs_1, lw_okq q := List.forall_mem_cons.mpr ⟨lw_p0, List.forall_mem_cons.mpr ⟨lw_p1, List.forall_mem_cons.mpr ⟨lw_p2, List.forall_mem_cons.mpr ⟨lw_p3, List.forall_mem_cons.mpr ⟨lw_p4, List.forall_mem_cons.mpr ⟨lw_p5, List.forall_mem_cons.mpr ⟨lw_p6, List.forall_mem_cons.mpr ⟨lw_p7, List.forall_mem_cons.mpr ⟨lw_p8, List.forall_mem_cons.mpr ⟨lw_p9, List.forall_mem_cons.mpr ⟨lw_p10, List.forall_mem_cons.mpr ⟨lw_p11, List.forall_mem_cons.mpr ⟨lw_p12, List.forall_mem_cons.mpr ⟨lw_p13, List.forall_mem_cons.mpr ⟨lw_p14, List.forall_mem_cons.mpr ⟨lw_p15, fun _ h => absurd h List.not_mem_nil⟩⟩⟩⟩⟩⟩⟩⟩⟩⟩⟩⟩⟩⟩⟩⟩
theorem lw_p16 : lw_okq (⟨"EquationProofs$Reader", "addName", "(I)Z"⟩, 10) := ⟨⟨by decide +kernel, by decide +kernel⟩, List.mem_of_getElem? (i := 231) (by decide +kernel), List.mem_of_getElem? (i := 656) (by decide +kernel), List.mem_of_getElem? (i := 657) (by decide +kernel)⟩
theorem lw_p17 : lw_okq (⟨"EquationProofs$Reader", "readPattern", "(II)Z"⟩, 10) := ⟨⟨by decide +kernel, by decide +kernel⟩, List.mem_of_getElem? (i := 231) (by decide +kernel), List.mem_of_getElem? (i := 668) (by decide +kernel), List.mem_of_getElem? (i := 669) (by decide +kernel)⟩
theorem lw_p18 : lw_okq (⟨"EquationProofs$Reader", "readPatternVariable", "(I)Z"⟩, 10) := ⟨⟨by decide +kernel, by decide +kernel⟩, List.mem_of_getElem? (i := 231) (by decide +kernel), List.mem_of_getElem? (i := 672) (by decide +kernel), List.mem_of_getElem? (i := 673) (by decide +kernel)⟩
theorem lw_p19 : lw_okq (⟨"EquationProofs$Reader", "findVariable", "()I"⟩, 10) := ⟨⟨by decide +kernel, by decide +kernel⟩, List.mem_of_getElem? (i := 231) (by decide +kernel), List.mem_of_getElem? (i := 676) (by decide +kernel), List.mem_of_getElem? (i := 677) (by decide +kernel)⟩
theorem lw_p20 : lw_okq (⟨"EquationProofs$Reader", "tellVariable", "(I)I"⟩, 10) := ⟨⟨by decide +kernel, by decide +kernel⟩, List.mem_of_getElem? (i := 231) (by decide +kernel), List.mem_of_getElem? (i := 680) (by decide +kernel), List.mem_of_getElem? (i := 681) (by decide +kernel)⟩
theorem lw_p21 : lw_okq (⟨"EquationProofs$Reader", "readPatternConstructor", "(IIZ)Z"⟩, 10) := ⟨⟨by decide +kernel, by decide +kernel⟩, List.mem_of_getElem? (i := 231) (by decide +kernel), List.mem_of_getElem? (i := 684) (by decide +kernel), List.mem_of_getElem? (i := 685) (by decide +kernel)⟩
theorem lw_p22 : lw_okq (⟨"EquationProofs$Reader", "readTerm", "(IIZ)Z"⟩, 10) := ⟨⟨by decide +kernel, by decide +kernel⟩, List.mem_of_getElem? (i := 231) (by decide +kernel), List.mem_of_getElem? (i := 693) (by decide +kernel), List.mem_of_getElem? (i := 694) (by decide +kernel)⟩
theorem lw_p23 : lw_okq (⟨"EquationProofs$Reader", "readVariable", "(I)Z"⟩, 10) := ⟨⟨by decide +kernel, by decide +kernel⟩, List.mem_of_getElem? (i := 231) (by decide +kernel), List.mem_of_getElem? (i := 697) (by decide +kernel), List.mem_of_getElem? (i := 698) (by decide +kernel)⟩
theorem lw_p24 : lw_okq (⟨"EquationProofs$Reader", "readApplied", "(IIIIZ)Z"⟩, 10) := ⟨⟨by decide +kernel, by decide +kernel⟩, List.mem_of_getElem? (i := 231) (by decide +kernel), List.mem_of_getElem? (i := 701) (by decide +kernel), List.mem_of_getElem? (i := 702) (by decide +kernel)⟩
theorem lw_p25 : lw_okq (⟨"EquationProofs$Reader", "readLaw", "()Z"⟩, 10) := ⟨⟨by decide +kernel, by decide +kernel⟩, List.mem_of_getElem? (i := 231) (by decide +kernel), List.mem_of_getElem? (i := 705) (by decide +kernel), List.mem_of_getElem? (i := 706) (by decide +kernel)⟩
theorem lw_p26 : lw_okq (⟨"EquationProofs$Rewriter", "matchRule", "(LEquationProofs$Term;LEquationProofs$Term;I)I"⟩, 7) := ⟨⟨by decide +kernel, by decide +kernel⟩, List.mem_of_getElem? (i := 290) (by decide +kernel), List.mem_of_getElem? (i := 773) (by decide +kernel), List.mem_of_getElem? (i := 774) (by decide +kernel)⟩
theorem lw_p27 : lw_okq (⟨"EquationProofs$Printer", "putByte", "(I)V"⟩, 4) := ⟨⟨by decide +kernel, by decide +kernel⟩, List.mem_of_getElem? (i := 269) (by decide +kernel), List.mem_of_getElem? (i := 803) (by decide +kernel), List.mem_of_getElem? (i := 804) (by decide +kernel)⟩
theorem lw_p28 : lw_okq (⟨"EquationProofs$Printer", "putNameOf", "(IJ)V"⟩, 4) := ⟨⟨by decide +kernel, by decide +kernel⟩, List.mem_of_getElem? (i := 269) (by decide +kernel), List.mem_of_getElem? (i := 807) (by decide +kernel), List.mem_of_getElem? (i := 808) (by decide +kernel)⟩
theorem lw_p29 : lw_okq (⟨"EquationProofs$Printer", "putName", "(J)V"⟩, 4) := ⟨⟨by decide +kernel, by decide +kernel⟩, List.mem_of_getElem? (i := 269) (by decide +kernel), List.mem_of_getElem? (i := 813) (by decide +kernel), List.mem_of_getElem? (i := 814) (by decide +kernel)⟩
theorem lw_p30 : lw_okq (⟨"EquationProofs$Printer", "closeAll", "(I)I"⟩, 4) := ⟨⟨by decide +kernel, by decide +kernel⟩, List.mem_of_getElem? (i := 269) (by decide +kernel), List.mem_of_getElem? (i := 818) (by decide +kernel), List.mem_of_getElem? (i := 819) (by decide +kernel)⟩
theorem lw_p31 : lw_okq (⟨"EquationProofs$Trial", "countValues", "(I)V"⟩, 11) := ⟨⟨by decide +kernel, by decide +kernel⟩, List.mem_of_getElem? (i := 324) (by decide +kernel), List.mem_of_getElem? (i := 834) (by decide +kernel), List.mem_of_getElem? (i := 835) (by decide +kernel)⟩
def lw_privs_2 : List (MethodName × Nat) := [(⟨"EquationProofs$Reader", "addName", "(I)Z"⟩, 10), (⟨"EquationProofs$Reader", "readPattern", "(II)Z"⟩, 10), (⟨"EquationProofs$Reader", "readPatternVariable", "(I)Z"⟩, 10), (⟨"EquationProofs$Reader", "findVariable", "()I"⟩, 10), (⟨"EquationProofs$Reader", "tellVariable", "(I)I"⟩, 10), (⟨"EquationProofs$Reader", "readPatternConstructor", "(IIZ)Z"⟩, 10), (⟨"EquationProofs$Reader", "readTerm", "(IIZ)Z"⟩, 10), (⟨"EquationProofs$Reader", "readVariable", "(I)Z"⟩, 10), (⟨"EquationProofs$Reader", "readApplied", "(IIIIZ)Z"⟩, 10), (⟨"EquationProofs$Reader", "readLaw", "()Z"⟩, 10), (⟨"EquationProofs$Rewriter", "matchRule", "(LEquationProofs$Term;LEquationProofs$Term;I)I"⟩, 7), (⟨"EquationProofs$Printer", "putByte", "(I)V"⟩, 4), (⟨"EquationProofs$Printer", "putNameOf", "(IJ)V"⟩, 4), (⟨"EquationProofs$Printer", "putName", "(J)V"⟩, 4), (⟨"EquationProofs$Printer", "closeAll", "(I)I"⟩, 4), (⟨"EquationProofs$Trial", "countValues", "(I)V"⟩, 11)]
theorem lw_r2 : ∀ q ∈ lw_privs_2, lw_okq q := List.forall_mem_cons.mpr ⟨lw_p16, List.forall_mem_cons.mpr ⟨lw_p17, List.forall_mem_cons.mpr ⟨lw_p18, List.forall_mem_cons.mpr ⟨lw_p19, List.forall_mem_cons.mpr ⟨lw_p20, List.forall_mem_cons.mpr ⟨lw_p21, List.forall_mem_cons.mpr ⟨lw_p22, List.forall_mem_cons.mpr ⟨lw_p23, List.forall_mem_cons.mpr ⟨lw_p24, List.forall_mem_cons.mpr ⟨lw_p25, List.forall_mem_cons.mpr ⟨lw_p26, List.forall_mem_cons.mpr ⟨lw_p27, List.forall_mem_cons.mpr ⟨lw_p28, List.forall_mem_cons.mpr ⟨lw_p29, List.forall_mem_cons.mpr ⟨lw_p30, List.forall_mem_cons.mpr ⟨lw_p31, fun _ h => absurd h List.not_mem_nil⟩⟩⟩⟩⟩⟩⟩⟩⟩⟩⟩⟩⟩⟩⟩⟩
theorem lw_p32 : lw_okq (⟨"EquationProofs$Trial", "countTuples", "(II)I"⟩, 11) := ⟨⟨by decide +kernel, by decide +kernel⟩, List.mem_of_getElem? (i := 324) (by decide +kernel), List.mem_of_getElem? (i := 838) (by decide +kernel), List.mem_of_getElem? (i := 839) (by decide +kernel)⟩
theorem lw_p33 : lw_okq (⟨"EquationProofs$Trial", "valuesOf", "(II)I"⟩, 11) := ⟨⟨by decide +kernel, by decide +kernel⟩, List.mem_of_getElem? (i := 324) (by decide +kernel), List.mem_of_getElem? (i := 844) (by decide +kernel), List.mem_of_getElem? (i := 845) (by decide +kernel)⟩
theorem lw_p34 : lw_okq (⟨"EquationProofs$Trial", "tuplesOf", "(III)I"⟩, 11) := ⟨⟨by decide +kernel, by decide +kernel⟩, List.mem_of_getElem? (i := 324) (by decide +kernel), List.mem_of_getElem? (i := 848) (by decide +kernel), List.mem_of_getElem? (i := 849) (by decide +kernel)⟩
theorem lw_p35 : lw_okq (⟨"EquationProofs$Trial", "countRows", "(LEquationProofs$Equation;I)I"⟩, 11) := ⟨⟨by decide +kernel, by decide +kernel⟩, List.mem_of_getElem? (i := 324) (by decide +kernel), List.mem_of_getElem? (i := 852) (by decide +kernel), List.mem_of_getElem? (i := 853) (by decide +kernel)⟩
theorem lw_p36 : lw_okq (⟨"EquationProofs$Trial", "tryRow", "(LEquationProofs$Equation;I)I"⟩, 11) := ⟨⟨by decide +kernel, by decide +kernel⟩, List.mem_of_getElem? (i := 324) (by decide +kernel), List.mem_of_getElem? (i := 856) (by decide +kernel), List.mem_of_getElem? (i := 857) (by decide +kernel)⟩
theorem lw_p37 : lw_okq (⟨"EquationProofs$Trial", "setValues", "(LEquationProofs$Equation;I)V"⟩, 11) := ⟨⟨by decide +kernel, by decide +kernel⟩, List.mem_of_getElem? (i := 324) (by decide +kernel), List.mem_of_getElem? (i := 860) (by decide +kernel), List.mem_of_getElem? (i := 861) (by decide +kernel)⟩
theorem lw_p38 : lw_okq (⟨"EquationProofs$Trial", "putValue", "(IIILEquationProofs$Term;)V"⟩, 11) := ⟨⟨by decide +kernel, by decide +kernel⟩, List.mem_of_getElem? (i := 324) (by decide +kernel), List.mem_of_getElem? (i := 865) (by decide +kernel), List.mem_of_getElem? (i := 866) (by decide +kernel)⟩
theorem lw_p39 : lw_okq (⟨"EquationProofs$Trial", "putArguments", "(IIILEquationProofs$Term;)V"⟩, 11) := ⟨⟨by decide +kernel, by decide +kernel⟩, List.mem_of_getElem? (i := 324) (by decide +kernel), List.mem_of_getElem? (i := 871) (by decide +kernel), List.mem_of_getElem? (i := 872) (by decide +kernel)⟩
theorem lw_p40 : lw_okq (⟨"EquationProofs$Trial", "fill", "(LEquationProofs$Term;LEquationProofs$Term;)V"⟩, 11) := ⟨⟨by decide +kernel, by decide +kernel⟩, List.mem_of_getElem? (i := 324) (by decide +kernel), List.mem_of_getElem? (i := 875) (by decide +kernel), List.mem_of_getElem? (i := 876) (by decide +kernel)⟩
theorem lw_p41 : lw_okq (⟨"EquationProofs$Trial", "tellRow", "(LEquationProofs$Equation;)V"⟩, 11) := ⟨⟨by decide +kernel, by decide +kernel⟩, List.mem_of_getElem? (i := 324) (by decide +kernel), List.mem_of_getElem? (i := 891) (by decide +kernel), List.mem_of_getElem? (i := 892) (by decide +kernel)⟩
theorem lw_p42 : lw_okq (⟨"EquationProofs", "refusalAt", "(II)I"⟩, 9) := ⟨⟨by decide +kernel, by decide +kernel⟩, List.mem_of_getElem? (i := 23) (by decide +kernel), List.mem_of_getElem? (i := 914) (by decide +kernel), List.mem_of_getElem? (i := 915) (by decide +kernel)⟩
theorem lw_p43 : lw_okq (⟨"EquationProofs$Prover", "sideOf", "(I)LEquationProofs$Term;"⟩, 19) := ⟨⟨by decide +kernel, by decide +kernel⟩, List.mem_of_getElem? (i := 369) (by decide +kernel), List.mem_of_getElem? (i := 922) (by decide +kernel), List.mem_of_getElem? (i := 923) (by decide +kernel)⟩
theorem lw_p44 : lw_okq (⟨"EquationProofs$Prover", "changeSide", "(LEquationProofs$Term;)I"⟩, 19) := ⟨⟨by decide +kernel, by decide +kernel⟩, List.mem_of_getElem? (i := 369) (by decide +kernel), List.mem_of_getElem? (i := 935) (by decide +kernel), List.mem_of_getElem? (i := 936) (by decide +kernel)⟩
theorem lw_p45 : lw_okq (⟨"EquationProofs$Prover", "isAllowed", "(LEquationProofs$Term;)Z"⟩, 19) := ⟨⟨by decide +kernel, by decide +kernel⟩, List.mem_of_getElem? (i := 369) (by decide +kernel), List.mem_of_getElem? (i := 963) (by decide +kernel), List.mem_of_getElem? (i := 964) (by decide +kernel)⟩
theorem lw_p46 : lw_okq (⟨"EquationProofs$Prover", "isSure", "(LEquationProofs$Term;I)Z"⟩, 19) := ⟨⟨by decide +kernel, by decide +kernel⟩, List.mem_of_getElem? (i := 369) (by decide +kernel), List.mem_of_getElem? (i := 968) (by decide +kernel), List.mem_of_getElem? (i := 969) (by decide +kernel)⟩
theorem lw_p47 : lw_okq (⟨"EquationProofs$Prover", "aimAtVariable", "(I)V"⟩, 19) := ⟨⟨by decide +kernel, by decide +kernel⟩, List.mem_of_getElem? (i := 369) (by decide +kernel), List.mem_of_getElem? (i := 1007) (by decide +kernel), List.mem_of_getElem? (i := 1008) (by decide +kernel)⟩
def lw_privs_3 : List (MethodName × Nat) := [(⟨"EquationProofs$Trial", "countTuples", "(II)I"⟩, 11), (⟨"EquationProofs$Trial", "valuesOf", "(II)I"⟩, 11), (⟨"EquationProofs$Trial", "tuplesOf", "(III)I"⟩, 11), (⟨"EquationProofs$Trial", "countRows", "(LEquationProofs$Equation;I)I"⟩, 11), (⟨"EquationProofs$Trial", "tryRow", "(LEquationProofs$Equation;I)I"⟩, 11), (⟨"EquationProofs$Trial", "setValues", "(LEquationProofs$Equation;I)V"⟩, 11), (⟨"EquationProofs$Trial", "putValue", "(IIILEquationProofs$Term;)V"⟩, 11), (⟨"EquationProofs$Trial", "putArguments", "(IIILEquationProofs$Term;)V"⟩, 11), (⟨"EquationProofs$Trial", "fill", "(LEquationProofs$Term;LEquationProofs$Term;)V"⟩, 11), (⟨"EquationProofs$Trial", "tellRow", "(LEquationProofs$Equation;)V"⟩, 11), (⟨"EquationProofs", "refusalAt", "(II)I"⟩, 9), (⟨"EquationProofs$Prover", "sideOf", "(I)LEquationProofs$Term;"⟩, 19), (⟨"EquationProofs$Prover", "changeSide", "(LEquationProofs$Term;)I"⟩, 19), (⟨"EquationProofs$Prover", "isAllowed", "(LEquationProofs$Term;)Z"⟩, 19), (⟨"EquationProofs$Prover", "isSure", "(LEquationProofs$Term;I)Z"⟩, 19), (⟨"EquationProofs$Prover", "aimAtVariable", "(I)V"⟩, 19)]
theorem lw_r3 : ∀ q ∈ lw_privs_3, lw_okq q := List.forall_mem_cons.mpr ⟨lw_p32, List.forall_mem_cons.mpr ⟨lw_p33, List.forall_mem_cons.mpr ⟨lw_p34, List.forall_mem_cons.mpr ⟨lw_p35, List.forall_mem_cons.mpr ⟨lw_p36, List.forall_mem_cons.mpr ⟨lw_p37, List.forall_mem_cons.mpr ⟨lw_p38, List.forall_mem_cons.mpr ⟨lw_p39, List.forall_mem_cons.mpr ⟨lw_p40, List.forall_mem_cons.mpr ⟨lw_p41, List.forall_mem_cons.mpr ⟨lw_p42, List.forall_mem_cons.mpr ⟨lw_p43, List.forall_mem_cons.mpr ⟨lw_p44, List.forall_mem_cons.mpr ⟨lw_p45, List.forall_mem_cons.mpr ⟨lw_p46, List.forall_mem_cons.mpr ⟨lw_p47, fun _ h => absurd h List.not_mem_nil⟩⟩⟩⟩⟩⟩⟩⟩⟩⟩⟩⟩⟩⟩⟩⟩
theorem lw_p48 : lw_okq (⟨"EquationProofs$Prover", "split", "()I"⟩, 19) := ⟨⟨by decide +kernel, by decide +kernel⟩, List.mem_of_getElem? (i := 369) (by decide +kernel), List.mem_of_getElem? (i := 1013) (by decide +kernel), List.mem_of_getElem? (i := 1014) (by decide +kernel)⟩
theorem lw_p49 : lw_okq (⟨"EquationProofs$Prover", "putInstead", "(II)I"⟩, 19) := ⟨⟨by decide +kernel, by decide +kernel⟩, List.mem_of_getElem? (i := 369) (by decide +kernel), List.mem_of_getElem? (i := 1017) (by decide +kernel), List.mem_of_getElem? (i := 1018) (by decide +kernel)⟩
theorem lw_p50 : lw_okq (⟨"EquationProofs$Prover", "makeGoal", "(LEquationProofs$Goal;I)Z"⟩, 19) := ⟨⟨by decide +kernel, by decide +kernel⟩, List.mem_of_getElem? (i := 369) (by decide +kernel), List.mem_of_getElem? (i := 1023) (by decide +kernel), List.mem_of_getElem? (i := 1024) (by decide +kernel)⟩
theorem lw_p51 : lw_okq (⟨"EquationProofs$Prover", "addInductionHypotheses", "(LEquationProofs$Goal;I)Z"⟩, 19) := ⟨⟨by decide +kernel, by decide +kernel⟩, List.mem_of_getElem? (i := 369) (by decide +kernel), List.mem_of_getElem? (i := 1040) (by decide +kernel), List.mem_of_getElem? (i := 1041) (by decide +kernel)⟩
theorem lw_p52 : lw_okq (⟨"EquationProofs$Prover", "addCallHypothesis", "(LEquationProofs$Goal;)Z"⟩, 19) := ⟨⟨by decide +kernel, by decide +kernel⟩, List.mem_of_getElem? (i := 369) (by decide +kernel), List.mem_of_getElem? (i := 1044) (by decide +kernel), List.mem_of_getElem? (i := 1045) (by decide +kernel)⟩
theorem lw_p53 : lw_okq (⟨"EquationProofs$Prover", "replaceInHypotheses", "(LEquationProofs$Goal;)Z"⟩, 19) := ⟨⟨by decide +kernel, by decide +kernel⟩, List.mem_of_getElem? (i := 369) (by decide +kernel), List.mem_of_getElem? (i := 1049) (by decide +kernel), List.mem_of_getElem? (i := 1050) (by decide +kernel)⟩
theorem lw_p54 : lw_okq (⟨"EquationProofs$Prover", "putGoals", "(I)I"⟩, 19) := ⟨⟨by decide +kernel, by decide +kernel⟩, List.mem_of_getElem? (i := 369) (by decide +kernel), List.mem_of_getElem? (i := 1053) (by decide +kernel), List.mem_of_getElem? (i := 1054) (by decide +kernel)⟩
theorem lw_p55 : lw_okq (⟨"EquationProofs$Prover", "swapGoals", "(II)V"⟩, 19) := ⟨⟨by decide +kernel, by decide +kernel⟩, List.mem_of_getElem? (i := 369) (by decide +kernel), List.mem_of_getElem? (i := 1057) (by decide +kernel), List.mem_of_getElem? (i := 1058) (by decide +kernel)⟩
theorem lw_p56 : lw_okq (⟨"EquationProofs$Prover", "unfoldFirst", "()Z"⟩, 19) := ⟨⟨by decide +kernel, by decide +kernel⟩, List.mem_of_getElem? (i := 369) (by decide +kernel), List.mem_of_getElem? (i := 1106) (by decide +kernel), List.mem_of_getElem? (i := 1107) (by decide +kernel)⟩
theorem lw_p57 : lw_okq (⟨"EquationProofs$Prover", "useFirst", "()Z"⟩, 19) := ⟨⟨by decide +kernel, by decide +kernel⟩, List.mem_of_getElem? (i := 369) (by decide +kernel), List.mem_of_getElem? (i := 1111) (by decide +kernel), List.mem_of_getElem? (i := 1112) (by decide +kernel)⟩
theorem lw_p58 : lw_okq (⟨"EquationProofs$Prover", "rewriteFirst", "()Z"⟩, 19) := ⟨⟨by decide +kernel, by decide +kernel⟩, List.mem_of_getElem? (i := 369) (by decide +kernel), List.mem_of_getElem? (i := 1116) (by decide +kernel), List.mem_of_getElem? (i := 1117) (by decide +kernel)⟩
theorem lw_p59 : lw_okq (⟨"EquationProofs$Prover", "splitFirst", "()Z"⟩, 19) := ⟨⟨by decide +kernel, by decide +kernel⟩, List.mem_of_getElem? (i := 369) (by decide +kernel), List.mem_of_getElem? (i := 1123) (by decide +kernel), List.mem_of_getElem? (i := 1124) (by decide +kernel)⟩
theorem lw_p60 : lw_okq (⟨"java/lang/Throwable", "fillInStackTrace", "(I)Ljava/lang/Throwable;"⟩, 6) := ⟨⟨by decide +kernel, by decide +kernel⟩, List.mem_of_getElem? (i := 1190) (by decide +kernel), List.mem_of_getElem? (i := 1188) (by decide +kernel), List.mem_of_getElem? (i := 1189) (by decide +kernel)⟩
theorem lw_p61 : lw_okq (⟨"EquationProofsModel", "openTape", "()V"⟩, 115) := ⟨⟨by decide +kernel, by decide +kernel⟩, List.mem_of_getElem? (i := 1248) (by decide +kernel), List.mem_of_getElem? (i := 1619) (by decide +kernel), List.mem_of_getElem? (i := 1620) (by decide +kernel)⟩
theorem lw_p62 : lw_okq (⟨"EquationProofsModel", "next", "()V"⟩, 115) := ⟨⟨by decide +kernel, by decide +kernel⟩, List.mem_of_getElem? (i := 1248) (by decide +kernel), List.mem_of_getElem? (i := 1623) (by decide +kernel), List.mem_of_getElem? (i := 1624) (by decide +kernel)⟩
theorem lw_p63 : lw_okq (⟨"EquationProofsModel", "look", "()I"⟩, 115) := ⟨⟨by decide +kernel, by decide +kernel⟩, List.mem_of_getElem? (i := 1248) (by decide +kernel), List.mem_of_getElem? (i := 1627) (by decide +kernel), List.mem_of_getElem? (i := 1628) (by decide +kernel)⟩
def lw_privs_4 : List (MethodName × Nat) := [(⟨"EquationProofs$Prover", "split", "()I"⟩, 19), (⟨"EquationProofs$Prover", "putInstead", "(II)I"⟩, 19), (⟨"EquationProofs$Prover", "makeGoal", "(LEquationProofs$Goal;I)Z"⟩, 19), (⟨"EquationProofs$Prover", "addInductionHypotheses", "(LEquationProofs$Goal;I)Z"⟩, 19), (⟨"EquationProofs$Prover", "addCallHypothesis", "(LEquationProofs$Goal;)Z"⟩, 19), (⟨"EquationProofs$Prover", "replaceInHypotheses", "(LEquationProofs$Goal;)Z"⟩, 19), (⟨"EquationProofs$Prover", "putGoals", "(I)I"⟩, 19), (⟨"EquationProofs$Prover", "swapGoals", "(II)V"⟩, 19), (⟨"EquationProofs$Prover", "unfoldFirst", "()Z"⟩, 19), (⟨"EquationProofs$Prover", "useFirst", "()Z"⟩, 19), (⟨"EquationProofs$Prover", "rewriteFirst", "()Z"⟩, 19), (⟨"EquationProofs$Prover", "splitFirst", "()Z"⟩, 19), (⟨"java/lang/Throwable", "fillInStackTrace", "(I)Ljava/lang/Throwable;"⟩, 6), (⟨"EquationProofsModel", "openTape", "()V"⟩, 115), (⟨"EquationProofsModel", "next", "()V"⟩, 115), (⟨"EquationProofsModel", "look", "()I"⟩, 115)]
theorem lw_r4 : ∀ q ∈ lw_privs_4, lw_okq q := List.forall_mem_cons.mpr ⟨lw_p48, List.forall_mem_cons.mpr ⟨lw_p49, List.forall_mem_cons.mpr ⟨lw_p50, List.forall_mem_cons.mpr ⟨lw_p51, List.forall_mem_cons.mpr ⟨lw_p52, List.forall_mem_cons.mpr ⟨lw_p53, List.forall_mem_cons.mpr ⟨lw_p54, List.forall_mem_cons.mpr ⟨lw_p55, List.forall_mem_cons.mpr ⟨lw_p56, List.forall_mem_cons.mpr ⟨lw_p57, List.forall_mem_cons.mpr ⟨lw_p58, List.forall_mem_cons.mpr ⟨lw_p59, List.forall_mem_cons.mpr ⟨lw_p60, List.forall_mem_cons.mpr ⟨lw_p61, List.forall_mem_cons.mpr ⟨lw_p62, List.forall_mem_cons.mpr ⟨lw_p63, fun _ h => absurd h List.not_mem_nil⟩⟩⟩⟩⟩⟩⟩⟩⟩⟩⟩⟩⟩⟩⟩⟩
theorem lw_p64 : lw_okq (⟨"EquationProofsModel", "bad", "(I)V"⟩, 115) := ⟨⟨by decide +kernel, by decide +kernel⟩, List.mem_of_getElem? (i := 1248) (by decide +kernel), List.mem_of_getElem? (i := 1634) (by decide +kernel), List.mem_of_getElem? (i := 1635) (by decide +kernel)⟩
theorem lw_p65 : lw_okq (⟨"EquationProofsModel", "badAt", "(II)V"⟩, 115) := ⟨⟨by decide +kernel, by decide +kernel⟩, List.mem_of_getElem? (i := 1248) (by decide +kernel), List.mem_of_getElem? (i := 1638) (by decide +kernel), List.mem_of_getElem? (i := 1639) (by decide +kernel)⟩
theorem lw_p66 : lw_okq (⟨"EquationProofsModel", "good", "()Z"⟩, 115) := ⟨⟨by decide +kernel, by decide +kernel⟩, List.mem_of_getElem? (i := 1248) (by decide +kernel), List.mem_of_getElem? (i := 1648) (by decide +kernel), List.mem_of_getElem? (i := 1649) (by decide +kernel)⟩
theorem lw_p67 : lw_okq (⟨"EquationProofsModel", "data", "()V"⟩, 115) := ⟨⟨by decide +kernel, by decide +kernel⟩, List.mem_of_getElem? (i := 1248) (by decide +kernel), List.mem_of_getElem? (i := 1652) (by decide +kernel), List.mem_of_getElem? (i := 1653) (by decide +kernel)⟩
theorem lw_p68 : lw_okq (⟨"EquationProofsModel", "want", "(I)V"⟩, 115) := ⟨⟨by decide +kernel, by decide +kernel⟩, List.mem_of_getElem? (i := 1248) (by decide +kernel), List.mem_of_getElem? (i := 1659) (by decide +kernel), List.mem_of_getElem? (i := 1660) (by decide +kernel)⟩
theorem lw_p69 : lw_okq (⟨"EquationProofsModel", "constructor", "()V"⟩, 115) := ⟨⟨by decide +kernel, by decide +kernel⟩, List.mem_of_getElem? (i := 1248) (by decide +kernel), List.mem_of_getElem? (i := 1663) (by decide +kernel), List.mem_of_getElem? (i := 1664) (by decide +kernel)⟩
theorem lw_p70 : lw_okq (⟨"EquationProofsModel", "type", "()I"⟩, 115) := ⟨⟨by decide +kernel, by decide +kernel⟩, List.mem_of_getElem? (i := 1248) (by decide +kernel), List.mem_of_getElem? (i := 1667) (by decide +kernel), List.mem_of_getElem? (i := 1668) (by decide +kernel)⟩
theorem lw_p71 : lw_okq (⟨"EquationProofsModel", "function", "()V"⟩, 115) := ⟨⟨by decide +kernel, by decide +kernel⟩, List.mem_of_getElem? (i := 1248) (by decide +kernel), List.mem_of_getElem? (i := 1671) (by decide +kernel), List.mem_of_getElem? (i := 1672) (by decide +kernel)⟩
theorem lw_p72 : lw_okq (⟨"EquationProofsModel", "rule", "()V"⟩, 115) := ⟨⟨by decide +kernel, by decide +kernel⟩, List.mem_of_getElem? (i := 1248) (by decide +kernel), List.mem_of_getElem? (i := 1675) (by decide +kernel), List.mem_of_getElem? (i := 1676) (by decide +kernel)⟩
theorem lw_p73 : lw_okq (⟨"EquationProofsModel", "beginTerm", "()V"⟩, 115) := ⟨⟨by decide +kernel, by decide +kernel⟩, List.mem_of_getElem? (i := 1248) (by decide +kernel), List.mem_of_getElem? (i := 1679) (by decide +kernel), List.mem_of_getElem? (i := 1680) (by decide +kernel)⟩
theorem lw_p74 : lw_okq (⟨"EquationProofsModel", "countName", "()V"⟩, 115) := ⟨⟨by decide +kernel, by decide +kernel⟩, List.mem_of_getElem? (i := 1248) (by decide +kernel), List.mem_of_getElem? (i := 1683) (by decide +kernel), List.mem_of_getElem? (i := 1684) (by decide +kernel)⟩
theorem lw_p75 : lw_okq (⟨"EquationProofsModel", "patterns", "(I)V"⟩, 115) := ⟨⟨by decide +kernel, by decide +kernel⟩, List.mem_of_getElem? (i := 1248) (by decide +kernel), List.mem_of_getElem? (i := 1687) (by decide +kernel), List.mem_of_getElem? (i := 1688) (by decide +kernel)⟩
theorem lw_p76 : lw_okq (⟨"EquationProofsModel", "wanted", "()I"⟩, 115) := ⟨⟨by decide +kernel, by decide +kernel⟩, List.mem_of_getElem? (i := 1248) (by decide +kernel), List.mem_of_getElem? (i := 1691) (by decide +kernel), List.mem_of_getElem? (i := 1692) (by decide +kernel)⟩
theorem lw_p77 : lw_okq (⟨"EquationProofsModel", "arity", "(I)I"⟩, 115) := ⟨⟨by decide +kernel, by decide +kernel⟩, List.mem_of_getElem? (i := 1248) (by decide +kernel), List.mem_of_getElem? (i := 1695) (by decide +kernel), List.mem_of_getElem? (i := 1696) (by decide +kernel)⟩
theorem lw_p78 : lw_okq (⟨"EquationProofsModel", "argType", "(II)I"⟩, 115) := ⟨⟨by decide +kernel, by decide +kernel⟩, List.mem_of_getElem? (i := 1248) (by decide +kernel), List.mem_of_getElem? (i := 1699) (by decide +kernel), List.mem_of_getElem? (i := 1700) (by decide +kernel)⟩
theorem lw_p79 : lw_okq (⟨"EquationProofsModel", "addVariable", "(I)I"⟩, 115) := ⟨⟨by decide +kernel, by decide +kernel⟩, List.mem_of_getElem? (i := 1248) (by decide +kernel), List.mem_of_getElem? (i := 1703) (by decide +kernel), List.mem_of_getElem? (i := 1704) (by decide +kernel)⟩
def lw_privs_5 : List (MethodName × Nat) := [(⟨"EquationProofsModel", "bad", "(I)V"⟩, 115), (⟨"EquationProofsModel", "badAt", "(II)V"⟩, 115), (⟨"EquationProofsModel", "good", "()Z"⟩, 115), (⟨"EquationProofsModel", "data", "()V"⟩, 115), (⟨"EquationProofsModel", "want", "(I)V"⟩, 115), (⟨"EquationProofsModel", "constructor", "()V"⟩, 115), (⟨"EquationProofsModel", "type", "()I"⟩, 115), (⟨"EquationProofsModel", "function", "()V"⟩, 115), (⟨"EquationProofsModel", "rule", "()V"⟩, 115), (⟨"EquationProofsModel", "beginTerm", "()V"⟩, 115), (⟨"EquationProofsModel", "countName", "()V"⟩, 115), (⟨"EquationProofsModel", "patterns", "(I)V"⟩, 115), (⟨"EquationProofsModel", "wanted", "()I"⟩, 115), (⟨"EquationProofsModel", "arity", "(I)I"⟩, 115), (⟨"EquationProofsModel", "argType", "(II)I"⟩, 115), (⟨"EquationProofsModel", "addVariable", "(I)I"⟩, 115)]
theorem lw_r5 : ∀ q ∈ lw_privs_5, lw_okq q := List.forall_mem_cons.mpr ⟨lw_p64, List.forall_mem_cons.mpr ⟨lw_p65, List.forall_mem_cons.mpr ⟨lw_p66, List.forall_mem_cons.mpr ⟨lw_p67, List.forall_mem_cons.mpr ⟨lw_p68, List.forall_mem_cons.mpr ⟨lw_p69, List.forall_mem_cons.mpr ⟨lw_p70, List.forall_mem_cons.mpr ⟨lw_p71, List.forall_mem_cons.mpr ⟨lw_p72, List.forall_mem_cons.mpr ⟨lw_p73, List.forall_mem_cons.mpr ⟨lw_p74, List.forall_mem_cons.mpr ⟨lw_p75, List.forall_mem_cons.mpr ⟨lw_p76, List.forall_mem_cons.mpr ⟨lw_p77, List.forall_mem_cons.mpr ⟨lw_p78, List.forall_mem_cons.mpr ⟨lw_p79, fun _ h => absurd h List.not_mem_nil⟩⟩⟩⟩⟩⟩⟩⟩⟩⟩⟩⟩⟩⟩⟩⟩
theorem lw_p80 : lw_okq (⟨"EquationProofsModel", "put", "(I)V"⟩, 115) := ⟨⟨by decide +kernel, by decide +kernel⟩, List.mem_of_getElem? (i := 1248) (by decide +kernel), List.mem_of_getElem? (i := 1707) (by decide +kernel), List.mem_of_getElem? (i := 1708) (by decide +kernel)⟩
theorem lw_p81 : lw_okq (⟨"EquationProofsModel", "patternCon", "(IZ)V"⟩, 115) := ⟨⟨by decide +kernel, by decide +kernel⟩, List.mem_of_getElem? (i := 1248) (by decide +kernel), List.mem_of_getElem? (i := 1711) (by decide +kernel), List.mem_of_getElem? (i := 1712) (by decide +kernel)⟩
theorem lw_p82 : lw_okq (⟨"EquationProofsModel", "deeper", "()V"⟩, 115) := ⟨⟨by decide +kernel, by decide +kernel⟩, List.mem_of_getElem? (i := 1248) (by decide +kernel), List.mem_of_getElem? (i := 1715) (by decide +kernel), List.mem_of_getElem? (i := 1716) (by decide +kernel)⟩
theorem lw_p83 : lw_okq (⟨"EquationProofsModel", "term", "(I)I"⟩, 115) := ⟨⟨by decide +kernel, by decide +kernel⟩, List.mem_of_getElem? (i := 1248) (by decide +kernel), List.mem_of_getElem? (i := 1719) (by decide +kernel), List.mem_of_getElem? (i := 1720) (by decide +kernel)⟩
theorem lw_p84 : lw_okq (⟨"EquationProofsModel", "head", "(IZ)I"⟩, 115) := ⟨⟨by decide +kernel, by decide +kernel⟩, List.mem_of_getElem? (i := 1248) (by decide +kernel), List.mem_of_getElem? (i := 1723) (by decide +kernel), List.mem_of_getElem? (i := 1724) (by decide +kernel)⟩
theorem lw_p85 : lw_okq (⟨"EquationProofsModel", "enter", "(II)V"⟩, 115) := ⟨⟨by decide +kernel, by decide +kernel⟩, List.mem_of_getElem? (i := 1248) (by decide +kernel), List.mem_of_getElem? (i := 1727) (by decide +kernel), List.mem_of_getElem? (i := 1728) (by decide +kernel)⟩
theorem lw_p86 : lw_okq (⟨"EquationProofsModel", "great", "(IZ)I"⟩, 115) := ⟨⟨by decide +kernel, by decide +kernel⟩, List.mem_of_getElem? (i := 1248) (by decide +kernel), List.mem_of_getElem? (i := 1731) (by decide +kernel), List.mem_of_getElem? (i := 1732) (by decide +kernel)⟩
theorem lw_p87 : lw_okq (⟨"EquationProofsModel", "small", "(IZ)I"⟩, 115) := ⟨⟨by decide +kernel, by decide +kernel⟩, List.mem_of_getElem? (i := 1248) (by decide +kernel), List.mem_of_getElem? (i := 1735) (by decide +kernel), List.mem_of_getElem? (i := 1736) (by decide +kernel)⟩
theorem lw_p88 : lw_okq (⟨"EquationProofsModel", "tellLaw", "()V"⟩, 115) := ⟨⟨by decide +kernel, by decide +kernel⟩, List.mem_of_getElem? (i := 1248) (by decide +kernel), List.mem_of_getElem? (i := 1739) (by decide +kernel), List.mem_of_getElem? (i := 1740) (by decide +kernel)⟩
theorem lw_p89 : lw_okq (⟨"EquationProofsModel", "keepSide", "(I)V"⟩, 115) := ⟨⟨by decide +kernel, by decide +kernel⟩, List.mem_of_getElem? (i := 1248) (by decide +kernel), List.mem_of_getElem? (i := 1743) (by decide +kernel), List.mem_of_getElem? (i := 1744) (by decide +kernel)⟩
theorem lw_p90 : lw_okq (⟨"EquationProofsModel", "run", "(I)I"⟩, 115) := ⟨⟨by decide +kernel, by decide +kernel⟩, List.mem_of_getElem? (i := 1248) (by decide +kernel), List.mem_of_getElem? (i := 1763) (by decide +kernel), List.mem_of_getElem? (i := 1764) (by decide +kernel)⟩
theorem lw_p91 : lw_okq (⟨"EquationProofsModel", "match", "([II)I"⟩, 115) := ⟨⟨by decide +kernel, by decide +kernel⟩, List.mem_of_getElem? (i := 1248) (by decide +kernel), List.mem_of_getElem? (i := 1770) (by decide +kernel), List.mem_of_getElem? (i := 1771) (by decide +kernel)⟩
theorem lw_p92 : lw_okq (⟨"EquationProofsModel", "fits", "([III)I"⟩, 115) := ⟨⟨by decide +kernel, by decide +kernel⟩, List.mem_of_getElem? (i := 1248) (by decide +kernel), List.mem_of_getElem? (i := 1774) (by decide +kernel), List.mem_of_getElem? (i := 1775) (by decide +kernel)⟩
theorem lw_p93 : lw_okq (⟨"EquationProofsModel", "behind", "([II)I"⟩, 115) := ⟨⟨by decide +kernel, by decide +kernel⟩, List.mem_of_getElem? (i := 1248) (by decide +kernel), List.mem_of_getElem? (i := 1778) (by decide +kernel), List.mem_of_getElem? (i := 1779) (by decide +kernel)⟩
theorem lw_p94 : lw_okq (⟨"EquationProofsModel", "makeDone", "([IIII)V"⟩, 115) := ⟨⟨by decide +kernel, by decide +kernel⟩, List.mem_of_getElem? (i := 1248) (by decide +kernel), List.mem_of_getElem? (i := 1785) (by decide +kernel), List.mem_of_getElem? (i := 1786) (by decide +kernel)⟩
theorem lw_p95 : lw_okq (⟨"EquationProofsModel", "copy", "([III)V"⟩, 115) := ⟨⟨by decide +kernel, by decide +kernel⟩, List.mem_of_getElem? (i := 1248) (by decide +kernel), List.mem_of_getElem? (i := 1789) (by decide +kernel), List.mem_of_getElem? (i := 1790) (by decide +kernel)⟩
def lw_privs_6 : List (MethodName × Nat) := [(⟨"EquationProofsModel", "put", "(I)V"⟩, 115), (⟨"EquationProofsModel", "patternCon", "(IZ)V"⟩, 115), (⟨"EquationProofsModel", "deeper", "()V"⟩, 115), (⟨"EquationProofsModel", "term", "(I)I"⟩, 115), (⟨"EquationProofsModel", "head", "(IZ)I"⟩, 115), (⟨"EquationProofsModel", "enter", "(II)V"⟩, 115), (⟨"EquationProofsModel", "great", "(IZ)I"⟩, 115), (⟨"EquationProofsModel", "small", "(IZ)I"⟩, 115), (⟨"EquationProofsModel", "tellLaw", "()V"⟩, 115), (⟨"EquationProofsModel", "keepSide", "(I)V"⟩, 115), (⟨"EquationProofsModel", "run", "(I)I"⟩, 115), (⟨"EquationProofsModel", "match", "([II)I"⟩, 115), (⟨"EquationProofsModel", "fits", "([III)I"⟩, 115), (⟨"EquationProofsModel", "behind", "([II)I"⟩, 115), (⟨"EquationProofsModel", "makeDone", "([IIII)V"⟩, 115), (⟨"EquationProofsModel", "copy", "([III)V"⟩, 115)]
theorem lw_r6 : ∀ q ∈ lw_privs_6, lw_okq q := List.forall_mem_cons.mpr ⟨lw_p80, List.forall_mem_cons.mpr ⟨lw_p81, List.forall_mem_cons.mpr ⟨lw_p82, List.forall_mem_cons.mpr ⟨lw_p83, List.forall_mem_cons.mpr ⟨lw_p84, List.forall_mem_cons.mpr ⟨lw_p85, List.forall_mem_cons.mpr ⟨lw_p86, List.forall_mem_cons.mpr ⟨lw_p87, List.forall_mem_cons.mpr ⟨lw_p88, List.forall_mem_cons.mpr ⟨lw_p89, List.forall_mem_cons.mpr ⟨lw_p90, List.forall_mem_cons.mpr ⟨lw_p91, List.forall_mem_cons.mpr ⟨lw_p92, List.forall_mem_cons.mpr ⟨lw_p93, List.forall_mem_cons.mpr ⟨lw_p94, List.forall_mem_cons.mpr ⟨lw_p95, fun _ h => absurd h List.not_mem_nil⟩⟩⟩⟩⟩⟩⟩⟩⟩⟩⟩⟩⟩⟩⟩⟩
theorem lw_p96 : lw_okq (⟨"EquationProofsModel", "print", "([II)V"⟩, 115) := ⟨⟨by decide +kernel, by decide +kernel⟩, List.mem_of_getElem? (i := 1248) (by decide +kernel), List.mem_of_getElem? (i := 1793) (by decide +kernel), List.mem_of_getElem? (i := 1794) (by decide +kernel)⟩
theorem lw_p97 : lw_okq (⟨"EquationProofsModel", "letter", "(I)V"⟩, 115) := ⟨⟨by decide +kernel, by decide +kernel⟩, List.mem_of_getElem? (i := 1248) (by decide +kernel), List.mem_of_getElem? (i := 1797) (by decide +kernel), List.mem_of_getElem? (i := 1798) (by decide +kernel)⟩
theorem lw_p98 : lw_okq (⟨"EquationProofsModel", "putNumber", "(I)V"⟩, 115) := ⟨⟨by decide +kernel, by decide +kernel⟩, List.mem_of_getElem? (i := 1248) (by decide +kernel), List.mem_of_getElem? (i := 1801) (by decide +kernel), List.mem_of_getElem? (i := 1802) (by decide +kernel)⟩
theorem lw_p99 : lw_okq (⟨"EquationProofsModel", "putName", "(J)V"⟩, 115) := ⟨⟨by decide +kernel, by decide +kernel⟩, List.mem_of_getElem? (i := 1248) (by decide +kernel), List.mem_of_getElem? (i := 1805) (by decide +kernel), List.mem_of_getElem? (i := 1806) (by decide +kernel)⟩
theorem lw_p100 : lw_okq (⟨"EquationProofsModel", "countValues", "(IZ)V"⟩, 115) := ⟨⟨by decide +kernel, by decide +kernel⟩, List.mem_of_getElem? (i := 1248) (by decide +kernel), List.mem_of_getElem? (i := 1821) (by decide +kernel), List.mem_of_getElem? (i := 1822) (by decide +kernel)⟩
theorem lw_p101 : lw_okq (⟨"EquationProofsModel", "conAmount", "(II)J"⟩, 115) := ⟨⟨by decide +kernel, by decide +kernel⟩, List.mem_of_getElem? (i := 1248) (by decide +kernel), List.mem_of_getElem? (i := 1825) (by decide +kernel), List.mem_of_getElem? (i := 1826) (by decide +kernel)⟩
theorem lw_p102 : lw_okq (⟨"EquationProofsModel", "makeValues", "(IZ)V"⟩, 115) := ⟨⟨by decide +kernel, by decide +kernel⟩, List.mem_of_getElem? (i := 1248) (by decide +kernel), List.mem_of_getElem? (i := 1834) (by decide +kernel), List.mem_of_getElem? (i := 1835) (by decide +kernel)⟩
theorem lw_p103 : lw_okq (⟨"EquationProofsModel", "addValue", "(II)V"⟩, 115) := ⟨⟨by decide +kernel, by decide +kernel⟩, List.mem_of_getElem? (i := 1248) (by decide +kernel), List.mem_of_getElem? (i := 1838) (by decide +kernel), List.mem_of_getElem? (i := 1839) (by decide +kernel)⟩
theorem lw_p104 : lw_okq (⟨"EquationProofsModel", "makeCon", "(III)V"⟩, 115) := ⟨⟨by decide +kernel, by decide +kernel⟩, List.mem_of_getElem? (i := 1248) (by decide +kernel), List.mem_of_getElem? (i := 1842) (by decide +kernel), List.mem_of_getElem? (i := 1843) (by decide +kernel)⟩
theorem lw_p105 : lw_okq (⟨"EquationProofsModel", "sizeOf", "(III)I"⟩, 115) := ⟨⟨by decide +kernel, by decide +kernel⟩, List.mem_of_getElem? (i := 1248) (by decide +kernel), List.mem_of_getElem? (i := 1846) (by decide +kernel), List.mem_of_getElem? (i := 1847) (by decide +kernel)⟩
theorem lw_p106 : lw_okq (⟨"EquationProofsModel", "begun", "(II)V"⟩, 115) := ⟨⟨by decide +kernel, by decide +kernel⟩, List.mem_of_getElem? (i := 1248) (by decide +kernel), List.mem_of_getElem? (i := 1850) (by decide +kernel), List.mem_of_getElem? (i := 1851) (by decide +kernel)⟩
theorem lw_p107 : lw_okq (⟨"EquationProofsModel", "putValue", "(III)V"⟩, 115) := ⟨⟨by decide +kernel, by decide +kernel⟩, List.mem_of_getElem? (i := 1248) (by decide +kernel), List.mem_of_getElem? (i := 1854) (by decide +kernel), List.mem_of_getElem? (i := 1855) (by decide +kernel)⟩
theorem lw_p108 : lw_okq (⟨"EquationProofsModel", "makeTwo", "(IIII)V"⟩, 115) := ⟨⟨by decide +kernel, by decide +kernel⟩, List.mem_of_getElem? (i := 1248) (by decide +kernel), List.mem_of_getElem? (i := 1858) (by decide +kernel), List.mem_of_getElem? (i := 1859) (by decide +kernel)⟩
theorem lw_p109 : lw_okq (⟨"EquationProofsModel", "row", "(I)I"⟩, 115) := ⟨⟨by decide +kernel, by decide +kernel⟩, List.mem_of_getElem? (i := 1248) (by decide +kernel), List.mem_of_getElem? (i := 1862) (by decide +kernel), List.mem_of_getElem? (i := 1863) (by decide +kernel)⟩
theorem lw_p110 : lw_okq (⟨"EquationProofsModel", "free", "()I"⟩, 115) := ⟨⟨by decide +kernel, by decide +kernel⟩, List.mem_of_getElem? (i := 1248) (by decide +kernel), List.mem_of_getElem? (i := 1874) (by decide +kernel), List.mem_of_getElem? (i := 1875) (by decide +kernel)⟩
theorem lw_p111 : lw_okq (⟨"EquationProofsModel", "sideAt", "(II)I"⟩, 115) := ⟨⟨by decide +kernel, by decide +kernel⟩, List.mem_of_getElem? (i := 1248) (by decide +kernel), List.mem_of_getElem? (i := 1878) (by decide +kernel), List.mem_of_getElem? (i := 1879) (by decide +kernel)⟩
def lw_privs_7 : List (MethodName × Nat) := [(⟨"EquationProofsModel", "print", "([II)V"⟩, 115), (⟨"EquationProofsModel", "letter", "(I)V"⟩, 115), (⟨"EquationProofsModel", "putNumber", "(I)V"⟩, 115), (⟨"EquationProofsModel", "putName", "(J)V"⟩, 115), (⟨"EquationProofsModel", "countValues", "(IZ)V"⟩, 115), (⟨"EquationProofsModel", "conAmount", "(II)J"⟩, 115), (⟨"EquationProofsModel", "makeValues", "(IZ)V"⟩, 115), (⟨"EquationProofsModel", "addValue", "(II)V"⟩, 115), (⟨"EquationProofsModel", "makeCon", "(III)V"⟩, 115), (⟨"EquationProofsModel", "sizeOf", "(III)I"⟩, 115), (⟨"EquationProofsModel", "begun", "(II)V"⟩, 115), (⟨"EquationProofsModel", "putValue", "(III)V"⟩, 115), (⟨"EquationProofsModel", "makeTwo", "(IIII)V"⟩, 115), (⟨"EquationProofsModel", "row", "(I)I"⟩, 115), (⟨"EquationProofsModel", "free", "()I"⟩, 115), (⟨"EquationProofsModel", "sideAt", "(II)I"⟩, 115)]
theorem lw_r7 : ∀ q ∈ lw_privs_7, lw_okq q := List.forall_mem_cons.mpr ⟨lw_p96, List.forall_mem_cons.mpr ⟨lw_p97, List.forall_mem_cons.mpr ⟨lw_p98, List.forall_mem_cons.mpr ⟨lw_p99, List.forall_mem_cons.mpr ⟨lw_p100, List.forall_mem_cons.mpr ⟨lw_p101, List.forall_mem_cons.mpr ⟨lw_p102, List.forall_mem_cons.mpr ⟨lw_p103, List.forall_mem_cons.mpr ⟨lw_p104, List.forall_mem_cons.mpr ⟨lw_p105, List.forall_mem_cons.mpr ⟨lw_p106, List.forall_mem_cons.mpr ⟨lw_p107, List.forall_mem_cons.mpr ⟨lw_p108, List.forall_mem_cons.mpr ⟨lw_p109, List.forall_mem_cons.mpr ⟨lw_p110, List.forall_mem_cons.mpr ⟨lw_p111, fun _ h => absurd h List.not_mem_nil⟩⟩⟩⟩⟩⟩⟩⟩⟩⟩⟩⟩⟩⟩⟩⟩
theorem lw_p112 : lw_okq (⟨"EquationProofsModel", "tellHyps", "()V"⟩, 115) := ⟨⟨by decide +kernel, by decide +kernel⟩, List.mem_of_getElem? (i := 1248) (by decide +kernel), List.mem_of_getElem? (i := 1882) (by decide +kernel), List.mem_of_getElem? (i := 1883) (by decide +kernel)⟩
theorem lw_p113 : lw_okq (⟨"EquationProofsModel", "idle", "()Z"⟩, 115) := ⟨⟨by decide +kernel, by decide +kernel⟩, List.mem_of_getElem? (i := 1248) (by decide +kernel), List.mem_of_getElem? (i := 1893) (by decide +kernel), List.mem_of_getElem? (i := 1894) (by decide +kernel)⟩
theorem lw_p114 : lw_okq (⟨"EquationProofsModel", "unfoldAt", "(III)I"⟩, 115) := ⟨⟨by decide +kernel, by decide +kernel⟩, List.mem_of_getElem? (i := 1248) (by decide +kernel), List.mem_of_getElem? (i := 1897) (by decide +kernel), List.mem_of_getElem? (i := 1898) (by decide +kernel)⟩
theorem lw_p115 : lw_okq (⟨"EquationProofsModel", "bring", "(II)V"⟩, 115) := ⟨⟨by decide +kernel, by decide +kernel⟩, List.mem_of_getElem? (i := 1248) (by decide +kernel), List.mem_of_getElem? (i := 1901) (by decide +kernel), List.mem_of_getElem? (i := 1902) (by decide +kernel)⟩
theorem lw_p116 : lw_okq (⟨"EquationProofsModel", "placeOf", "(I)I"⟩, 115) := ⟨⟨by decide +kernel, by decide +kernel⟩, List.mem_of_getElem? (i := 1248) (by decide +kernel), List.mem_of_getElem? (i := 1905) (by decide +kernel), List.mem_of_getElem? (i := 1906) (by decide +kernel)⟩
theorem lw_p117 : lw_okq (⟨"EquationProofsModel", "isKept", "(II)Z"⟩, 115) := ⟨⟨by decide +kernel, by decide +kernel⟩, List.mem_of_getElem? (i := 1248) (by decide +kernel), List.mem_of_getElem? (i := 1909) (by decide +kernel), List.mem_of_getElem? (i := 1910) (by decide +kernel)⟩
theorem lw_p118 : lw_okq (⟨"EquationProofsModel", "did", "()I"⟩, 115) := ⟨⟨by decide +kernel, by decide +kernel⟩, List.mem_of_getElem? (i := 1248) (by decide +kernel), List.mem_of_getElem? (i := 1913) (by decide +kernel), List.mem_of_getElem? (i := 1914) (by decide +kernel)⟩
theorem lw_p119 : lw_okq (⟨"EquationProofsModel", "lawAt", "(IZIII)I"⟩, 115) := ⟨⟨by decide +kernel, by decide +kernel⟩, List.mem_of_getElem? (i := 1248) (by decide +kernel), List.mem_of_getElem? (i := 1921) (by decide +kernel), List.mem_of_getElem? (i := 1922) (by decide +kernel)⟩
theorem lw_p120 : lw_okq (⟨"EquationProofsModel", "isLike", "([IIIIIII)Z"⟩, 115) := ⟨⟨by decide +kernel, by decide +kernel⟩, List.mem_of_getElem? (i := 1248) (by decide +kernel), List.mem_of_getElem? (i := 1925) (by decide +kernel), List.mem_of_getElem? (i := 1926) (by decide +kernel)⟩
theorem lw_p121 : lw_okq (⟨"EquationProofsModel", "isFit", "(IIIII)Z"⟩, 115) := ⟨⟨by decide +kernel, by decide +kernel⟩, List.mem_of_getElem? (i := 1248) (by decide +kernel), List.mem_of_getElem? (i := 1929) (by decide +kernel), List.mem_of_getElem? (i := 1930) (by decide +kernel)⟩
theorem lw_p122 : lw_okq (⟨"EquationProofsModel", "typeAt", "(II)I"⟩, 115) := ⟨⟨by decide +kernel, by decide +kernel⟩, List.mem_of_getElem? (i := 1248) (by decide +kernel), List.mem_of_getElem? (i := 1933) (by decide +kernel), List.mem_of_getElem? (i := 1934) (by decide +kernel)⟩
theorem lw_p123 : lw_okq (⟨"EquationProofsModel", "isMade", "([IIIII)Z"⟩, 115) := ⟨⟨by decide +kernel, by decide +kernel⟩, List.mem_of_getElem? (i := 1248) (by decide +kernel), List.mem_of_getElem? (i := 1940) (by decide +kernel), List.mem_of_getElem? (i := 1941) (by decide +kernel)⟩
theorem lw_p124 : lw_okq (⟨"EquationProofsModel", "hypothesisAt", "(IZIII)I"⟩, 115) := ⟨⟨by decide +kernel, by decide +kernel⟩, List.mem_of_getElem? (i := 1248) (by decide +kernel), List.mem_of_getElem? (i := 1948) (by decide +kernel), List.mem_of_getElem? (i := 1949) (by decide +kernel)⟩
theorem lw_p125 : lw_okq (⟨"EquationProofsModel", "hasVariable", "(II)Z"⟩, 115) := ⟨⟨by decide +kernel, by decide +kernel⟩, List.mem_of_getElem? (i := 1248) (by decide +kernel), List.mem_of_getElem? (i := 1956) (by decide +kernel), List.mem_of_getElem? (i := 1957) (by decide +kernel)⟩
theorem lw_p126 : lw_okq (⟨"EquationProofsModel", "inducted", "(I)I"⟩, 115) := ⟨⟨by decide +kernel, by decide +kernel⟩, List.mem_of_getElem? (i := 1248) (by decide +kernel), List.mem_of_getElem? (i := 1960) (by decide +kernel), List.mem_of_getElem? (i := 1961) (by decide +kernel)⟩
theorem lw_p127 : lw_okq (⟨"EquationProofsModel", "newGoal", "(I)I"⟩, 115) := ⟨⟨by decide +kernel, by decide +kernel⟩, List.mem_of_getElem? (i := 1248) (by decide +kernel), List.mem_of_getElem? (i := 1964) (by decide +kernel), List.mem_of_getElem? (i := 1965) (by decide +kernel)⟩
def lw_privs_8 : List (MethodName × Nat) := [(⟨"EquationProofsModel", "tellHyps", "()V"⟩, 115), (⟨"EquationProofsModel", "idle", "()Z"⟩, 115), (⟨"EquationProofsModel", "unfoldAt", "(III)I"⟩, 115), (⟨"EquationProofsModel", "bring", "(II)V"⟩, 115), (⟨"EquationProofsModel", "placeOf", "(I)I"⟩, 115), (⟨"EquationProofsModel", "isKept", "(II)Z"⟩, 115), (⟨"EquationProofsModel", "did", "()I"⟩, 115), (⟨"EquationProofsModel", "lawAt", "(IZIII)I"⟩, 115), (⟨"EquationProofsModel", "isLike", "([IIIIIII)Z"⟩, 115), (⟨"EquationProofsModel", "isFit", "(IIIII)Z"⟩, 115), (⟨"EquationProofsModel", "typeAt", "(II)I"⟩, 115), (⟨"EquationProofsModel", "isMade", "([IIIII)Z"⟩, 115), (⟨"EquationProofsModel", "hypothesisAt", "(IZIII)I"⟩, 115), (⟨"EquationProofsModel", "hasVariable", "(II)Z"⟩, 115), (⟨"EquationProofsModel", "inducted", "(I)I"⟩, 115), (⟨"EquationProofsModel", "newGoal", "(I)I"⟩, 115)]
theorem lw_r8 : ∀ q ∈ lw_privs_8, lw_okq q := List.forall_mem_cons.mpr ⟨lw_p112, List.forall_mem_cons.mpr ⟨lw_p113, List.forall_mem_cons.mpr ⟨lw_p114, List.forall_mem_cons.mpr ⟨lw_p115, List.forall_mem_cons.mpr ⟨lw_p116, List.forall_mem_cons.mpr ⟨lw_p117, List.forall_mem_cons.mpr ⟨lw_p118, List.forall_mem_cons.mpr ⟨lw_p119, List.forall_mem_cons.mpr ⟨lw_p120, List.forall_mem_cons.mpr ⟨lw_p121, List.forall_mem_cons.mpr ⟨lw_p122, List.forall_mem_cons.mpr ⟨lw_p123, List.forall_mem_cons.mpr ⟨lw_p124, List.forall_mem_cons.mpr ⟨lw_p125, List.forall_mem_cons.mpr ⟨lw_p126, List.forall_mem_cons.mpr ⟨lw_p127, fun _ h => absurd h List.not_mem_nil⟩⟩⟩⟩⟩⟩⟩⟩⟩⟩⟩⟩⟩⟩⟩⟩
theorem lw_p128 : lw_okq (⟨"EquationProofsModel", "copyGoal", "(II)V"⟩, 115) := ⟨⟨by decide +kernel, by decide +kernel⟩, List.mem_of_getElem? (i := 1248) (by decide +kernel), List.mem_of_getElem? (i := 1968) (by decide +kernel), List.mem_of_getElem? (i := 1969) (by decide +kernel)⟩
theorem lw_p129 : lw_okq (⟨"EquationProofsModel", "copyHyps", "(II)V"⟩, 115) := ⟨⟨by decide +kernel, by decide +kernel⟩, List.mem_of_getElem? (i := 1248) (by decide +kernel), List.mem_of_getElem? (i := 1972) (by decide +kernel), List.mem_of_getElem? (i := 1973) (by decide +kernel)⟩
theorem lw_p130 : lw_okq (⟨"EquationProofsModel", "isPut", "(III)Z"⟩, 115) := ⟨⟨by decide +kernel, by decide +kernel⟩, List.mem_of_getElem? (i := 1248) (by decide +kernel), List.mem_of_getElem? (i := 1976) (by decide +kernel), List.mem_of_getElem? (i := 1977) (by decide +kernel)⟩
theorem lw_p131 : lw_okq (⟨"EquationProofsModel", "putIn", "([IIII)V"⟩, 115) := ⟨⟨by decide +kernel, by decide +kernel⟩, List.mem_of_getElem? (i := 1248) (by decide +kernel), List.mem_of_getElem? (i := 1980) (by decide +kernel), List.mem_of_getElem? (i := 1981) (by decide +kernel)⟩
theorem lw_p132 : lw_okq (⟨"EquationProofsModel", "isNew", "(IZ)Z"⟩, 115) := ⟨⟨by decide +kernel, by decide +kernel⟩, List.mem_of_getElem? (i := 1248) (by decide +kernel), List.mem_of_getElem? (i := 1984) (by decide +kernel), List.mem_of_getElem? (i := 1985) (by decide +kernel)⟩
theorem lw_p133 : lw_okq (⟨"EquationProofsModel", "isSupposed", "(IIII)Z"⟩, 115) := ⟨⟨by decide +kernel, by decide +kernel⟩, List.mem_of_getElem? (i := 1248) (by decide +kernel), List.mem_of_getElem? (i := 1988) (by decide +kernel), List.mem_of_getElem? (i := 1989) (by decide +kernel)⟩
theorem lw_p134 : lw_okq (⟨"EquationProofsModel", "replace", "(Z)I"⟩, 115) := ⟨⟨by decide +kernel, by decide +kernel⟩, List.mem_of_getElem? (i := 1248) (by decide +kernel), List.mem_of_getElem? (i := 1992) (by decide +kernel), List.mem_of_getElem? (i := 1993) (by decide +kernel)⟩
theorem lw_p135 : lw_okq (⟨"EquationProofsModel", "casesAt", "(III)I"⟩, 115) := ⟨⟨by decide +kernel, by decide +kernel⟩, List.mem_of_getElem? (i := 1248) (by decide +kernel), List.mem_of_getElem? (i := 2000) (by decide +kernel), List.mem_of_getElem? (i := 2001) (by decide +kernel)⟩
theorem lw_p136 : lw_okq (⟨"EquationProofsModel", "casesOf", "(I)I"⟩, 115) := ⟨⟨by decide +kernel, by decide +kernel⟩, List.mem_of_getElem? (i := 1248) (by decide +kernel), List.mem_of_getElem? (i := 2004) (by decide +kernel), List.mem_of_getElem? (i := 2005) (by decide +kernel)⟩
theorem lw_p137 : lw_okq (⟨"EquationProofsModel", "isHypsPut", "(II)Z"⟩, 115) := ⟨⟨by decide +kernel, by decide +kernel⟩, List.mem_of_getElem? (i := 1248) (by decide +kernel), List.mem_of_getElem? (i := 2008) (by decide +kernel), List.mem_of_getElem? (i := 2009) (by decide +kernel)⟩
theorem lw_p138 : lw_okq (⟨"EquationProofsModel", "casesOfCall", "(I)I"⟩, 115) := ⟨⟨by decide +kernel, by decide +kernel⟩, List.mem_of_getElem? (i := 1248) (by decide +kernel), List.mem_of_getElem? (i := 2012) (by decide +kernel), List.mem_of_getElem? (i := 2013) (by decide +kernel)⟩
theorem lw_p139 : lw_okq (⟨"EquationProofsModel", "isCallPut", "(II)Z"⟩, 115) := ⟨⟨by decide +kernel, by decide +kernel⟩, List.mem_of_getElem? (i := 1248) (by decide +kernel), List.mem_of_getElem? (i := 2016) (by decide +kernel), List.mem_of_getElem? (i := 2017) (by decide +kernel)⟩
theorem lw_p140 : lw_okq (⟨"EquationProofsModel", "isToldFor", "(I)Z"⟩, 115) := ⟨⟨by decide +kernel, by decide +kernel⟩, List.mem_of_getElem? (i := 1248) (by decide +kernel), List.mem_of_getElem? (i := 2020) (by decide +kernel), List.mem_of_getElem? (i := 2021) (by decide +kernel)⟩
theorem lw_p141 : lw_okq (⟨"EquationProofsModel", "save", "()V"⟩, 115) := ⟨⟨by decide +kernel, by decide +kernel⟩, List.mem_of_getElem? (i := 1248) (by decide +kernel), List.mem_of_getElem? (i := 2036) (by decide +kernel), List.mem_of_getElem? (i := 2037) (by decide +kernel)⟩
theorem lw_p142 : lw_okq (⟨"EquationProofsModel", "hasStep", "()Z"⟩, 115) := ⟨⟨by decide +kernel, by decide +kernel⟩, List.mem_of_getElem? (i := 1248) (by decide +kernel), List.mem_of_getElem? (i := 2043) (by decide +kernel), List.mem_of_getElem? (i := 2044) (by decide +kernel)⟩
theorem lw_p143 : lw_okq (⟨"EquationProofsModel", "sweep", "(II)Z"⟩, 115) := ⟨⟨by decide +kernel, by decide +kernel⟩, List.mem_of_getElem? (i := 1248) (by decide +kernel), List.mem_of_getElem? (i := 2048) (by decide +kernel), List.mem_of_getElem? (i := 2049) (by decide +kernel)⟩
def lw_privs_9 : List (MethodName × Nat) := [(⟨"EquationProofsModel", "copyGoal", "(II)V"⟩, 115), (⟨"EquationProofsModel", "copyHyps", "(II)V"⟩, 115), (⟨"EquationProofsModel", "isPut", "(III)Z"⟩, 115), (⟨"EquationProofsModel", "putIn", "([IIII)V"⟩, 115), (⟨"EquationProofsModel", "isNew", "(IZ)Z"⟩, 115), (⟨"EquationProofsModel", "isSupposed", "(IIII)Z"⟩, 115), (⟨"EquationProofsModel", "replace", "(Z)I"⟩, 115), (⟨"EquationProofsModel", "casesAt", "(III)I"⟩, 115), (⟨"EquationProofsModel", "casesOf", "(I)I"⟩, 115), (⟨"EquationProofsModel", "isHypsPut", "(II)Z"⟩, 115), (⟨"EquationProofsModel", "casesOfCall", "(I)I"⟩, 115), (⟨"EquationProofsModel", "isCallPut", "(II)Z"⟩, 115), (⟨"EquationProofsModel", "isToldFor", "(I)Z"⟩, 115), (⟨"EquationProofsModel", "save", "()V"⟩, 115), (⟨"EquationProofsModel", "hasStep", "()Z"⟩, 115), (⟨"EquationProofsModel", "sweep", "(II)Z"⟩, 115)]
theorem lw_r9 : ∀ q ∈ lw_privs_9, lw_okq q := List.forall_mem_cons.mpr ⟨lw_p128, List.forall_mem_cons.mpr ⟨lw_p129, List.forall_mem_cons.mpr ⟨lw_p130, List.forall_mem_cons.mpr ⟨lw_p131, List.forall_mem_cons.mpr ⟨lw_p132, List.forall_mem_cons.mpr ⟨lw_p133, List.forall_mem_cons.mpr ⟨lw_p134, List.forall_mem_cons.mpr ⟨lw_p135, List.forall_mem_cons.mpr ⟨lw_p136, List.forall_mem_cons.mpr ⟨lw_p137, List.forall_mem_cons.mpr ⟨lw_p138, List.forall_mem_cons.mpr ⟨lw_p139, List.forall_mem_cons.mpr ⟨lw_p140, List.forall_mem_cons.mpr ⟨lw_p141, List.forall_mem_cons.mpr ⟨lw_p142, List.forall_mem_cons.mpr ⟨lw_p143, fun _ h => absurd h List.not_mem_nil⟩⟩⟩⟩⟩⟩⟩⟩⟩⟩⟩⟩⟩⟩⟩⟩
theorem lw_p144 : lw_okq (⟨"EquationProofsModel", "isSplit", "()Z"⟩, 115) := ⟨⟨by decide +kernel, by decide +kernel⟩, List.mem_of_getElem? (i := 1248) (by decide +kernel), List.mem_of_getElem? (i := 2053) (by decide +kernel), List.mem_of_getElem? (i := 2054) (by decide +kernel)⟩
theorem lw_p145 : lw_okq (⟨"EquationProofsModel", "restore", "()V"⟩, 115) := ⟨⟨by decide +kernel, by decide +kernel⟩, List.mem_of_getElem? (i := 1248) (by decide +kernel), List.mem_of_getElem? (i := 2057) (by decide +kernel), List.mem_of_getElem? (i := 2058) (by decide +kernel)⟩
theorem lw_p146 : lw_okq (⟨"EquationProofsModel", "hypAt", "(III)I"⟩, 115) := ⟨⟨by decide +kernel, by decide +kernel⟩, List.mem_of_getElem? (i := 1248) (by decide +kernel), List.mem_of_getElem? (i := 2069) (by decide +kernel), List.mem_of_getElem? (i := 2070) (by decide +kernel)⟩
def lw_privs_10 : List (MethodName × Nat) := [(⟨"EquationProofsModel", "isSplit", "()Z"⟩, 115), (⟨"EquationProofsModel", "restore", "()V"⟩, 115), (⟨"EquationProofsModel", "hypAt", "(III)I"⟩, 115)]
theorem lw_r10 : ∀ q ∈ lw_privs_10, lw_okq q := List.forall_mem_cons.mpr ⟨lw_p144, List.forall_mem_cons.mpr ⟨lw_p145, List.forall_mem_cons.mpr ⟨lw_p146, fun _ h => absurd h List.not_mem_nil⟩⟩⟩
def lw_privs : List (MethodName × Nat) := lw_privs_1 ++ (lw_privs_2 ++ (lw_privs_3 ++ (lw_privs_4 ++ (lw_privs_5 ++ (lw_privs_6 ++ (lw_privs_7 ++ (lw_privs_8 ++ (lw_privs_9 ++ (lw_privs_10)))))))))
def lw_tbl : List Cond := k2_sels lw_privs ++ tables_1
theorem lw_privs_ok : ∀ q ∈ lw_privs, lw_okq q := by
  show ∀ q ∈ lw_privs_1 ++ (lw_privs_2 ++ (lw_privs_3 ++ (lw_privs_4 ++ (lw_privs_5 ++ (lw_privs_6 ++ (lw_privs_7 ++ (lw_privs_8 ++ (lw_privs_9 ++ (lw_privs_10))))))))), lw_okq q
  exact List.forall_mem_append.mpr ⟨lw_r1, List.forall_mem_append.mpr ⟨lw_r2, List.forall_mem_append.mpr ⟨lw_r3, List.forall_mem_append.mpr ⟨lw_r4, List.forall_mem_append.mpr ⟨lw_r5, List.forall_mem_append.mpr ⟨lw_r6, List.forall_mem_append.mpr ⟨lw_r7, List.forall_mem_append.mpr ⟨lw_r8, List.forall_mem_append.mpr ⟨lw_r9, lw_r10⟩⟩⟩⟩⟩⟩⟩⟩⟩
end
section
def at_Ts : List Cond := lw_tbl.filter goodWord
theorem at_in {w : Cond} (h : w ∈ tables_1) (g : goodWord w = true) : w ∈ at_Ts := List.mem_filter.mpr ⟨List.mem_append_right _ h, g⟩
theorem at_m1 {w : Cond} (h : w ∈ tables_1_1) : w ∈ tables_1 := List.mem_append_left _ h
theorem at_m2 {w : Cond} (h : w ∈ tables_1_2) : w ∈ tables_1 := List.mem_append_right _ (List.mem_append_left _ h)
theorem at_m3 {w : Cond} (h : w ∈ tables_1_3) : w ∈ tables_1 := List.mem_append_right _ (List.mem_append_right _ (List.mem_append_left _ h))
theorem at_m4 {w : Cond} (h : w ∈ tables_1_4) : w ∈ tables_1 := List.mem_append_right _ (List.mem_append_right _ (List.mem_append_right _ (List.mem_append_left _ h)))
theorem at_m5 {w : Cond} (h : w ∈ tables_1_5) : w ∈ tables_1 := List.mem_append_right _ (List.mem_append_right _ (List.mem_append_right _ (List.mem_append_right _ (List.mem_append_left _ h))))
theorem at_m6 {w : Cond} (h : w ∈ tables_1_6) : w ∈ tables_1 := List.mem_append_right _ (List.mem_append_right _ (List.mem_append_right _ (List.mem_append_right _ (List.mem_append_right _ (List.mem_append_left _ h)))))
theorem at_m7 {w : Cond} (h : w ∈ tables_1_7) : w ∈ tables_1 := List.mem_append_right _ (List.mem_append_right _ (List.mem_append_right _ (List.mem_append_right _ (List.mem_append_right _ (List.mem_append_right _ (List.mem_append_left _ h))))))
theorem at_m8 {w : Cond} (h : w ∈ tables_1_8) : w ∈ tables_1 := List.mem_append_right _ (List.mem_append_right _ (List.mem_append_right _ (List.mem_append_right _ (List.mem_append_right _ (List.mem_append_right _ (List.mem_append_right _ (List.mem_append_left _ h)))))))
theorem at_m9 {w : Cond} (h : w ∈ tables_1_9) : w ∈ tables_1 := List.mem_append_right _ (List.mem_append_right _ (List.mem_append_right _ (List.mem_append_right _ (List.mem_append_right _ (List.mem_append_right _ (List.mem_append_right _ (List.mem_append_right _ (h))))))))
theorem at_at {w : Cond} (i : Nat) (h : tables_1[i]? = some w) (g : goodWord w = true) : w ∈ at_Ts := at_in (List.mem_of_getElem? h) g
theorem at_pos {ws : List Cond} (ps : List Nat) (h : ws = ps.filterMap (fun i => tables_1[i]?)) (g : ws.all goodWord = true) : ∀ w ∈ ws, w ∈ at_Ts := by
  intro w hw
  refine at_in ?_ (List.all_eq_true.mp g w hw)
  rw [h] at hw
  obtain ⟨i, -, hi⟩ := List.mem_filterMap.mp hw
  exact List.mem_of_getElem? hi
set_option maxRecDepth 100000 in
theorem at_c0 : ∀ r : vw_C, at_cl[0]? = some r → (∀ w ∈ u_ws r.1 r.2.1 r.2.2, w ∈ at_Ts) ∧ (∃ tys : List FieldType, at_ty[0]? = some tys ∧ tys.length = r.2.2 ∧ ∀ k, k < r.2.2 → parseFieldDescriptor (r.2.1 k).2.2.1 = some (tys.getD k .int)) ∧ (∀ a, a < r.2.2 → ∀ b, b < r.2.2 → a ≠ b → (r.2.1 a).2.1 ≠ (r.2.1 b).2.1) ∧ Cond.instantiable r.1 r.2.2 ∈ at_Ts ∧ Cond.initialized r.1 ∈ at_Ts := by
  intro r hr
  cases hr
  exact ⟨at_pos [528, 530, 532, 534, 536, 538, 540, 542, 544] (by decide +kernel) (by decide +kernel), ⟨at_Y0, rfl, by decide +kernel, by decide +kernel⟩, by decide +kernel, at_at 23 (by decide +kernel) (by decide +kernel), at_at 1 (by decide +kernel) (by decide +kernel)⟩
set_option maxRecDepth 100000 in
theorem at_c1 : ∀ r : vw_C, at_cl[1]? = some r → (∀ w ∈ u_ws r.1 r.2.1 r.2.2, w ∈ at_Ts) ∧ (∃ tys : List FieldType, at_ty[1]? = some tys ∧ tys.length = r.2.2 ∧ ∀ k, k < r.2.2 → parseFieldDescriptor (r.2.1 k).2.2.1 = some (tys.getD k .int)) ∧ (∀ a, a < r.2.2 → ∀ b, b < r.2.2 → a ≠ b → (r.2.1 a).2.1 ≠ (r.2.1 b).2.1) ∧ Cond.instantiable r.1 r.2.2 ∈ at_Ts ∧ Cond.initialized r.1 ∈ at_Ts := by
  intro r hr
  cases hr
  exact ⟨at_pos [48, 50, 52, 54, 56, 58] (by decide +kernel) (by decide +kernel), ⟨at_Y1, rfl, by decide +kernel, by decide +kernel⟩, by decide +kernel, at_at 31 (by decide +kernel) (by decide +kernel), at_at 2 (by decide +kernel) (by decide +kernel)⟩
set_option maxRecDepth 100000 in
theorem at_c2 : ∀ r : vw_C, at_cl[2]? = some r → (∀ w ∈ u_ws r.1 r.2.1 r.2.2, w ∈ at_Ts) ∧ (∃ tys : List FieldType, at_ty[2]? = some tys ∧ tys.length = r.2.2 ∧ ∀ k, k < r.2.2 → parseFieldDescriptor (r.2.1 k).2.2.1 = some (tys.getD k .int)) ∧ (∀ a, a < r.2.2 → ∀ b, b < r.2.2 → a ≠ b → (r.2.1 a).2.1 ≠ (r.2.1 b).2.1) ∧ Cond.instantiable r.1 r.2.2 ∈ at_Ts ∧ Cond.initialized r.1 ∈ at_Ts := by
  intro r hr
  cases hr
  exact ⟨at_pos [215, 217, 219, 221, 223, 225, 227] (by decide +kernel) (by decide +kernel), ⟨at_Y2, rfl, by decide +kernel, by decide +kernel⟩, by decide +kernel, at_at 64 (by decide +kernel) (by decide +kernel), at_at 3 (by decide +kernel) (by decide +kernel)⟩
set_option maxRecDepth 100000 in
theorem at_c3 : ∀ r : vw_C, at_cl[3]? = some r → (∀ w ∈ u_ws r.1 r.2.1 r.2.2, w ∈ at_Ts) ∧ (∃ tys : List FieldType, at_ty[3]? = some tys ∧ tys.length = r.2.2 ∧ ∀ k, k < r.2.2 → parseFieldDescriptor (r.2.1 k).2.2.1 = some (tys.getD k .int)) ∧ (∀ a, a < r.2.2 → ∀ b, b < r.2.2 → a ≠ b → (r.2.1 a).2.1 ≠ (r.2.1 b).2.1) ∧ Cond.instantiable r.1 r.2.2 ∈ at_Ts ∧ Cond.initialized r.1 ∈ at_Ts := by
  intro r hr
  cases hr
  exact ⟨at_pos [98, 100, 102, 104, 106] (by decide +kernel) (by decide +kernel), ⟨at_Y3, rfl, by decide +kernel, by decide +kernel⟩, by decide +kernel, at_at 70 (by decide +kernel) (by decide +kernel), at_at 4 (by decide +kernel) (by decide +kernel)⟩
set_option maxRecDepth 100000 in
theorem at_c4 : ∀ r : vw_C, at_cl[4]? = some r → (∀ w ∈ u_ws r.1 r.2.1 r.2.2, w ∈ at_Ts) ∧ (∃ tys : List FieldType, at_ty[4]? = some tys ∧ tys.length = r.2.2 ∧ ∀ k, k < r.2.2 → parseFieldDescriptor (r.2.1 k).2.2.1 = some (tys.getD k .int)) ∧ (∀ a, a < r.2.2 → ∀ b, b < r.2.2 → a ≠ b → (r.2.1 a).2.1 ≠ (r.2.1 b).2.1) ∧ Cond.instantiable r.1 r.2.2 ∈ at_Ts ∧ Cond.initialized r.1 ∈ at_Ts := by
  intro r hr
  cases hr
  exact ⟨at_pos [171, 173, 175, 177, 179, 181, 183] (by decide +kernel) (by decide +kernel), ⟨at_Y4, rfl, by decide +kernel, by decide +kernel⟩, by decide +kernel, at_at 111 (by decide +kernel) (by decide +kernel), at_at 6 (by decide +kernel) (by decide +kernel)⟩
set_option maxRecDepth 100000 in
theorem at_c5 : ∀ r : vw_C, at_cl[5]? = some r → (∀ w ∈ u_ws r.1 r.2.1 r.2.2, w ∈ at_Ts) ∧ (∃ tys : List FieldType, at_ty[5]? = some tys ∧ tys.length = r.2.2 ∧ ∀ k, k < r.2.2 → parseFieldDescriptor (r.2.1 k).2.2.1 = some (tys.getD k .int)) ∧ (∀ a, a < r.2.2 → ∀ b, b < r.2.2 → a ≠ b → (r.2.1 a).2.1 ≠ (r.2.1 b).2.1) ∧ Cond.instantiable r.1 r.2.2 ∈ at_Ts ∧ Cond.initialized r.1 ∈ at_Ts := by
  intro r hr
  cases hr
  exact ⟨at_pos [135, 137] (by decide +kernel) (by decide +kernel), ⟨at_Y5, rfl, by decide +kernel, by decide +kernel⟩, by decide +kernel, at_at 117 (by decide +kernel) (by decide +kernel), at_at 7 (by decide +kernel) (by decide +kernel)⟩
set_option maxRecDepth 100000 in
theorem at_c6 : ∀ r : vw_C, at_cl[6]? = some r → (∀ w ∈ u_ws r.1 r.2.1 r.2.2, w ∈ at_Ts) ∧ (∃ tys : List FieldType, at_ty[6]? = some tys ∧ tys.length = r.2.2 ∧ ∀ k, k < r.2.2 → parseFieldDescriptor (r.2.1 k).2.2.1 = some (tys.getD k .int)) ∧ (∀ a, a < r.2.2 → ∀ b, b < r.2.2 → a ≠ b → (r.2.1 a).2.1 ≠ (r.2.1 b).2.1) ∧ Cond.instantiable r.1 r.2.2 ∈ at_Ts ∧ Cond.initialized r.1 ∈ at_Ts := by
  intro r hr
  cases hr
  exact ⟨at_pos [247, 249, 251, 253, 255, 257, 259, 261, 263, 265] (by decide +kernel) (by decide +kernel), ⟨at_Y6, rfl, by decide +kernel, by decide +kernel⟩, by decide +kernel, at_at 231 (by decide +kernel) (by decide +kernel), at_at 8 (by decide +kernel) (by decide +kernel)⟩
set_option maxRecDepth 100000 in
theorem at_c7 : ∀ r : vw_C, at_cl[7]? = some r → (∀ w ∈ u_ws r.1 r.2.1 r.2.2, w ∈ at_Ts) ∧ (∃ tys : List FieldType, at_ty[7]? = some tys ∧ tys.length = r.2.2 ∧ ∀ k, k < r.2.2 → parseFieldDescriptor (r.2.1 k).2.2.1 = some (tys.getD k .int)) ∧ (∀ a, a < r.2.2 → ∀ b, b < r.2.2 → a ≠ b → (r.2.1 a).2.1 ≠ (r.2.1 b).2.1) ∧ Cond.instantiable r.1 r.2.2 ∈ at_Ts ∧ Cond.initialized r.1 ∈ at_Ts := by
  intro r hr
  cases hr
  exact ⟨at_pos [280, 282, 284, 286] (by decide +kernel) (by decide +kernel), ⟨at_Y7, rfl, by decide +kernel, by decide +kernel⟩, by decide +kernel, at_at 269 (by decide +kernel) (by decide +kernel), at_at 9 (by decide +kernel) (by decide +kernel)⟩
set_option maxRecDepth 100000 in
theorem at_c8 : ∀ r : vw_C, at_cl[8]? = some r → (∀ w ∈ u_ws r.1 r.2.1 r.2.2, w ∈ at_Ts) ∧ (∃ tys : List FieldType, at_ty[8]? = some tys ∧ tys.length = r.2.2 ∧ ∀ k, k < r.2.2 → parseFieldDescriptor (r.2.1 k).2.2.1 = some (tys.getD k .int)) ∧ (∀ a, a < r.2.2 → ∀ b, b < r.2.2 → a ≠ b → (r.2.1 a).2.1 ≠ (r.2.1 b).2.1) ∧ Cond.instantiable r.1 r.2.2 ∈ at_Ts ∧ Cond.initialized r.1 ∈ at_Ts := by
  intro r hr
  cases hr
  exact ⟨at_pos [308, 310, 312, 314, 316, 318, 320] (by decide +kernel) (by decide +kernel), ⟨at_Y8, rfl, by decide +kernel, by decide +kernel⟩, by decide +kernel, at_at 290 (by decide +kernel) (by decide +kernel), at_at 10 (by decide +kernel) (by decide +kernel)⟩
set_option maxRecDepth 100000 in
theorem at_c9 : ∀ r : vw_C, at_cl[9]? = some r → (∀ w ∈ u_ws r.1 r.2.1 r.2.2, w ∈ at_Ts) ∧ (∃ tys : List FieldType, at_ty[9]? = some tys ∧ tys.length = r.2.2 ∧ ∀ k, k < r.2.2 → parseFieldDescriptor (r.2.1 k).2.2.1 = some (tys.getD k .int)) ∧ (∀ a, a < r.2.2 → ∀ b, b < r.2.2 → a ≠ b → (r.2.1 a).2.1 ≠ (r.2.1 b).2.1) ∧ Cond.instantiable r.1 r.2.2 ∈ at_Ts ∧ Cond.initialized r.1 ∈ at_Ts := by
  intro r hr
  cases hr
  exact ⟨at_pos [345, 347, 349, 351, 353, 355, 357, 359, 361, 363, 365] (by decide +kernel) (by decide +kernel), ⟨at_Y9, rfl, by decide +kernel, by decide +kernel⟩, by decide +kernel, at_at 324 (by decide +kernel) (by decide +kernel), at_at 11 (by decide +kernel) (by decide +kernel)⟩
set_option maxRecDepth 100000 in
theorem at_c10 : ∀ r : vw_C, at_cl[10]? = some r → (∀ w ∈ u_ws r.1 r.2.1 r.2.2, w ∈ at_Ts) ∧ (∃ tys : List FieldType, at_ty[10]? = some tys ∧ tys.length = r.2.2 ∧ ∀ k, k < r.2.2 → parseFieldDescriptor (r.2.1 k).2.2.1 = some (tys.getD k .int)) ∧ (∀ a, a < r.2.2 → ∀ b, b < r.2.2 → a ≠ b → (r.2.1 a).2.1 ≠ (r.2.1 b).2.1) ∧ Cond.instantiable r.1 r.2.2 ∈ at_Ts ∧ Cond.initialized r.1 ∈ at_Ts := by
  intro r hr
  cases hr
  exact ⟨at_pos [478, 480, 482, 484, 486, 488, 490, 492, 494, 496, 498, 500, 502, 504, 506, 508, 510, 512, 514] (by decide +kernel) (by decide +kernel), ⟨at_Y10, rfl, by decide +kernel, by decide +kernel⟩, by decide +kernel, at_at 369 (by decide +kernel) (by decide +kernel), at_at 12 (by decide +kernel) (by decide +kernel)⟩
set_option maxRecDepth 100000 in
theorem at_c11 : ∀ r : vw_C, at_cl[11]? = some r → (∀ w ∈ u_ws r.1 r.2.1 r.2.2, w ∈ at_Ts) ∧ (∃ tys : List FieldType, at_ty[11]? = some tys ∧ tys.length = r.2.2 ∧ ∀ k, k < r.2.2 → parseFieldDescriptor (r.2.1 k).2.2.1 = some (tys.getD k .int)) ∧ (∀ a, a < r.2.2 → ∀ b, b < r.2.2 → a ≠ b → (r.2.1 a).2.1 ≠ (r.2.1 b).2.1) ∧ Cond.instantiable r.1 r.2.2 ∈ at_Ts ∧ Cond.initialized r.1 ∈ at_Ts := by
  intro r hr
  cases hr
  exact ⟨at_pos [436, 438, 440, 442, 444, 446, 448, 450] (by decide +kernel) (by decide +kernel), ⟨at_Y11, rfl, by decide +kernel, by decide +kernel⟩, by decide +kernel, at_at 375 (by decide +kernel) (by decide +kernel), at_at 13 (by decide +kernel) (by decide +kernel)⟩
set_option maxRecDepth 100000 in
theorem at_c12 : ∀ r : vw_C, at_cl[12]? = some r → (∀ w ∈ u_ws r.1 r.2.1 r.2.2, w ∈ at_Ts) ∧ (∃ tys : List FieldType, at_ty[12]? = some tys ∧ tys.length = r.2.2 ∧ ∀ k, k < r.2.2 → parseFieldDescriptor (r.2.1 k).2.2.1 = some (tys.getD k .int)) ∧ (∀ a, a < r.2.2 → ∀ b, b < r.2.2 → a ≠ b → (r.2.1 a).2.1 ≠ (r.2.1 b).2.1) ∧ Cond.instantiable r.1 r.2.2 ∈ at_Ts ∧ Cond.initialized r.1 ∈ at_Ts := by
  intro r hr
  cases hr
  exact ⟨at_pos [406, 408, 410, 412, 414] (by decide +kernel) (by decide +kernel), ⟨at_Y12, rfl, by decide +kernel, by decide +kernel⟩, by decide +kernel, at_at 382 (by decide +kernel) (by decide +kernel), at_at 14 (by decide +kernel) (by decide +kernel)⟩
set_option maxRecDepth 100000 in
theorem at_c13 : ∀ r : vw_C, at_cl[13]? = some r → (∀ w ∈ u_ws r.1 r.2.1 r.2.2, w ∈ at_Ts) ∧ (∃ tys : List FieldType, at_ty[13]? = some tys ∧ tys.length = r.2.2 ∧ ∀ k, k < r.2.2 → parseFieldDescriptor (r.2.1 k).2.2.1 = some (tys.getD k .int)) ∧ (∀ a, a < r.2.2 → ∀ b, b < r.2.2 → a ≠ b → (r.2.1 a).2.1 ≠ (r.2.1 b).2.1) ∧ Cond.instantiable r.1 r.2.2 ∈ at_Ts ∧ Cond.initialized r.1 ∈ at_Ts := by
  intro r hr
  cases hr
  exact ⟨at_pos [1370, 1372, 1374, 1376, 1378, 1380, 1382, 1384, 1386, 1388, 1390, 1392, 1394, 1396, 1398, 1400, 1402, 1404, 1406, 1408, 1410, 1412, 1414, 1416, 1418, 1420, 1422, 1424, 1426, 1428, 1430, 1432, 1434, 1436, 1438, 1440, 1442, 1444, 1446, 1448, 1450, 1452, 1454, 1456, 1458, 1460, 1462, 1464, 1466, 1468, 1470, 1472, 1474, 1476, 1478, 1480, 1482, 1484, 1486, 1488, 1490, 1492, 1494, 1496, 1498, 1500, 1502, 1504, 1506, 1508, 1510, 1512, 1514, 1516, 1518, 1520, 1522, 1524, 1526, 1528, 1530, 1532, 1534, 1536, 1538, 1540, 1542, 1544, 1546, 1548, 1550, 1552, 1554, 1556, 1558, 1560, 1562, 1564, 1566, 1568, 1570, 1572, 1574, 1576, 1578, 1580, 1582, 1584, 1586, 1588, 1590, 1592, 1594, 1596, 1598] (by decide +kernel) (by decide +kernel), ⟨at_Y13, rfl, by decide +kernel, by decide +kernel⟩, by decide +kernel, at_at 1248 (by decide +kernel) (by decide +kernel), at_at 15 (by decide +kernel) (by decide +kernel)⟩
theorem at_Cls : am_Cls at_Ts at_cl at_ty := by
  intro ci r hr
  match ci, hr with
  | 0, hr => exact at_c0 r hr
  | 1, hr => exact at_c1 r hr
  | 2, hr => exact at_c2 r hr
  | 3, hr => exact at_c3 r hr
  | 4, hr => exact at_c4 r hr
  | 5, hr => exact at_c5 r hr
  | 6, hr => exact at_c6 r hr
  | 7, hr => exact at_c7 r hr
  | 8, hr => exact at_c8 r hr
  | 9, hr => exact at_c9 r hr
  | 10, hr => exact at_c10 r hr
  | 11, hr => exact at_c11 r hr
  | 12, hr => exact at_c12 r hr
  | 13, hr => exact at_c13 r hr
  | n + 14, hr => cases hr
end
section
/-! the methods: what a program decides of them -/
def at_AO : List String := ["EquationProofs$Equation", "EquationProofs$Term", "EquationProofs$Goal"]
def at_NL : am_NL := [("EquationProofs", 9, ⟨"EquationProofs$Tape", "<init>", "()V"⟩, "EquationProofs"), ("EquationProofs$Program", 35, ⟨"EquationProofs$Equation", "<init>", "()V"⟩, "EquationProofs")]
def at_nm (N : List MethodName) : Nat → MethodName
  | 0 => Lib.objectInit
  | 1 => Lib.Math.max.name
  | 2 => Lib.Math.min.name
  | 3 => arraycopyName
  | j + 4 => N.getD j Lib.objectInit
def at_fw (own : String) (q : Nat × Nat × Nat) : Cond := match at_cl[q.2.1]? with
  | some r => .fieldLink own q.1 (r.2.1 q.2.2).1 (r.2.1 q.2.2).2.1 (r.2.1 q.2.2).2.2.1
  | none => .fieldLink own q.1 "" "" ""
def at_nw (own : String) (q : Nat × Nat) : Cond := match at_cl[q.2]? with
  | some r => .classLink own q.1 r.1
  | none => .classLink own q.1 ""
def at_okF (q : Nat × Nat × Nat) : Bool := match at_cl[q.2.1]? with
  | some r => decide (q.2.2 < r.2.2)
  | none => false
def at_okP (own name : String) (q : Nat × Nat × Nat) : Bool := match at_cl[q.2.1]? with
  | some r => !(r.2.1 q.2.2).2.2.2 || (decide (name = "<init>") && decide ((r.2.1 q.2.2).1 = own))
  | none => false
def at_ps (ws : List Cond) (ps : List Nat) : Bool := decide (ws = ps.filterMap (fun i => tables_1[i]?)) && ws.all goodWord
def at_okT (own name : String) (T : am_T) (pG pP pN pA pK : List Nat) : Bool :=
  at_ps (T.1.map (at_fw own)) pG && (T.1.all at_okF && (at_ps (T.2.1.map (at_fw own)) pP && (T.2.1.all at_okF && (T.2.1.all (at_okP own name) && (at_ps (T.2.2.1.map (at_nw own)) pN && (T.2.2.1.all (fun q => (at_cl[q.2]?).isSome) &&
  (at_ps (T.2.2.2.1.map (fun q => Cond.classLink own q.1 q.2)) pA && (T.2.2.2.1.all (fun q => decide (q.2 ∈ at_AO)) && at_ps (T.2.2.2.2.1.map (fun q => am_cst own q.1 q.2)) pK))))))))
theorem at_ps_of {ws : List Cond} {ps : List Nat} (h : at_ps ws ps = true) : ∀ w ∈ ws, w ∈ at_Ts := by
  unfold at_ps at h
  simp only [Bool.and_eq_true, decide_eq_true_eq] at h
  exact at_pos ps h.1 h.2
theorem at_fw_of {own : String} {l : List (Nat × Nat × Nat)} {ps : List Nat} (h : at_ps (l.map (at_fw own)) ps = true) (h2 : l.all at_okF = true) : ∀ q ∈ l, ∃ r : vw_C, at_cl[q.2.1]? = some r ∧ q.2.2 < r.2.2 ∧ Cond.fieldLink own q.1 (r.2.1 q.2.2).1 (r.2.1 q.2.2).2.1 (r.2.1 q.2.2).2.2.1 ∈ at_Ts := by
  intro q hq
  have h3 := at_ps_of h _ (List.mem_map.mpr ⟨q, hq, rfl⟩)
  have h4 := List.all_eq_true.mp h2 q hq
  unfold at_okF at h4
  unfold at_fw at h3
  split at h4
  · rename_i r hr
    rw [hr] at h3
    exact ⟨r, hr, of_decide_eq_true h4, h3⟩
  · cases h4
theorem at_okT_of {own name : String} {T : am_T} {pG pP pN pA pK : List Nat} (h : at_okT own name T pG pP pN pA pK = true) : am_Tok at_Ts at_cl at_AO own name T := by
  unfold at_okT at h
  simp only [Bool.and_eq_true] at h
  obtain ⟨h1, h2, h3, h4, h5, h6, h7, h8, h9, h10⟩ := h
  refine ⟨at_fw_of h1 h2, fun q hq => ?_, fun q hq => ?_, fun q hq => ?_, fun q hq => ?_⟩
  · obtain ⟨r, e1, e2, e3⟩ := at_fw_of h3 h4 q hq
    refine ⟨r, e1, e2, e3, ?_⟩
    have e4 := List.all_eq_true.mp h5 q hq
    unfold at_okP at e4
    rw [e1] at e4
    simp only [Bool.or_eq_true, Bool.and_eq_true, decide_eq_true_eq, Bool.not_eq_true'] at e4
    exact e4
  · have e1 := List.all_eq_true.mp h7 q hq
    obtain ⟨r, hr⟩ := Option.isSome_iff_exists.mp e1
    have e2 := at_ps_of h6 _ (List.mem_map.mpr ⟨q, hq, rfl⟩)
    unfold at_nw at e2
    rw [hr] at e2
    exact ⟨r, hr, e2⟩
  · exact ⟨at_ps_of h8 _ (List.mem_map.mpr ⟨q, hq, rfl⟩), of_decide_eq_true (List.all_eq_true.mp h9 q hq)⟩
  · exact at_ps_of h10 _ (List.mem_map.mpr ⟨q, hq, rfl⟩)
/-- a call's entry: its word at a place of the tables, or one of the nest's -/
def at_okC (N : List MethodName) (X : List Nat) (own : String) (x : (Nat × Nat) × Nat) : Bool := decide (tables_1[x.2]? = some (Cond.methodLink own x.1.1 (at_nm N x.1.2))) || (decide (4 ≤ x.1.2) && (decide (X.getD (x.1.2 - 4) 0 = 2000) && decide ((own, x.1.1, at_nm N x.1.2, "EquationProofs") ∈ at_NL)))
def at_okD (M : am_M) : Bool := M.2.2.2.2.2.1.all (fun q => decide (decode M.2.1 q.1 = .ok (q.2.1, q.2.2)))
theorem at_body {P : List am_M} {N : List MethodName} {X : List Nat} (hN : P.map (fun M => M.1) = N) (hX : P.map (fun M => M.2.2.2.2.2.2.2) = X) {M : am_M} {pG pP pN pA pK pC : List Nat} (hT : at_okT M.1.cls M.1.name M.2.2.2.2.1 pG pP pN pA pK = true) (hD : at_okD M = true) (hl : M.2.2.2.2.1.2.2.2.2.2.length = pC.length) (hC : (M.2.2.2.2.1.2.2.2.2.2.zip pC).all (at_okC N X M.1.cls) = true) : am_Body at_Ts P at_cl at_AO at_NL M := by
  refine ⟨at_okT_of hT, fun q hq => of_decide_eq_true (List.all_eq_true.mp hD q hq), fun q hq => ?_⟩
  obtain ⟨i, hi⟩ := List.getElem?_of_mem hq
  have hi2 : i < pC.length := by
    rw [← hl]
    exact (List.getElem?_eq_some_iff.mp hi).1
  have hz : (q, pC[i]) ∈ M.2.2.2.2.1.2.2.2.2.2.zip pC := by
    refine List.mem_of_getElem? (i := i) ?_
    rw [List.getElem?_zip_eq_some]
    exact ⟨hi, List.getElem?_eq_getElem hi2⟩
  have h1 := List.all_eq_true.mp hC _ hz
  unfold at_okC at h1
  simp only [Bool.or_eq_true, Bool.and_eq_true, decide_eq_true_eq] at h1
  rcases h1 with h1 | ⟨h1, h2, h3⟩
  · have h4 : Cond.methodLink M.1.cls q.1 (at_nm N q.2) ∈ at_Ts := at_in (List.mem_of_getElem? h1) rfl
    refine ⟨fun e => ?_, fun e => ?_, fun e => ?_, fun e => ?_, fun M' e h5 => Or.inl ?_⟩
    · rw [e] at h4; exact h4
    · rw [e] at h4; exact h4
    · rw [e] at h4; exact h4
    · rw [e] at h4; exact h4
    · obtain ⟨j, hj⟩ : ∃ j, q.2 = j + 4 := ⟨q.2 - 4, by omega⟩
      rw [hj] at h4 h5
      have h6 : N[j]? = some M'.1 := by
        rw [← hN, List.getElem?_map, show j = j + 4 - 4 by omega, h5]
        rfl
      have h7 : at_nm N (j + 4) = M'.1 := by
        show N.getD j _ = _
        rw [List.getD_eq_getElem?_getD, h6]
        rfl
      rw [h7] at h4
      exact h4
  · refine ⟨fun e => ?_, fun e => ?_, fun e => ?_, fun e => ?_, fun M' e h5 => Or.inr ⟨"EquationProofs", ?_, ?_⟩⟩
    · omega
    · omega
    · omega
    · omega
    · obtain ⟨j, hj⟩ : ∃ j, q.2 = j + 4 := ⟨q.2 - 4, by omega⟩
      rw [hj] at h3 h5
      have h6 : N[j]? = some M'.1 := by
        rw [← hN, List.getElem?_map, show j = j + 4 - 4 by omega, h5]
        rfl
      have h7 : at_nm N (j + 4) = M'.1 := by
        show N.getD j _ = _
        rw [List.getD_eq_getElem?_getD, h6]
        rfl
      rw [h7] at h3
      exact h3
    · have h6 : X[q.2 - 4]? = some M'.2.2.2.2.2.2.2 := by
        rw [← hX, List.getElem?_map, h5]
        rfl
      rw [List.getD_eq_getElem?_getD, h6] at h2
      exact h2
/-- what a callee must be: places of its words; selects of a private one: its place among those -/
def at_okM (KL : Nat) (M : am_M) (pc pi ps pn pl pv : Nat) : Bool :=
  plainName M.1.cls && (true && (decide (tables_1[pi]? = some (Cond.initialized M.1.cls)) && (decide (M.1.cls ≠ "java/lang/invoke/MethodHandle" ∧ M.1.cls ≠ "java/lang/invoke/VarHandle") && (decide ((parseMethodDescriptor M.1.desc).map (fun d => d.parameters.length) = some M.2.2.2.2.2.2.1) && (decide (19 + M.2.2.1 ≤ KL) &&
  (goodWord (Cond.code M.1 M.2.1 M.2.2.1 M.2.2.2.1) && (goodWord (Cond.initialized M.1.cls) &&
  (if M.2.2.2.2.2.2.2 = 1000 then decide (tables_1[ps]? = some (Cond.static M.1)) && goodWord (Cond.static M.1) else
   if M.2.2.2.2.2.2.2 = 2000 then decide (M.1.name = "<init>") && (decide (tables_1[pn]? = some (Cond.instanceMethod M.1)) && (goodWord (Cond.instanceMethod M.1) && decide (M.2.2.2.1 = none))) else
   (match at_cl[M.2.2.2.2.2.2.2]? with
    | some r => decide (r.1 = M.1.cls) && (decide (tables_1[pn]? = some (Cond.instanceMethod M.1)) && (goodWord (Cond.instanceMethod M.1) && (goodWord (Cond.selects M.1.cls M.1 M.1) && (decide (tables_1[pl]? = some (Cond.selects M.1.cls M.1 M.1)) || decide ((lw_privs[pv]?).map (fun q => q.1) = some M.1)))))
    | none => false)))))))))
theorem at_sel {y : MethodName} {pv : Nat} (h : (lw_privs[pv]?).map (fun q => q.1) = some y) (g : goodWord (Cond.selects y.cls y y) = true) : Cond.selects y.cls y y ∈ at_Ts := by
  refine List.mem_filter.mpr ⟨List.mem_append_left _ ?_, g⟩
  obtain ⟨q, hq, e⟩ := Option.map_eq_some_iff.mp h
  refine List.mem_map.mpr ⟨q, List.mem_of_getElem? hq, ?_⟩
  rw [e]
theorem at_call {KL : Nat} {M : am_M} {pc pi ps pn pl pv : Nat} (h2 : Cond.code M.1 M.2.1 M.2.2.1 M.2.2.2.1 ∈ tables_1) (h : at_okM KL M pc pi ps pn pl pv = true) : am_Call at_Ts at_cl KL M := by
  unfold at_okM at h
  simp only [Bool.and_eq_true, decide_eq_true_eq] at h
  obtain ⟨h1, -, h3, h4, h5, h6, h7, h8, h9⟩ := h
  refine ⟨h1, at_in h2 h7, at_at pi h3 h8, h4, h5, h6, fun e => ?_, fun e => ?_, fun r hr => ?_⟩
  · rw [if_pos e] at h9
    simp only [Bool.and_eq_true, decide_eq_true_eq] at h9
    exact at_at ps h9.1 h9.2
  · rw [if_neg (by rw [e]; decide), if_pos e] at h9
    simp only [Bool.and_eq_true, decide_eq_true_eq] at h9
    exact ⟨h9.1, at_at pn h9.2.1 h9.2.2.1, h9.2.2.2⟩
  · have hlt : M.2.2.2.2.2.2.2 < at_cl.length := (List.getElem?_eq_some_iff.mp hr).1
    have hL : at_cl.length = 14 := rfl
    rw [if_neg (by omega), if_neg (by omega), hr] at h9
    simp only [Bool.and_eq_true, Bool.or_eq_true, decide_eq_true_eq] at h9
    obtain ⟨e1, e2, e3, e4, e5⟩ := h9
    refine ⟨e1, at_at pn e2 e3, ?_⟩
    rcases e5 with e5 | e5
    · exact at_at pl e5 e4
    · exact at_sel e5 e4
end
section
/-! what a program decides of each method -/
theorem bd_0 : am_Body at_Ts at_P at_cl at_AO at_NL mt_0 := at_body at_PN at_PX (pG := [519, 520, 523]) (pP := [519, 520, 521, 522, 523, 524, 525, 526]) (pN := [30, 63, 230, 268, 289, 323, 368, 517]) (pA := []) (pK := []) (pC := [27, 0, 65, 232, 270, 291, 325, 370, 518]) (by decide +kernel) (by decide +kernel) (by decide +kernel) (by decide +kernel)
set_option maxRecDepth 100000 in
theorem ca_0 : am_Call at_Ts at_cl 60 mt_0 := at_call (KL := 60) (M := mt_0) (pc := 26) (pi := 1) (ps := 0) (pn := 25) (pl := 0) (pv := 0) (at_m1 (List.mem_of_getElem? (i := 26) rfl)) (by decide +kernel)
theorem bd_1 : am_Body at_Ts at_P at_cl at_AO at_NL mt_1 := at_body at_PN at_PX (pG := [519, 37]) (pP := []) (pN := []) (pA := []) (pK := []) (pC := [1219]) (by decide +kernel) (by decide +kernel) (by decide +kernel) (by decide +kernel)
set_option maxRecDepth 100000 in
theorem ca_1 : am_Call at_Ts at_cl 60 mt_1 := at_call (KL := 60) (M := mt_1) (pc := 1151) (pi := 1) (ps := 0) (pn := 1149) (pl := 1150) (pv := 0) (at_m5 (List.mem_of_getElem? (i := 191) rfl)) (by decide +kernel)
theorem bd_2 : am_Body at_Ts at_P at_cl at_AO at_NL mt_2 := at_body at_PN at_PX (pG := [519, 37]) (pP := [37]) (pN := []) (pA := []) (pK := []) (pC := []) (by decide +kernel) (by decide +kernel) (by decide +kernel) (by decide +kernel)
set_option maxRecDepth 100000 in
theorem ca_2 : am_Call at_Ts at_cl 60 mt_2 := at_call (KL := 60) (M := mt_2) (pc := 1230) (pi := 1) (ps := 0) (pn := 1228) (pl := 1229) (pv := 0) (at_m6 (List.mem_of_getElem? (i := 30) rfl)) (by decide +kernel)
theorem bd_3 : am_Body at_Ts at_P at_cl at_AO at_NL mt_3 := at_body at_PN at_PX (pG := [521, 519, 525, 460]) (pP := [37]) (pN := []) (pA := []) (pK := []) (pC := [551, 730]) (by decide +kernel) (by decide +kernel) (by decide +kernel) (by decide +kernel)
set_option maxRecDepth 100000 in
theorem ca_3 : am_Call at_Ts at_cl 60 mt_3 := at_call (KL := 60) (M := mt_3) (pc := 550) (pi := 1) (ps := 0) (pn := 548) (pl := 549) (pv := 0) (at_m3 (List.mem_of_getElem? (i := 70) rfl)) (by decide +kernel)
theorem bd_4 : am_Body at_Ts at_P at_cl at_AO at_NL mt_4 := at_body at_PN at_PX (pG := [521, 240]) (pP := []) (pN := []) (pA := []) (pK := []) (pC := []) (by decide +kernel) (by decide +kernel) (by decide +kernel) (by decide +kernel)
set_option maxRecDepth 100000 in
theorem ca_4 : am_Call at_Ts at_cl 60 mt_4 := at_call (KL := 60) (M := mt_4) (pc := 737) (pi := 1) (ps := 0) (pn := 735) (pl := 736) (pv := 0) (at_m4 (List.mem_of_getElem? (i := 17) rfl)) (by decide +kernel)
theorem bd_5 : am_Body at_Ts at_P at_cl at_AO at_NL mt_5 := at_body at_PN at_PX (pG := [525, 460, 520, 189, 96, 194, 199, 210, 213, 423, 426, 419, 399]) (pP := []) (pN := []) (pA := []) (pK := []) (pC := []) (by decide +kernel) (by decide +kernel) (by decide +kernel) (by decide +kernel)
set_option maxRecDepth 100000 in
theorem ca_5 : am_Call at_Ts at_cl 60 mt_5 := at_call (KL := 60) (M := mt_5) (pc := 741) (pi := 1) (ps := 0) (pn := 739) (pl := 740) (pv := 0) (at_m4 (List.mem_of_getElem? (i := 21) rfl)) (by decide +kernel)
theorem bd_6 : am_Body at_Ts at_P at_cl at_AO at_NL mt_6 := at_body at_PN at_PX (pG := [520, 206, 169, 161, 146, 132, 152]) (pP := []) (pN := []) (pA := []) (pK := []) (pC := [746]) (by decide +kernel) (by decide +kernel) (by decide +kernel) (by decide +kernel)
set_option maxRecDepth 100000 in
theorem ca_6 : am_Call at_Ts at_cl 60 mt_6 := at_call (KL := 60) (M := mt_6) (pc := 745) (pi := 1) (ps := 0) (pn := 743) (pl := 744) (pv := 0) (at_m4 (List.mem_of_getElem? (i := 25) rfl)) (by decide +kernel)
theorem bd_7 : am_Body at_Ts at_P at_cl at_AO at_NL mt_7 := at_body at_PN at_PX (pG := [521, 526, 519, 523, 307, 522]) (pP := [37, 527]) (pN := []) (pA := []) (pK := []) (pC := [754, 758, 798]) (by decide +kernel) (by decide +kernel) (by decide +kernel) (by decide +kernel)
set_option maxRecDepth 100000 in
theorem ca_7 : am_Call at_Ts at_cl 60 mt_7 := at_call (KL := 60) (M := mt_7) (pc := 753) (pi := 1) (ps := 0) (pn := 751) (pl := 752) (pv := 0) (at_m4 (List.mem_of_getElem? (i := 33) rfl)) (by decide +kernel)
theorem bd_8 : am_Body at_Ts at_P at_cl at_AO at_NL mt_8 := at_body at_PN at_PX (pG := [527]) (pP := []) (pN := []) (pA := []) (pK := []) (pC := []) (by decide +kernel) (by decide +kernel) (by decide +kernel) (by decide +kernel)
set_option maxRecDepth 100000 in
theorem ca_8 : am_Call at_Ts at_cl 60 mt_8 := at_call (KL := 60) (M := mt_8) (pc := 824) (pi := 1) (ps := 0) (pn := 822) (pl := 823) (pv := 0) (at_m4 (List.mem_of_getElem? (i := 104) rfl)) (by decide +kernel)
theorem bd_9 : am_Body at_Ts at_P at_cl at_AO at_NL mt_9 := at_body at_PN at_PX (pG := [520, 524, 206]) (pP := []) (pN := []) (pA := []) (pK := []) (pC := [746, 829]) (by decide +kernel) (by decide +kernel) (by decide +kernel) (by decide +kernel)
set_option maxRecDepth 100000 in
theorem ca_9 : am_Call at_Ts at_cl 60 mt_9 := at_call (KL := 60) (M := mt_9) (pc := 828) (pi := 1) (ps := 0) (pn := 826) (pl := 827) (pv := 0) (at_m4 (List.mem_of_getElem? (i := 108) rfl)) (by decide +kernel)
theorem bd_10 : am_Body at_Ts at_P at_cl at_AO at_NL mt_10 := at_body at_PN at_PX (pG := [524, 344, 522, 339]) (pP := []) (pN := []) (pA := []) (pK := []) (pC := [798]) (by decide +kernel) (by decide +kernel) (by decide +kernel) (by decide +kernel)
set_option maxRecDepth 100000 in
theorem ca_10 : am_Call at_Ts at_cl 60 mt_10 := at_call (KL := 60) (M := mt_10) (pc := 898) (pi := 1) (ps := 0) (pn := 896) (pl := 897) (pv := 0) (at_m4 (List.mem_of_getElem? (i := 178) rfl)) (by decide +kernel)
theorem bd_11 : am_Body at_Ts at_P at_cl at_AO at_NL mt_11 := at_body at_PN at_PX (pG := [520, 525, 460, 206, 423]) (pP := []) (pN := []) (pA := []) (pK := []) (pC := [746, 903]) (by decide +kernel) (by decide +kernel) (by decide +kernel) (by decide +kernel)
set_option maxRecDepth 100000 in
theorem ca_11 : am_Call at_Ts at_cl 60 mt_11 := at_call (KL := 60) (M := mt_11) (pc := 902) (pi := 1) (ps := 0) (pn := 900) (pl := 901) (pv := 0) (at_m4 (List.mem_of_getElem? (i := 182) rfl)) (by decide +kernel)
theorem bd_12 : am_Body at_Ts at_P at_cl at_AO at_NL mt_12 := at_body at_PN at_PX (pG := [525]) (pP := []) (pN := []) (pA := []) (pK := []) (pC := [913, 917, 927]) (by decide +kernel) (by decide +kernel) (by decide +kernel) (by decide +kernel)
set_option maxRecDepth 100000 in
theorem ca_12 : am_Call at_Ts at_cl 60 mt_12 := at_call (KL := 60) (M := mt_12) (pc := 912) (pi := 1) (ps := 0) (pn := 910) (pl := 911) (pv := 0) (at_m4 (List.mem_of_getElem? (i := 192) rfl)) (by decide +kernel)
theorem bd_13 : am_Body at_Ts at_P at_cl at_AO at_NL mt_13 := at_body at_PN at_PX (pG := [520, 525]) (pP := []) (pN := []) (pA := []) (pK := []) (pC := [746, 913, 943, 917, 949]) (by decide +kernel) (by decide +kernel) (by decide +kernel) (by decide +kernel)
set_option maxRecDepth 100000 in
theorem ca_13 : am_Call at_Ts at_cl 60 mt_13 := at_call (KL := 60) (M := mt_13) (pc := 942) (pi := 1) (ps := 0) (pn := 940) (pl := 941) (pv := 0) (at_m4 (List.mem_of_getElem? (i := 222) rfl)) (by decide +kernel)
theorem bd_14 : am_Body at_Ts at_P at_cl at_AO at_NL mt_14 := at_body at_PN at_PX (pG := [525]) (pP := []) (pN := []) (pA := []) (pK := []) (pC := [913, 980, 917, 949]) (by decide +kernel) (by decide +kernel) (by decide +kernel) (by decide +kernel)
set_option maxRecDepth 100000 in
theorem ca_14 : am_Call at_Ts at_cl 60 mt_14 := at_call (KL := 60) (M := mt_14) (pc := 979) (pi := 1) (ps := 0) (pn := 977) (pl := 978) (pv := 0) (at_m5 (List.mem_of_getElem? (i := 19) rfl)) (by decide +kernel)
theorem bd_15 : am_Body at_Ts at_P at_cl at_AO at_NL mt_15 := at_body at_PN at_PX (pG := [525, 460, 423]) (pP := []) (pN := []) (pA := []) (pK := []) (pC := [988]) (by decide +kernel) (by decide +kernel) (by decide +kernel) (by decide +kernel)
set_option maxRecDepth 100000 in
theorem ca_15 : am_Call at_Ts at_cl 60 mt_15 := at_call (KL := 60) (M := mt_15) (pc := 987) (pi := 1) (ps := 0) (pn := 985) (pl := 986) (pv := 0) (at_m5 (List.mem_of_getElem? (i := 27) rfl)) (by decide +kernel)
theorem bd_16 : am_Body at_Ts at_P at_cl at_AO at_NL mt_16 := at_body at_PN at_PX (pG := [525]) (pP := []) (pN := []) (pA := []) (pK := []) (pC := [913, 917, 1065]) (by decide +kernel) (by decide +kernel) (by decide +kernel) (by decide +kernel)
set_option maxRecDepth 100000 in
theorem ca_16 : am_Call at_Ts at_cl 60 mt_16 := at_call (KL := 60) (M := mt_16) (pc := 1064) (pi := 1) (ps := 0) (pn := 1062) (pl := 1063) (pv := 0) (at_m5 (List.mem_of_getElem? (i := 104) rfl)) (by decide +kernel)
theorem bd_17 : am_Body at_Ts at_P at_cl at_AO at_NL mt_17 := at_body at_PN at_PX (pG := [525, 460, 423]) (pP := []) (pN := []) (pA := []) (pK := []) (pC := [1074]) (by decide +kernel) (by decide +kernel) (by decide +kernel) (by decide +kernel)
set_option maxRecDepth 100000 in
theorem ca_17 : am_Call at_Ts at_cl 60 mt_17 := at_call (KL := 60) (M := mt_17) (pc := 1073) (pi := 1) (ps := 0) (pn := 1071) (pl := 1072) (pv := 0) (at_m5 (List.mem_of_getElem? (i := 113) rfl)) (by decide +kernel)
theorem bd_18 : am_Body at_Ts at_P at_cl at_AO at_NL mt_18 := at_body at_PN at_PX (pG := [525, 460, 423]) (pP := []) (pN := []) (pA := []) (pK := []) (pC := [1083]) (by decide +kernel) (by decide +kernel) (by decide +kernel) (by decide +kernel)
set_option maxRecDepth 100000 in
theorem ca_18 : am_Call at_Ts at_cl 60 mt_18 := at_call (KL := 60) (M := mt_18) (pc := 1082) (pi := 1) (ps := 0) (pn := 1080) (pl := 1081) (pv := 0) (at_m5 (List.mem_of_getElem? (i := 122) rfl)) (by decide +kernel)
theorem bd_19 : am_Body at_Ts at_P at_cl at_AO at_NL mt_19 := at_body at_PN at_PX (pG := [525, 460, 423, 462]) (pP := []) (pN := []) (pA := []) (pK := []) (pC := [1091, 1100]) (by decide +kernel) (by decide +kernel) (by decide +kernel) (by decide +kernel)
set_option maxRecDepth 100000 in
theorem ca_19 : am_Call at_Ts at_cl 60 mt_19 := at_call (KL := 60) (M := mt_19) (pc := 1090) (pi := 1) (ps := 0) (pn := 1088) (pl := 1089) (pv := 0) (at_m5 (List.mem_of_getElem? (i := 130) rfl)) (by decide +kernel)
theorem bd_20 : am_Body at_Ts at_P at_cl at_AO at_NL mt_20 := at_body at_PN at_PX (pG := [525, 460, 423, 522, 419, 392]) (pP := []) (pN := []) (pA := []) (pK := []) (pC := [798]) (by decide +kernel) (by decide +kernel) (by decide +kernel) (by decide +kernel)
set_option maxRecDepth 100000 in
theorem ca_20 : am_Call at_Ts at_cl 60 mt_20 := at_call (KL := 60) (M := mt_20) (pc := 1131) (pi := 1) (ps := 0) (pn := 1129) (pl := 1130) (pv := 0) (at_m5 (List.mem_of_getElem? (i := 171) rfl)) (by decide +kernel)
theorem bd_21 : am_Body at_Ts at_P at_cl at_AO at_NL mt_21 := at_body at_PN at_PX (pG := [525, 460, 423, 419, 399, 522, 392, 395]) (pP := []) (pN := []) (pA := []) (pK := []) (pC := [798]) (by decide +kernel) (by decide +kernel) (by decide +kernel) (by decide +kernel)
set_option maxRecDepth 100000 in
theorem ca_21 : am_Call at_Ts at_cl 60 mt_21 := at_call (KL := 60) (M := mt_21) (pc := 1135) (pi := 1) (ps := 0) (pn := 1133) (pl := 1134) (pv := 0) (at_m5 (List.mem_of_getElem? (i := 175) rfl)) (by decide +kernel)
theorem bd_22 : am_Body at_Ts at_P at_cl at_AO at_NL mt_22 := at_body at_PN at_PX (pG := [520, 206, 522, 146, 152]) (pP := []) (pN := []) (pA := []) (pK := []) (pC := [746, 798]) (by decide +kernel) (by decide +kernel) (by decide +kernel) (by decide +kernel)
set_option maxRecDepth 100000 in
theorem ca_22 : am_Call at_Ts at_cl 60 mt_22 := at_call (KL := 60) (M := mt_22) (pc := 1139) (pi := 1) (ps := 0) (pn := 1137) (pl := 1138) (pv := 0) (at_m5 (List.mem_of_getElem? (i := 179) rfl)) (by decide +kernel)
theorem bd_23 : am_Body at_Ts at_P at_cl at_AO at_NL mt_23 := at_body at_PN at_PX (pG := [522, 279, 276]) (pP := []) (pN := []) (pA := []) (pK := []) (pC := []) (by decide +kernel) (by decide +kernel) (by decide +kernel) (by decide +kernel)
set_option maxRecDepth 100000 in
theorem ca_23 : am_Call at_Ts at_cl 60 mt_23 := at_call (KL := 60) (M := mt_23) (pc := 1143) (pi := 1) (ps := 0) (pn := 1141) (pl := 1142) (pv := 0) (at_m5 (List.mem_of_getElem? (i := 183) rfl)) (by decide +kernel)
theorem bd_24 : am_Body at_Ts at_P at_cl at_AO at_NL mt_24 := at_body at_PN at_PX (pG := [525, 460, 423]) (pP := []) (pN := []) (pA := []) (pK := []) (pC := []) (by decide +kernel) (by decide +kernel) (by decide +kernel) (by decide +kernel)
set_option maxRecDepth 100000 in
theorem ca_24 : am_Call at_Ts at_cl 60 mt_24 := at_call (KL := 60) (M := mt_24) (pc := 916) (pi := 1) (ps := 0) (pn := 915) (pl := 0) (pv := 42) (at_m4 (List.mem_of_getElem? (i := 196) rfl)) (by decide +kernel)
theorem bd_25 : am_Body at_Ts at_P at_cl at_AO at_NL mt_25 := at_body at_PN at_PX (pG := []) (pP := [36, 40, 42, 44]) (pN := []) (pA := []) (pK := []) (pC := [35]) (by decide +kernel) (by decide +kernel) (by decide +kernel) (by decide +kernel)
set_option maxRecDepth 100000 in
theorem ca_25 : am_Call at_Ts at_cl 60 mt_25 := at_call (KL := 60) (M := mt_25) (pc := 34) (pi := 2) (ps := 0) (pn := 33) (pl := 0) (pv := 0) (at_m1 (List.mem_of_getElem? (i := 34) rfl)) (by decide +kernel)
theorem bd_26 : am_Body at_Ts at_P at_cl at_AO at_NL mt_26 := at_body at_PN at_PX (pG := [38, 36]) (pP := [38]) (pN := []) (pA := []) (pK := []) (pC := []) (by decide +kernel) (by decide +kernel) (by decide +kernel) (by decide +kernel)
set_option maxRecDepth 100000 in
theorem ca_26 : am_Call at_Ts at_cl 60 mt_26 := at_call (KL := 60) (M := mt_26) (pc := 1222) (pi := 2) (ps := 0) (pn := 1220) (pl := 1221) (pv := 0) (at_m6 (List.mem_of_getElem? (i := 22) rfl)) (by decide +kernel)
theorem bd_27 : am_Body at_Ts at_P at_cl at_AO at_NL mt_27 := at_body at_PN at_PX (pG := [38, 36]) (pP := [46]) (pN := []) (pA := []) (pK := []) (pC := [559, 562, 566, 570, 577, 580]) (by decide +kernel) (by decide +kernel) (by decide +kernel) (by decide +kernel)
set_option maxRecDepth 100000 in
theorem ca_27 : am_Call at_Ts at_cl 60 mt_27 := at_call (KL := 60) (M := mt_27) (pc := 558) (pi := 2) (ps := 0) (pn := 556) (pl := 557) (pv := 0) (at_m3 (List.mem_of_getElem? (i := 78) rfl)) (by decide +kernel)
theorem bd_28 : am_Body at_Ts at_P at_cl at_AO at_NL mt_28 := at_body at_PN at_PX (pG := [46, 40, 42, 44]) (pP := [46]) (pN := []) (pA := []) (pK := []) (pC := []) (by decide +kernel) (by decide +kernel) (by decide +kernel) (by decide +kernel)
set_option maxRecDepth 100000 in
theorem ca_28 : am_Call at_Ts at_cl 60 mt_28 := at_call (KL := 60) (M := mt_28) (pc := 583) (pi := 2) (ps := 0) (pn := 582) (pl := 0) (pv := 2) (at_m3 (List.mem_of_getElem? (i := 103) rfl)) (by decide +kernel)
theorem bd_29 : am_Body at_Ts at_P at_cl at_AO at_NL mt_29 := at_body at_PN at_PX (pG := [38, 36]) (pP := []) (pN := []) (pA := []) (pK := []) (pC := [559]) (by decide +kernel) (by decide +kernel) (by decide +kernel) (by decide +kernel)
set_option maxRecDepth 100000 in
theorem ca_29 : am_Call at_Ts at_cl 60 mt_29 := at_call (KL := 60) (M := mt_29) (pc := 565) (pi := 2) (ps := 0) (pn := 564) (pl := 0) (pv := 0) (at_m3 (List.mem_of_getElem? (i := 85) rfl)) (by decide +kernel)
theorem bd_30 : am_Body at_Ts at_P at_cl at_AO at_NL mt_30 := at_body at_PN at_PX (pG := [36]) (pP := []) (pN := []) (pA := []) (pK := []) (pC := []) (by decide +kernel) (by decide +kernel) (by decide +kernel) (by decide +kernel)
set_option maxRecDepth 100000 in
theorem ca_30 : am_Call at_Ts at_cl 60 mt_30 := at_call (KL := 60) (M := mt_30) (pc := 569) (pi := 2) (ps := 0) (pn := 568) (pl := 0) (pv := 1) (at_m3 (List.mem_of_getElem? (i := 89) rfl)) (by decide +kernel)
theorem bd_31 : am_Body at_Ts at_P at_cl at_AO at_NL mt_31 := at_body at_PN at_PX (pG := []) (pP := []) (pN := []) (pA := []) (pK := [573, 574, 575, 576]) (pC := []) (by decide +kernel) (by decide +kernel) (by decide +kernel) (by decide +kernel)
set_option maxRecDepth 100000 in
theorem ca_31 : am_Call at_Ts at_cl 60 mt_31 := at_call (KL := 60) (M := mt_31) (pc := 572) (pi := 2) (ps := 571) (pn := 0) (pl := 0) (pv := 0) (at_m3 (List.mem_of_getElem? (i := 92) rfl)) (by decide +kernel)
theorem bd_32 : am_Body at_Ts at_P at_cl at_AO at_NL mt_32 := at_body at_PN at_PX (pG := []) (pP := []) (pN := []) (pA := []) (pK := []) (pC := []) (by decide +kernel) (by decide +kernel) (by decide +kernel) (by decide +kernel)
set_option maxRecDepth 100000 in
theorem ca_32 : am_Call at_Ts at_cl 60 mt_32 := at_call (KL := 60) (M := mt_32) (pc := 579) (pi := 2) (ps := 578) (pn := 0) (pl := 0) (pv := 0) (at_m3 (List.mem_of_getElem? (i := 99) rfl)) (by decide +kernel)
theorem bd_33 : am_Body at_Ts at_P at_cl at_AO at_NL mt_33 := at_body at_PN at_PX (pG := []) (pP := []) (pN := []) (pA := []) (pK := []) (pC := []) (by decide +kernel) (by decide +kernel) (by decide +kernel) (by decide +kernel)
set_option maxRecDepth 100000 in
theorem ca_33 : am_Call at_Ts at_cl 60 mt_33 := at_call (KL := 60) (M := mt_33) (pc := 561) (pi := 2) (ps := 560) (pn := 0) (pl := 0) (pv := 0) (at_m3 (List.mem_of_getElem? (i := 81) rfl)) (by decide +kernel)
theorem bd_34 : am_Body at_Ts at_P at_cl at_AO at_NL mt_34 := at_body at_PN at_PX (pG := [202, 204]) (pP := [186, 190, 196, 202, 204]) (pN := [69, 109]) (pA := [109]) (pK := []) (pC := [68, 71, 0]) (by decide +kernel) (by decide +kernel) (by decide +kernel) (by decide +kernel)
set_option maxRecDepth 100000 in
theorem ca_34 : am_Call at_Ts at_cl 60 mt_34 := at_call (KL := 60) (M := mt_34) (pc := 67) (pi := 3) (ps := 0) (pn := 66) (pl := 0) (pv := 0) (at_m1 (List.mem_of_getElem? (i := 67) rfl)) (by decide +kernel)
theorem bd_35 : am_Body at_Ts at_P at_cl at_AO at_NL mt_35 := at_body at_PN at_PX (pG := [211, 204]) (pP := []) (pN := []) (pA := []) (pK := []) (pC := []) (by decide +kernel) (by decide +kernel) (by decide +kernel) (by decide +kernel)
set_option maxRecDepth 100000 in
theorem ca_35 : am_Call at_Ts at_cl 60 mt_35 := at_call (KL := 60) (M := mt_35) (pc := 749) (pi := 3) (ps := 0) (pn := 747) (pl := 748) (pv := 0) (at_m4 (List.mem_of_getElem? (i := 29) rfl)) (by decide +kernel)
theorem bd_36 : am_Body at_Ts at_P at_cl at_AO at_NL mt_36 := at_body at_PN at_PX (pG := [211, 204, 165]) (pP := []) (pN := []) (pA := []) (pK := []) (pC := []) (by decide +kernel) (by decide +kernel) (by decide +kernel) (by decide +kernel)
set_option maxRecDepth 100000 in
theorem ca_36 : am_Call at_Ts at_cl 60 mt_36 := at_call (KL := 60) (M := mt_36) (pc := 711) (pi := 3) (ps := 0) (pn := 709) (pl := 710) (pv := 0) (at_m3 (List.mem_of_getElem? (i := 231) rfl)) (by decide +kernel)
theorem bd_37 : am_Body at_Ts at_P at_cl at_AO at_NL mt_37 := at_body at_PN at_PX (pG := [190, 81, 196]) (pP := []) (pN := []) (pA := []) (pK := []) (pC := [720, 723]) (by decide +kernel) (by decide +kernel) (by decide +kernel) (by decide +kernel)
set_option maxRecDepth 100000 in
theorem ca_37 : am_Call at_Ts at_cl 60 mt_37 := at_call (KL := 60) (M := mt_37) (pc := 719) (pi := 3) (ps := 0) (pn := 717) (pl := 718) (pv := 0) (at_m3 (List.mem_of_getElem? (i := 239) rfl)) (by decide +kernel)
theorem bd_38 : am_Body at_Ts at_P at_cl at_AO at_NL mt_38 := at_body at_PN at_PX (pG := [190, 94, 86]) (pP := []) (pN := []) (pA := []) (pK := []) (pC := [691]) (by decide +kernel) (by decide +kernel) (by decide +kernel) (by decide +kernel)
set_option maxRecDepth 100000 in
theorem ca_38 : am_Call at_Ts at_cl 60 mt_38 := at_call (KL := 60) (M := mt_38) (pc := 690) (pi := 3) (ps := 0) (pn := 688) (pl := 689) (pv := 0) (at_m3 (List.mem_of_getElem? (i := 210) rfl)) (by decide +kernel)
theorem bd_39 : am_Body at_Ts at_P at_cl at_AO at_NL mt_39 := at_body at_PN at_PX (pG := [211, 204]) (pP := [168]) (pN := []) (pA := []) (pK := []) (pC := []) (by decide +kernel) (by decide +kernel) (by decide +kernel) (by decide +kernel)
set_option maxRecDepth 100000 in
theorem ca_39 : am_Call at_Ts at_cl 60 mt_39 := at_call (KL := 60) (M := mt_39) (pc := 729) (pi := 3) (ps := 0) (pn := 727) (pl := 728) (pv := 0) (at_m4 (List.mem_of_getElem? (i := 9) rfl)) (by decide +kernel)
theorem bd_40 : am_Body at_Ts at_P at_cl at_AO at_NL mt_40 := at_body at_PN at_PX (pG := []) (pP := [78, 80, 85, 90]) (pN := []) (pA := []) (pK := []) (pC := [74, 75]) (by decide +kernel) (by decide +kernel) (by decide +kernel) (by decide +kernel)
set_option maxRecDepth 100000 in
theorem ca_40 : am_Call at_Ts at_cl 60 mt_40 := at_call (KL := 60) (M := mt_40) (pc := 73) (pi := 4) (ps := 0) (pn := 72) (pl := 0) (pv := 0) (at_m1 (List.mem_of_getElem? (i := 73) rfl)) (by decide +kernel)
theorem bd_41 : am_Body at_Ts at_P at_cl at_AO at_NL mt_41 := at_body at_PN at_PX (pG := [91, 78]) (pP := []) (pN := []) (pA := []) (pK := []) (pC := []) (by decide +kernel) (by decide +kernel) (by decide +kernel) (by decide +kernel)
set_option maxRecDepth 100000 in
theorem ca_41 : am_Call at_Ts at_cl 60 mt_41 := at_call (KL := 60) (M := mt_41) (pc := 611) (pi := 4) (ps := 0) (pn := 609) (pl := 610) (pv := 0) (at_m3 (List.mem_of_getElem? (i := 131) rfl)) (by decide +kernel)
theorem bd_42 : am_Body at_Ts at_P at_cl at_AO at_NL mt_42 := at_body at_PN at_PX (pG := [91, 78]) (pP := []) (pN := []) (pA := []) (pK := []) (pC := []) (by decide +kernel) (by decide +kernel) (by decide +kernel) (by decide +kernel)
set_option maxRecDepth 100000 in
theorem ca_42 : am_Call at_Ts at_cl 60 mt_42 := at_call (KL := 60) (M := mt_42) (pc := 615) (pi := 4) (ps := 0) (pn := 613) (pl := 614) (pv := 0) (at_m3 (List.mem_of_getElem? (i := 135) rfl)) (by decide +kernel)
theorem bd_43 : am_Body at_Ts at_P at_cl at_AO at_NL mt_43 := at_body at_PN at_PX (pG := [91, 78, 80, 85]) (pP := [91]) (pN := []) (pA := []) (pK := []) (pC := []) (by decide +kernel) (by decide +kernel) (by decide +kernel) (by decide +kernel)
set_option maxRecDepth 100000 in
theorem ca_43 : am_Call at_Ts at_cl 60 mt_43 := at_call (KL := 60) (M := mt_43) (pc := 619) (pi := 4) (ps := 0) (pn := 617) (pl := 618) (pv := 0) (at_m3 (List.mem_of_getElem? (i := 139) rfl)) (by decide +kernel)
end
section
/-! what a program decides of each method -/
theorem bd_44 : am_Body at_Ts at_P at_cl at_AO at_NL mt_44 := at_body at_PN at_PX (pG := [91, 85, 90]) (pP := []) (pN := []) (pA := []) (pK := []) (pC := []) (by decide +kernel) (by decide +kernel) (by decide +kernel) (by decide +kernel)
set_option maxRecDepth 100000 in
theorem ca_44 : am_Call at_Ts at_cl 60 mt_44 := at_call (KL := 60) (M := mt_44) (pc := 631) (pi := 4) (ps := 0) (pn := 629) (pl := 630) (pv := 0) (at_m3 (List.mem_of_getElem? (i := 151) rfl)) (by decide +kernel)
theorem bd_45 : am_Body at_Ts at_P at_cl at_AO at_NL mt_45 := at_body at_PN at_PX (pG := [90]) (pP := []) (pN := []) (pA := []) (pK := []) (pC := []) (by decide +kernel) (by decide +kernel) (by decide +kernel) (by decide +kernel)
set_option maxRecDepth 100000 in
theorem ca_45 : am_Call at_Ts at_cl 60 mt_45 := at_call (KL := 60) (M := mt_45) (pc := 666) (pi := 4) (ps := 0) (pn := 664) (pl := 665) (pv := 0) (at_m3 (List.mem_of_getElem? (i := 186) rfl)) (by decide +kernel)
theorem bd_46 : am_Body at_Ts at_P at_cl at_AO at_NL mt_46 := at_body at_PN at_PX (pG := []) (pP := [140, 147, 154]) (pN := [116]) (pA := []) (pK := []) (pC := [115, 118]) (by decide +kernel) (by decide +kernel) (by decide +kernel) (by decide +kernel)
set_option maxRecDepth 100000 in
theorem ca_46 : am_Call at_Ts at_cl 60 mt_46 := at_call (KL := 60) (M := mt_46) (pc := 114) (pi := 6) (ps := 0) (pn := 113) (pl := 0) (pv := 0) (at_m1 (List.mem_of_getElem? (i := 114) rfl)) (by decide +kernel)
theorem bd_47 : am_Body at_Ts at_P at_cl at_AO at_NL mt_47 := at_body at_PN at_PX (pG := []) (pP := [123]) (pN := []) (pA := []) (pK := []) (pC := [121, 122]) (by decide +kernel) (by decide +kernel) (by decide +kernel) (by decide +kernel)
set_option maxRecDepth 100000 in
theorem ca_47 : am_Call at_Ts at_cl 60 mt_47 := at_call (KL := 60) (M := mt_47) (pc := 120) (pi := 7) (ps := 0) (pn := 119) (pl := 0) (pv := 0) (at_m1 (List.mem_of_getElem? (i := 120) rfl)) (by decide +kernel)
theorem bd_48 : am_Body at_Ts at_P at_cl at_AO at_NL mt_48 := at_body at_PN at_PX (pG := []) (pP := []) (pN := []) (pA := []) (pK := []) (pC := []) (by decide +kernel) (by decide +kernel) (by decide +kernel) (by decide +kernel)
set_option maxRecDepth 100000 in
theorem ca_48 : am_Call at_Ts at_cl 60 mt_48 := at_call (KL := 60) (M := mt_48) (pc := 654) (pi := 7) (ps := 653) (pn := 0) (pl := 0) (pv := 0) (at_m3 (List.mem_of_getElem? (i := 174) rfl)) (by decide +kernel)
theorem bd_49 : am_Body at_Ts at_P at_cl at_AO at_NL mt_49 := at_body at_PN at_PX (pG := []) (pP := []) (pN := []) (pA := []) (pK := []) (pC := []) (by decide +kernel) (by decide +kernel) (by decide +kernel) (by decide +kernel)
set_option maxRecDepth 100000 in
theorem ca_49 : am_Call at_Ts at_cl 60 mt_49 := at_call (KL := 60) (M := mt_49) (pc := 725) (pi := 7) (ps := 724) (pn := 0) (pl := 0) (pv := 0) (at_m4 (List.mem_of_getElem? (i := 5) rfl)) (by decide +kernel)
theorem bd_50 : am_Body at_Ts at_P at_cl at_AO at_NL mt_50 := at_body at_PN at_PX (pG := []) (pP := []) (pN := []) (pA := []) (pK := []) (pC := []) (by decide +kernel) (by decide +kernel) (by decide +kernel) (by decide +kernel)
set_option maxRecDepth 100000 in
theorem ca_50 : am_Call at_Ts at_cl 60 mt_50 := at_call (KL := 60) (M := mt_50) (pc := 722) (pi := 7) (ps := 721) (pn := 0) (pl := 0) (pv := 0) (at_m4 (List.mem_of_getElem? (i := 2) rfl)) (by decide +kernel)
theorem bd_51 : am_Body at_Ts at_P at_cl at_AO at_NL mt_51 := at_body at_PN at_PX (pG := [131, 123]) (pP := []) (pN := []) (pA := []) (pK := []) (pC := []) (by decide +kernel) (by decide +kernel) (by decide +kernel) (by decide +kernel)
set_option maxRecDepth 100000 in
theorem ca_51 : am_Call at_Ts at_cl 60 mt_51 := at_call (KL := 60) (M := mt_51) (pc := 715) (pi := 7) (ps := 0) (pn := 713) (pl := 714) (pv := 0) (at_m3 (List.mem_of_getElem? (i := 235) rfl)) (by decide +kernel)
theorem bd_52 : am_Body at_Ts at_P at_cl at_AO at_NL mt_52 := at_body at_PN at_PX (pG := [131, 123]) (pP := [131]) (pN := []) (pA := []) (pK := []) (pC := []) (by decide +kernel) (by decide +kernel) (by decide +kernel) (by decide +kernel)
set_option maxRecDepth 100000 in
theorem ca_52 : am_Call at_Ts at_cl 60 mt_52 := at_call (KL := 60) (M := mt_52) (pc := 662) (pi := 7) (ps := 0) (pn := 660) (pl := 661) (pv := 0) (at_m3 (List.mem_of_getElem? (i := 182) rfl)) (by decide +kernel)
theorem bd_53 : am_Body at_Ts at_P at_cl at_AO at_NL mt_53 := at_body at_PN at_PX (pG := [131, 123]) (pP := []) (pN := []) (pA := []) (pK := []) (pC := [122]) (by decide +kernel) (by decide +kernel) (by decide +kernel) (by decide +kernel)
set_option maxRecDepth 100000 in
theorem ca_53 : am_Call at_Ts at_cl 60 mt_53 := at_call (KL := 60) (M := mt_53) (pc := 779) (pi := 7) (ps := 0) (pn := 777) (pl := 778) (pv := 0) (at_m4 (List.mem_of_getElem? (i := 59) rfl)) (by decide +kernel)
theorem bd_54 : am_Body at_Ts at_P at_cl at_AO at_NL mt_54 := at_body at_PN at_PX (pG := [131, 123]) (pP := [131]) (pN := []) (pA := []) (pK := []) (pC := [788]) (by decide +kernel) (by decide +kernel) (by decide +kernel) (by decide +kernel)
set_option maxRecDepth 100000 in
theorem ca_54 : am_Call at_Ts at_cl 60 mt_54 := at_call (KL := 60) (M := mt_54) (pc := 787) (pi := 7) (ps := 0) (pn := 785) (pl := 786) (pv := 0) (at_m4 (List.mem_of_getElem? (i := 67) rfl)) (by decide +kernel)
theorem bd_55 : am_Body at_Ts at_P at_cl at_AO at_NL mt_55 := at_body at_PN at_PX (pG := [131, 123]) (pP := [131]) (pN := []) (pA := []) (pK := []) (pC := [795, 788]) (by decide +kernel) (by decide +kernel) (by decide +kernel) (by decide +kernel)
set_option maxRecDepth 100000 in
theorem ca_55 : am_Call at_Ts at_cl 60 mt_55 := at_call (KL := 60) (M := mt_55) (pc := 794) (pi := 7) (ps := 0) (pn := 792) (pl := 793) (pv := 0) (at_m4 (List.mem_of_getElem? (i := 74) rfl)) (by decide +kernel)
theorem bd_56 : am_Body at_Ts at_P at_cl at_AO at_NL mt_56 := at_body at_PN at_PX (pG := [131, 123]) (pP := []) (pN := []) (pA := []) (pK := []) (pC := []) (by decide +kernel) (by decide +kernel) (by decide +kernel) (by decide +kernel)
set_option maxRecDepth 100000 in
theorem ca_56 : am_Call at_Ts at_cl 60 mt_56 := at_call (KL := 60) (M := mt_56) (pc := 889) (pi := 7) (ps := 0) (pn := 887) (pl := 888) (pv := 0) (at_m4 (List.mem_of_getElem? (i := 169) rfl)) (by decide +kernel)
theorem bd_57 : am_Body at_Ts at_P at_cl at_AO at_NL mt_57 := at_body at_PN at_PX (pG := [131]) (pP := []) (pN := []) (pA := []) (pK := []) (pC := [886]) (by decide +kernel) (by decide +kernel) (by decide +kernel) (by decide +kernel)
set_option maxRecDepth 100000 in
theorem ca_57 : am_Call at_Ts at_cl 60 mt_57 := at_call (KL := 60) (M := mt_57) (pc := 885) (pi := 7) (ps := 0) (pn := 883) (pl := 884) (pv := 0) (at_m4 (List.mem_of_getElem? (i := 165) rfl)) (by decide +kernel)
theorem bd_58 : am_Body at_Ts at_P at_cl at_AO at_NL mt_58 := at_body at_PN at_PX (pG := [131, 123]) (pP := []) (pN := []) (pA := []) (pK := []) (pC := [961]) (by decide +kernel) (by decide +kernel) (by decide +kernel) (by decide +kernel)
set_option maxRecDepth 100000 in
theorem ca_58 : am_Call at_Ts at_cl 60 mt_58 := at_call (KL := 60) (M := mt_58) (pc := 960) (pi := 7) (ps := 0) (pn := 958) (pl := 959) (pv := 0) (at_m5 (List.mem_of_getElem? (i := 0) rfl)) (by decide +kernel)
theorem bd_59 : am_Body at_Ts at_P at_cl at_AO at_NL mt_59 := at_body at_PN at_PX (pG := [131]) (pP := [131]) (pN := []) (pA := []) (pK := []) (pC := [886, 1038]) (by decide +kernel) (by decide +kernel) (by decide +kernel) (by decide +kernel)
set_option maxRecDepth 100000 in
theorem ca_59 : am_Call at_Ts at_cl 60 mt_59 := at_call (KL := 60) (M := mt_59) (pc := 1037) (pi := 7) (ps := 0) (pn := 1035) (pl := 1036) (pv := 0) (at_m5 (List.mem_of_getElem? (i := 77) rfl)) (by decide +kernel)
theorem bd_60 : am_Body at_Ts at_P at_cl at_AO at_NL mt_60 := at_body at_PN at_PX (pG := [131, 123]) (pP := []) (pN := []) (pA := []) (pK := []) (pC := [1000, 1001]) (by decide +kernel) (by decide +kernel) (by decide +kernel) (by decide +kernel)
set_option maxRecDepth 100000 in
theorem ca_60 : am_Call at_Ts at_cl 60 mt_60 := at_call (KL := 60) (M := mt_60) (pc := 999) (pi := 7) (ps := 0) (pn := 997) (pl := 998) (pv := 0) (at_m5 (List.mem_of_getElem? (i := 39) rfl)) (by decide +kernel)
theorem bd_61 : am_Body at_Ts at_P at_cl at_AO at_NL mt_61 := at_body at_PN at_PX (pG := [201, 141]) (pP := [238, 236, 237, 244, 245]) (pN := []) (pA := []) (pK := []) (pC := [235]) (by decide +kernel) (by decide +kernel) (by decide +kernel) (by decide +kernel)
set_option maxRecDepth 100000 in
theorem ca_61 : am_Call at_Ts at_cl 60 mt_61 := at_call (KL := 60) (M := mt_61) (pc := 234) (pi := 8) (ps := 0) (pn := 233) (pl := 0) (pv := 0) (at_m1 (List.mem_of_getElem? (i := 234) rfl)) (by decide +kernel)
theorem bd_62 : am_Body at_Ts at_P at_cl at_AO at_NL mt_62 := at_body at_PN at_PX (pG := [237, 187, 92, 191, 197, 208, 212, 236, 242]) (pP := [239, 212, 92, 208]) (pN := []) (pA := []) (pK := []) (pC := [555, 584, 588, 632, 640, 704, 596, 620, 726]) (by decide +kernel) (by decide +kernel) (by decide +kernel) (by decide +kernel)
set_option maxRecDepth 100000 in
theorem ca_62 : am_Call at_Ts at_cl 60 mt_62 := at_call (KL := 60) (M := mt_62) (pc := 554) (pi := 8) (ps := 0) (pn := 552) (pl := 553) (pv := 0) (at_m3 (List.mem_of_getElem? (i := 74) rfl)) (by decide +kernel)
theorem bd_63 : am_Body at_Ts at_P at_cl at_AO at_NL mt_63 := at_body at_PN at_PX (pG := [236, 242]) (pP := [239, 243]) (pN := []) (pA := []) (pK := []) (pC := [555, 648, 692, 620]) (by decide +kernel) (by decide +kernel) (by decide +kernel) (by decide +kernel)
set_option maxRecDepth 100000 in
theorem ca_63 : am_Call at_Ts at_cl 60 mt_63 := at_call (KL := 60) (M := mt_63) (pc := 757) (pi := 8) (ps := 0) (pn := 755) (pl := 756) (pv := 0) (at_m4 (List.mem_of_getElem? (i := 37) rfl)) (by decide +kernel)
theorem bd_64 : am_Body at_Ts at_P at_cl at_AO at_NL mt_64 := at_body at_PN at_PX (pG := [239, 237, 187, 92]) (pP := [239]) (pN := []) (pA := []) (pK := []) (pC := [592, 620, 624, 584]) (by decide +kernel) (by decide +kernel) (by decide +kernel) (by decide +kernel)
set_option maxRecDepth 100000 in
theorem ca_64 : am_Call at_Ts at_cl 60 mt_64 := at_call (KL := 60) (M := mt_64) (pc := 591) (pi := 8) (ps := 0) (pn := 590) (pl := 0) (pv := 4) (at_m3 (List.mem_of_getElem? (i := 111) rfl)) (by decide +kernel)
theorem bd_65 : am_Body at_Ts at_P at_cl at_AO at_NL mt_65 := at_body at_PN at_PX (pG := [237, 191, 187, 239]) (pP := [239]) (pN := []) (pA := []) (pK := []) (pC := [592, 584, 604, 608, 600, 628]) (by decide +kernel) (by decide +kernel) (by decide +kernel) (by decide +kernel)
set_option maxRecDepth 100000 in
theorem ca_65 : am_Call at_Ts at_cl 60 mt_65 := at_call (KL := 60) (M := mt_65) (pc := 627) (pi := 8) (ps := 0) (pn := 626) (pl := 0) (pv := 10) (at_m3 (List.mem_of_getElem? (i := 147) rfl)) (by decide +kernel)
theorem bd_66 : am_Body at_Ts at_P at_cl at_AO at_NL mt_66 := at_body at_PN at_PX (pG := [239, 237, 197, 92, 83]) (pP := [239]) (pN := []) (pA := []) (pK := []) (pC := [592, 620, 636, 584, 600, 628]) (by decide +kernel) (by decide +kernel) (by decide +kernel) (by decide +kernel)
set_option maxRecDepth 100000 in
theorem ca_66 : am_Call at_Ts at_cl 60 mt_66 := at_call (KL := 60) (M := mt_66) (pc := 635) (pi := 8) (ps := 0) (pn := 634) (pl := 0) (pv := 11) (at_m3 (List.mem_of_getElem? (i := 155) rfl)) (by decide +kernel)
theorem bd_67 : am_Body at_Ts at_P at_cl at_AO at_NL mt_67 := at_body at_PN at_PX (pG := [237, 187, 197, 83, 239]) (pP := [239]) (pN := []) (pA := []) (pK := []) (pC := [584, 596, 604, 608, 600]) (by decide +kernel) (by decide +kernel) (by decide +kernel) (by decide +kernel)
set_option maxRecDepth 100000 in
theorem ca_67 : am_Call at_Ts at_cl 60 mt_67 := at_call (KL := 60) (M := mt_67) (pc := 639) (pi := 8) (ps := 0) (pn := 638) (pl := 0) (pv := 12) (at_m3 (List.mem_of_getElem? (i := 159) rfl)) (by decide +kernel)
theorem bd_68 : am_Body at_Ts at_P at_cl at_AO at_NL mt_68 := at_body at_PN at_PX (pG := [237, 208, 239, 197, 201, 244, 88, 153, 83, 246]) (pP := [239, 164, 162, 208]) (pN := []) (pA := []) (pK := []) (pC := [600, 584, 596, 604, 608, 644, 652, 655, 663, 667, 620, 648, 692]) (by decide +kernel) (by decide +kernel) (by decide +kernel) (by decide +kernel)
set_option maxRecDepth 100000 in
theorem ca_68 : am_Call at_Ts at_cl 60 mt_68 := at_call (KL := 60) (M := mt_68) (pc := 643) (pi := 8) (ps := 0) (pn := 642) (pl := 0) (pv := 13) (at_m3 (List.mem_of_getElem? (i := 163) rfl)) (by decide +kernel)
theorem bd_69 : am_Body at_Ts at_P at_cl at_AO at_NL mt_69 := at_body at_PN at_PX (pG := [239, 237, 212, 207, 244, 141, 157, 153, 246]) (pP := [239, 166, 170, 162]) (pN := []) (pA := []) (pK := []) (pC := [584, 596, 604, 708, 600, 644, 620, 692, 712, 716, 648]) (by decide +kernel) (by decide +kernel) (by decide +kernel) (by decide +kernel)
set_option maxRecDepth 100000 in
theorem ca_69 : am_Call at_Ts at_cl 60 mt_69 := at_call (KL := 60) (M := mt_69) (pc := 707) (pi := 8) (ps := 0) (pn := 706) (pl := 0) (pv := 25) (at_m3 (List.mem_of_getElem? (i := 227) rfl)) (by decide +kernel)
theorem bd_70 : am_Body at_Ts at_P at_cl at_AO at_NL mt_70 := at_body at_PN at_PX (pG := [239]) (pP := [239]) (pN := []) (pA := []) (pK := []) (pC := [584, 671, 683, 600, 596, 620]) (by decide +kernel) (by decide +kernel) (by decide +kernel) (by decide +kernel)
set_option maxRecDepth 100000 in
theorem ca_70 : am_Call at_Ts at_cl 60 mt_70 := at_call (KL := 60) (M := mt_70) (pc := 670) (pi := 8) (ps := 0) (pn := 669) (pl := 0) (pv := 17) (at_m3 (List.mem_of_getElem? (i := 190) rfl)) (by decide +kernel)
theorem bd_71 : am_Body at_Ts at_P at_cl at_AO at_NL mt_71 := at_body at_PN at_PX (pG := [237, 197]) (pP := []) (pN := []) (pA := []) (pK := []) (pC := [604, 608, 600, 675, 679, 652, 655]) (by decide +kernel) (by decide +kernel) (by decide +kernel) (by decide +kernel)
set_option maxRecDepth 100000 in
theorem ca_71 : am_Call at_Ts at_cl 60 mt_71 := at_call (KL := 60) (M := mt_71) (pc := 674) (pi := 8) (ps := 0) (pn := 673) (pl := 0) (pv := 18) (at_m3 (List.mem_of_getElem? (i := 194) rfl)) (by decide +kernel)
theorem bd_72 : am_Body at_Ts at_P at_cl at_AO at_NL mt_72 := at_body at_PN at_PX (pG := [237, 191, 88, 83]) (pP := []) (pN := []) (pA := []) (pK := []) (pC := [604, 608, 600, 687, 655, 663, 667]) (by decide +kernel) (by decide +kernel) (by decide +kernel) (by decide +kernel)
set_option maxRecDepth 100000 in
theorem ca_72 : am_Call at_Ts at_cl 60 mt_72 := at_call (KL := 60) (M := mt_72) (pc := 686) (pi := 8) (ps := 0) (pn := 685) (pl := 0) (pv := 21) (at_m3 (List.mem_of_getElem? (i := 206) rfl)) (by decide +kernel)
theorem bd_73 : am_Body at_Ts at_P at_cl at_AO at_NL mt_73 := at_body at_PN at_PX (pG := [237, 197, 191, 239]) (pP := [239]) (pN := []) (pA := []) (pK := []) (pC := [584, 604, 608, 696, 700, 600, 655, 692, 620, 596]) (by decide +kernel) (by decide +kernel) (by decide +kernel) (by decide +kernel)
set_option maxRecDepth 100000 in
theorem ca_73 : am_Call at_Ts at_cl 60 mt_73 := at_call (KL := 60) (M := mt_73) (pc := 695) (pi := 8) (ps := 0) (pn := 694) (pl := 0) (pv := 22) (at_m3 (List.mem_of_getElem? (i := 215) rfl)) (by decide +kernel)
end
section
/-! what a program decides of each method -/
theorem bd_74 : am_Body at_Ts at_P at_cl at_AO at_NL mt_74 := at_body at_PN at_PX (pG := [237, 197, 191, 88, 83]) (pP := []) (pN := []) (pA := []) (pK := []) (pC := [600, 652, 655, 663, 692]) (by decide +kernel) (by decide +kernel) (by decide +kernel) (by decide +kernel)
set_option maxRecDepth 100000 in
theorem ca_74 : am_Call at_Ts at_cl 60 mt_74 := at_call (KL := 60) (M := mt_74) (pc := 703) (pi := 8) (ps := 0) (pn := 702) (pl := 0) (pv := 24) (at_m3 (List.mem_of_getElem? (i := 223) rfl)) (by decide +kernel)
theorem bd_75 : am_Body at_Ts at_P at_cl at_AO at_NL mt_75 := at_body at_PN at_PX (pG := [243, 244, 157, 246]) (pP := []) (pN := []) (pA := []) (pK := []) (pC := [600, 675, 679, 652, 655]) (by decide +kernel) (by decide +kernel) (by decide +kernel) (by decide +kernel)
set_option maxRecDepth 100000 in
theorem ca_75 : am_Call at_Ts at_cl 60 mt_75 := at_call (KL := 60) (M := mt_75) (pc := 699) (pi := 8) (ps := 0) (pn := 698) (pl := 0) (pv := 23) (at_m3 (List.mem_of_getElem? (i := 219) rfl)) (by decide +kernel)
theorem bd_76 : am_Body at_Ts at_P at_cl at_AO at_NL mt_76 := at_body at_PN at_PX (pG := [246, 238, 244, 157]) (pP := [246]) (pN := []) (pA := []) (pK := []) (pC := [604]) (by decide +kernel) (by decide +kernel) (by decide +kernel) (by decide +kernel)
set_option maxRecDepth 100000 in
theorem ca_76 : am_Call at_Ts at_cl 60 mt_76 := at_call (KL := 60) (M := mt_76) (pc := 682) (pi := 8) (ps := 0) (pn := 681) (pl := 0) (pv := 20) (at_m3 (List.mem_of_getElem? (i := 202) rfl)) (by decide +kernel)
theorem bd_77 : am_Body at_Ts at_P at_cl at_AO at_NL mt_77 := at_body at_PN at_PX (pG := [245, 134, 239]) (pP := [239]) (pN := []) (pA := []) (pK := []) (pC := [600, 659]) (by decide +kernel) (by decide +kernel) (by decide +kernel) (by decide +kernel)
set_option maxRecDepth 100000 in
theorem ca_77 : am_Call at_Ts at_cl 60 mt_77 := at_call (KL := 60) (M := mt_77) (pc := 658) (pi := 8) (ps := 0) (pn := 657) (pl := 0) (pv := 16) (at_m3 (List.mem_of_getElem? (i := 178) rfl)) (by decide +kernel)
theorem bd_78 : am_Body at_Ts at_P at_cl at_AO at_NL mt_78 := at_body at_PN at_PX (pG := [239]) (pP := [239]) (pN := []) (pA := []) (pK := []) (pC := [584, 596, 604, 608, 600, 612, 616]) (by decide +kernel) (by decide +kernel) (by decide +kernel) (by decide +kernel)
set_option maxRecDepth 100000 in
theorem ca_78 : am_Call at_Ts at_cl 60 mt_78 := at_call (KL := 60) (M := mt_78) (pc := 595) (pi := 8) (ps := 0) (pn := 594) (pl := 0) (pv := 5) (at_m3 (List.mem_of_getElem? (i := 115) rfl)) (by decide +kernel)
theorem bd_79 : am_Body at_Ts at_P at_cl at_AO at_NL mt_79 := at_body at_PN at_PX (pG := [246, 238]) (pP := []) (pN := []) (pA := []) (pK := []) (pC := [604]) (by decide +kernel) (by decide +kernel) (by decide +kernel) (by decide +kernel)
set_option maxRecDepth 100000 in
theorem ca_79 : am_Call at_Ts at_cl 60 mt_79 := at_call (KL := 60) (M := mt_79) (pc := 678) (pi := 8) (ps := 0) (pn := 677) (pl := 0) (pv := 19) (at_m3 (List.mem_of_getElem? (i := 198) rfl)) (by decide +kernel)
theorem bd_80 : am_Body at_Ts at_P at_cl at_AO at_NL mt_80 := at_body at_PN at_PX (pG := [141]) (pP := [244, 243, 246]) (pN := []) (pA := []) (pK := []) (pC := [648]) (by decide +kernel) (by decide +kernel) (by decide +kernel) (by decide +kernel)
set_option maxRecDepth 100000 in
theorem ca_80 : am_Call at_Ts at_cl 60 mt_80 := at_call (KL := 60) (M := mt_80) (pc := 647) (pi := 8) (ps := 0) (pn := 646) (pl := 0) (pv := 14) (at_m3 (List.mem_of_getElem? (i := 167) rfl)) (by decide +kernel)
theorem bd_81 : am_Body at_Ts at_P at_cl at_AO at_NL mt_81 := at_body at_PN at_PX (pG := [245]) (pP := [245, 134]) (pN := []) (pA := []) (pK := []) (pC := []) (by decide +kernel) (by decide +kernel) (by decide +kernel) (by decide +kernel)
set_option maxRecDepth 100000 in
theorem ca_81 : am_Call at_Ts at_cl 60 mt_81 := at_call (KL := 60) (M := mt_81) (pc := 651) (pi := 8) (ps := 0) (pn := 650) (pl := 0) (pv := 15) (at_m3 (List.mem_of_getElem? (i := 171) rfl)) (by decide +kernel)
theorem bd_82 : am_Body at_Ts at_P at_cl at_AO at_NL mt_82 := at_body at_PN at_PX (pG := [239]) (pP := [239]) (pN := []) (pA := []) (pK := []) (pC := [584, 596]) (by decide +kernel) (by decide +kernel) (by decide +kernel) (by decide +kernel)
set_option maxRecDepth 100000 in
theorem ca_82 : am_Call at_Ts at_cl 60 mt_82 := at_call (KL := 60) (M := mt_82) (pc := 623) (pi := 8) (ps := 0) (pn := 622) (pl := 0) (pv := 9) (at_m3 (List.mem_of_getElem? (i := 143) rfl)) (by decide +kernel)
theorem bd_83 : am_Body at_Ts at_P at_cl at_AO at_NL mt_83 := at_body at_PN at_PX (pG := [239, 236, 47, 41]) (pP := []) (pN := []) (pA := []) (pK := []) (pC := []) (by decide +kernel) (by decide +kernel) (by decide +kernel) (by decide +kernel)
set_option maxRecDepth 100000 in
theorem ca_83 : am_Call at_Ts at_cl 60 mt_83 := at_call (KL := 60) (M := mt_83) (pc := 587) (pi := 8) (ps := 0) (pn := 586) (pl := 0) (pv := 3) (at_m3 (List.mem_of_getElem? (i := 107) rfl)) (by decide +kernel)
theorem bd_84 : am_Body at_Ts at_P at_cl at_AO at_NL mt_84 := at_body at_PN at_PX (pG := [239, 236, 47, 45]) (pP := []) (pN := []) (pA := []) (pK := []) (pC := []) (by decide +kernel) (by decide +kernel) (by decide +kernel) (by decide +kernel)
set_option maxRecDepth 100000 in
theorem ca_84 : am_Call at_Ts at_cl 60 mt_84 := at_call (KL := 60) (M := mt_84) (pc := 607) (pi := 8) (ps := 0) (pn := 606) (pl := 0) (pv := 8) (at_m3 (List.mem_of_getElem? (i := 127) rfl)) (by decide +kernel)
theorem bd_85 : am_Body at_Ts at_P at_cl at_AO at_NL mt_85 := at_body at_PN at_PX (pG := []) (pP := []) (pN := []) (pA := []) (pK := []) (pC := [584, 600]) (by decide +kernel) (by decide +kernel) (by decide +kernel) (by decide +kernel)
set_option maxRecDepth 100000 in
theorem ca_85 : am_Call at_Ts at_cl 60 mt_85 := at_call (KL := 60) (M := mt_85) (pc := 599) (pi := 8) (ps := 0) (pn := 598) (pl := 0) (pv := 6) (at_m3 (List.mem_of_getElem? (i := 119) rfl)) (by decide +kernel)
theorem bd_86 : am_Body at_Ts at_P at_cl at_AO at_NL mt_86 := at_body at_PN at_PX (pG := [239, 236, 47, 43, 39]) (pP := [241, 242]) (pN := []) (pA := []) (pK := []) (pC := []) (by decide +kernel) (by decide +kernel) (by decide +kernel) (by decide +kernel)
set_option maxRecDepth 100000 in
theorem ca_86 : am_Call at_Ts at_cl 60 mt_86 := at_call (KL := 60) (M := mt_86) (pc := 603) (pi := 8) (ps := 0) (pn := 602) (pl := 0) (pv := 7) (at_m3 (List.mem_of_getElem? (i := 123) rfl)) (by decide +kernel)
theorem bd_87 : am_Body at_Ts at_P at_cl at_AO at_NL mt_87 := at_body at_PN at_PX (pG := []) (pP := [275, 277, 274]) (pN := []) (pA := []) (pK := []) (pC := [273]) (by decide +kernel) (by decide +kernel) (by decide +kernel) (by decide +kernel)
set_option maxRecDepth 100000 in
theorem ca_87 : am_Call at_Ts at_cl 60 mt_87 := at_call (KL := 60) (M := mt_87) (pc := 272) (pi := 9) (ps := 0) (pn := 271) (pl := 0) (pv := 0) (at_m2 (List.mem_of_getElem? (i := 32) rfl)) (by decide +kernel)
theorem bd_88 : am_Body at_Ts at_P at_cl at_AO at_NL mt_88 := at_body at_PN at_PX (pG := [129, 125, 277, 278]) (pP := [278]) (pN := []) (pA := []) (pK := []) (pC := [802, 806, 817]) (by decide +kernel) (by decide +kernel) (by decide +kernel) (by decide +kernel)
set_option maxRecDepth 100000 in
theorem ca_88 : am_Call at_Ts at_cl 60 mt_88 := at_call (KL := 60) (M := mt_88) (pc := 801) (pi := 9) (ps := 0) (pn := 799) (pl := 800) (pv := 0) (at_m4 (List.mem_of_getElem? (i := 81) rfl)) (by decide +kernel)
theorem bd_89 : am_Body at_Ts at_P at_cl at_AO at_NL mt_89 := at_body at_PN at_PX (pG := [277]) (pP := []) (pN := []) (pA := []) (pK := []) (pC := [802]) (by decide +kernel) (by decide +kernel) (by decide +kernel) (by decide +kernel)
set_option maxRecDepth 100000 in
theorem ca_89 : am_Call at_Ts at_cl 60 mt_89 := at_call (KL := 60) (M := mt_89) (pc := 820) (pi := 9) (ps := 0) (pn := 819) (pl := 0) (pv := 30) (at_m4 (List.mem_of_getElem? (i := 100) rfl)) (by decide +kernel)
theorem bd_90 : am_Body at_Ts at_P at_cl at_AO at_NL mt_90 := at_body at_PN at_PX (pG := [274, 192, 93, 79, 198]) (pP := []) (pN := []) (pA := []) (pK := []) (pC := [810, 811, 812, 802]) (by decide +kernel) (by decide +kernel) (by decide +kernel) (by decide +kernel)
set_option maxRecDepth 100000 in
theorem ca_90 : am_Call at_Ts at_cl 60 mt_90 := at_call (KL := 60) (M := mt_90) (pc := 809) (pi := 9) (ps := 0) (pn := 808) (pl := 0) (pv := 28) (at_m4 (List.mem_of_getElem? (i := 89) rfl)) (by decide +kernel)
theorem bd_91 : am_Body at_Ts at_P at_cl at_AO at_NL mt_91 := at_body at_PN at_PX (pG := []) (pP := []) (pN := []) (pA := []) (pK := [816]) (pC := [802]) (by decide +kernel) (by decide +kernel) (by decide +kernel) (by decide +kernel)
set_option maxRecDepth 100000 in
theorem ca_91 : am_Call at_Ts at_cl 60 mt_91 := at_call (KL := 60) (M := mt_91) (pc := 815) (pi := 9) (ps := 0) (pn := 814) (pl := 0) (pv := 29) (at_m4 (List.mem_of_getElem? (i := 95) rfl)) (by decide +kernel)
theorem bd_92 : am_Body at_Ts at_P at_cl at_AO at_NL mt_92 := at_body at_PN at_PX (pG := [278, 275]) (pP := [278]) (pN := []) (pA := []) (pK := []) (pC := []) (by decide +kernel) (by decide +kernel) (by decide +kernel) (by decide +kernel)
set_option maxRecDepth 100000 in
theorem ca_92 : am_Call at_Ts at_cl 60 mt_92 := at_call (KL := 60) (M := mt_92) (pc := 805) (pi := 9) (ps := 0) (pn := 804) (pl := 0) (pv := 27) (at_m4 (List.mem_of_getElem? (i := 85) rfl)) (by decide +kernel)
theorem bd_93 : am_Body at_Ts at_P at_cl at_AO at_NL mt_93 := at_body at_PN at_PX (pG := [300, 124]) (pP := [298, 300, 301, 297, 128, 302]) (pN := [295]) (pA := []) (pK := []) (pC := [294, 296]) (by decide +kernel) (by decide +kernel) (by decide +kernel) (by decide +kernel)
set_option maxRecDepth 100000 in
theorem ca_93 : am_Call at_Ts at_cl 60 mt_93 := at_call (KL := 60) (M := mt_93) (pc := 293) (pi := 10) (ps := 0) (pn := 292) (pl := 0) (pv := 0) (at_m2 (List.mem_of_getElem? (i := 53) rfl)) (by decide +kernel)
theorem bd_94 : am_Body at_Ts at_P at_cl at_AO at_NL mt_94 := at_body at_PN at_PX (pG := [300, 297, 209, 203, 163, 142, 148]) (pP := [302]) (pN := []) (pA := []) (pK := []) (pC := [770, 765, 771, 772]) (by decide +kernel) (by decide +kernel) (by decide +kernel) (by decide +kernel)
set_option maxRecDepth 100000 in
theorem ca_94 : am_Call at_Ts at_cl 60 mt_94 := at_call (KL := 60) (M := mt_94) (pc := 769) (pi := 10) (ps := 0) (pn := 767) (pl := 768) (pv := 0) (at_m4 (List.mem_of_getElem? (i := 49) rfl)) (by decide +kernel)
theorem bd_95 : am_Body at_Ts at_P at_cl at_AO at_NL mt_95 := at_body at_PN at_PX (pG := [128, 124, 298]) (pP := [304]) (pN := []) (pA := []) (pK := []) (pC := [770, 771, 765, 776]) (by decide +kernel) (by decide +kernel) (by decide +kernel) (by decide +kernel)
set_option maxRecDepth 100000 in
theorem ca_95 : am_Call at_Ts at_cl 60 mt_95 := at_call (KL := 60) (M := mt_95) (pc := 775) (pi := 10) (ps := 0) (pn := 774) (pl := 0) (pv := 26) (at_m4 (List.mem_of_getElem? (i := 55) rfl)) (by decide +kernel)
theorem bd_96 : am_Body at_Ts at_P at_cl at_AO at_NL mt_96 := at_body at_PN at_PX (pG := [298, 128, 124]) (pP := []) (pN := []) (pA := []) (pK := []) (pC := [770, 765, 771, 957, 776]) (by decide +kernel) (by decide +kernel) (by decide +kernel) (by decide +kernel)
set_option maxRecDepth 100000 in
theorem ca_96 : am_Call at_Ts at_cl 60 mt_96 := at_call (KL := 60) (M := mt_96) (pc := 956) (pi := 10) (ps := 0) (pn := 954) (pl := 955) (pv := 0) (at_m4 (List.mem_of_getElem? (i := 236) rfl)) (by decide +kernel)
theorem bd_97 : am_Body at_Ts at_P at_cl at_AO at_NL mt_97 := at_body at_PN at_PX (pG := [128, 124, 298]) (pP := []) (pN := []) (pA := []) (pK := []) (pC := [771, 765]) (by decide +kernel) (by decide +kernel) (by decide +kernel) (by decide +kernel)
set_option maxRecDepth 100000 in
theorem ca_97 : am_Call at_Ts at_cl 60 mt_97 := at_call (KL := 60) (M := mt_97) (pc := 975) (pi := 10) (ps := 0) (pn := 973) (pl := 974) (pv := 0) (at_m5 (List.mem_of_getElem? (i := 15) rfl)) (by decide +kernel)
theorem bd_98 : am_Body at_Ts at_P at_cl at_AO at_NL mt_98 := at_body at_PN at_PX (pG := [128, 124, 298]) (pP := [128]) (pN := []) (pA := []) (pK := []) (pC := [784, 771, 765, 776]) (by decide +kernel) (by decide +kernel) (by decide +kernel) (by decide +kernel)
set_option maxRecDepth 100000 in
theorem ca_98 : am_Call at_Ts at_cl 60 mt_98 := at_call (KL := 60) (M := mt_98) (pc := 783) (pi := 10) (ps := 0) (pn := 781) (pl := 782) (pv := 0) (at_m4 (List.mem_of_getElem? (i := 63) rfl)) (by decide +kernel)
theorem bd_99 : am_Body at_Ts at_P at_cl at_AO at_NL mt_99 := at_body at_PN at_PX (pG := [306, 128, 304, 302, 301]) (pP := [306]) (pN := []) (pA := []) (pK := []) (pC := [762, 766, 780, 791]) (by decide +kernel) (by decide +kernel) (by decide +kernel) (by decide +kernel)
set_option maxRecDepth 100000 in
theorem ca_99 : am_Call at_Ts at_cl 60 mt_99 := at_call (KL := 60) (M := mt_99) (pc := 761) (pi := 10) (ps := 0) (pn := 759) (pl := 760) (pv := 0) (at_m4 (List.mem_of_getElem? (i := 41) rfl)) (by decide +kernel)
theorem bd_100 : am_Body at_Ts at_P at_cl at_AO at_NL mt_100 := at_body at_PN at_PX (pG := [128, 124]) (pP := []) (pN := []) (pA := []) (pK := []) (pC := [765]) (by decide +kernel) (by decide +kernel) (by decide +kernel) (by decide +kernel)
set_option maxRecDepth 100000 in
theorem ca_100 : am_Call at_Ts at_cl 60 mt_100 := at_call (KL := 60) (M := mt_100) (pc := 764) (pi := 10) (ps := 763) (pn := 0) (pl := 0) (pv := 0) (at_m4 (List.mem_of_getElem? (i := 44) rfl)) (by decide +kernel)
theorem bd_101 : am_Body at_Ts at_P at_cl at_AO at_NL mt_101 := at_body at_PN at_PX (pG := [337, 338]) (pP := [334, 335, 336, 337, 338, 340, 341, 343, 332, 333]) (pN := [329]) (pA := [329]) (pK := []) (pC := [328, 331]) (by decide +kernel) (by decide +kernel) (by decide +kernel) (by decide +kernel)
set_option maxRecDepth 100000 in
theorem ca_101 : am_Call at_Ts at_cl 60 mt_101 := at_call (KL := 60) (M := mt_101) (pc := 327) (pi := 11) (ps := 0) (pn := 326) (pl := 0) (pv := 0) (at_m2 (List.mem_of_getElem? (i := 87) rfl)) (by decide +kernel)
theorem bd_102 : am_Body at_Ts at_P at_cl at_AO at_NL mt_102 := at_body at_PN at_PX (pG := []) (pP := [342]) (pN := []) (pA := []) (pK := []) (pC := [833, 851, 855, 890, 863]) (by decide +kernel) (by decide +kernel) (by decide +kernel) (by decide +kernel)
set_option maxRecDepth 100000 in
theorem ca_102 : am_Call at_Ts at_cl 60 mt_102 := at_call (KL := 60) (M := mt_102) (pc := 832) (pi := 11) (ps := 0) (pn := 830) (pl := 831) (pv := 0) (at_m4 (List.mem_of_getElem? (i := 112) rfl)) (by decide +kernel)
theorem bd_103 : am_Body at_Ts at_P at_cl at_AO at_NL mt_103 := at_body at_PN at_PX (pG := [143, 340, 149, 341, 333]) (pP := []) (pN := []) (pA := []) (pK := []) (pC := [859, 874, 881, 882]) (by decide +kernel) (by decide +kernel) (by decide +kernel) (by decide +kernel)
set_option maxRecDepth 100000 in
theorem ca_103 : am_Call at_Ts at_cl 60 mt_103 := at_call (KL := 60) (M := mt_103) (pc := 858) (pi := 11) (ps := 0) (pn := 857) (pl := 0) (pv := 36) (at_m4 (List.mem_of_getElem? (i := 138) rfl)) (by decide +kernel)
theorem bd_104 : am_Body at_Ts at_P at_cl at_AO at_NL mt_104 := at_body at_PN at_PX (pG := [160, 343, 338, 337]) (pP := [343]) (pN := []) (pA := []) (pK := []) (pC := [841, 894]) (by decide +kernel) (by decide +kernel) (by decide +kernel) (by decide +kernel)
set_option maxRecDepth 100000 in
theorem ca_104 : am_Call at_Ts at_cl 60 mt_104 := at_call (KL := 60) (M := mt_104) (pc := 893) (pi := 11) (ps := 0) (pn := 892) (pl := 0) (pv := 41) (at_m4 (List.mem_of_getElem? (i := 173) rfl)) (by decide +kernel)
end
section
/-! what a program decides of each method -/
theorem bd_105 : am_Body at_Ts at_P at_cl at_AO at_NL mt_105 := at_body at_PN at_PX (pG := [130, 126, 337]) (pP := [130]) (pN := []) (pA := []) (pK := []) (pC := [878, 879, 880, 868]) (by decide +kernel) (by decide +kernel) (by decide +kernel) (by decide +kernel)
set_option maxRecDepth 100000 in
theorem ca_105 : am_Call at_Ts at_cl 60 mt_105 := at_call (KL := 60) (M := mt_105) (pc := 877) (pi := 11) (ps := 0) (pn := 876) (pl := 0) (pv := 40) (at_m4 (List.mem_of_getElem? (i := 157) rfl)) (by decide +kernel)
theorem bd_106 : am_Body at_Ts at_P at_cl at_AO at_NL mt_106 := at_body at_PN at_PX (pG := [332, 188, 95, 334, 342, 193, 82]) (pP := []) (pN := []) (pA := []) (pK := []) (pC := [837, 841]) (by decide +kernel) (by decide +kernel) (by decide +kernel) (by decide +kernel)
set_option maxRecDepth 100000 in
theorem ca_106 : am_Call at_Ts at_cl 60 mt_106 := at_call (KL := 60) (M := mt_106) (pc := 836) (pi := 11) (ps := 0) (pn := 835) (pl := 0) (pv := 31) (at_m4 (List.mem_of_getElem? (i := 116) rfl)) (by decide +kernel)
theorem bd_107 : am_Body at_Ts at_P at_cl at_AO at_NL mt_107 := at_body at_PN at_PX (pG := [332, 193, 87, 335]) (pP := []) (pN := []) (pA := []) (pK := []) (pC := [841, 842, 843, 847]) (by decide +kernel) (by decide +kernel) (by decide +kernel) (by decide +kernel)
set_option maxRecDepth 100000 in
theorem ca_107 : am_Call at_Ts at_cl 60 mt_107 := at_call (KL := 60) (M := mt_107) (pc := 840) (pi := 11) (ps := 0) (pn := 839) (pl := 0) (pv := 32) (at_m4 (List.mem_of_getElem? (i := 120) rfl)) (by decide +kernel)
theorem bd_108 : am_Body at_Ts at_P at_cl at_AO at_NL mt_108 := at_body at_PN at_PX (pG := [334]) (pP := []) (pN := []) (pA := []) (pK := []) (pC := []) (by decide +kernel) (by decide +kernel) (by decide +kernel) (by decide +kernel)
set_option maxRecDepth 100000 in
theorem ca_108 : am_Call at_Ts at_cl 60 mt_108 := at_call (KL := 60) (M := mt_108) (pc := 846) (pi := 11) (ps := 0) (pn := 845) (pl := 0) (pv := 33) (at_m4 (List.mem_of_getElem? (i := 126) rfl)) (by decide +kernel)
theorem bd_109 : am_Body at_Ts at_P at_cl at_AO at_NL mt_109 := at_body at_PN at_PX (pG := [335]) (pP := []) (pN := []) (pA := []) (pK := []) (pC := []) (by decide +kernel) (by decide +kernel) (by decide +kernel) (by decide +kernel)
set_option maxRecDepth 100000 in
theorem ca_109 : am_Call at_Ts at_cl 60 mt_109 := at_call (KL := 60) (M := mt_109) (pc := 850) (pi := 11) (ps := 0) (pn := 849) (pl := 0) (pv := 34) (at_m4 (List.mem_of_getElem? (i := 130) rfl)) (by decide +kernel)
theorem bd_110 : am_Body at_Ts at_P at_cl at_AO at_NL mt_110 := at_body at_PN at_PX (pG := [160, 158, 336]) (pP := []) (pN := []) (pA := []) (pK := []) (pC := [843, 841]) (by decide +kernel) (by decide +kernel) (by decide +kernel) (by decide +kernel)
set_option maxRecDepth 100000 in
theorem ca_110 : am_Call at_Ts at_cl 60 mt_110 := at_call (KL := 60) (M := mt_110) (pc := 854) (pi := 11) (ps := 0) (pn := 853) (pl := 0) (pv := 35) (at_m4 (List.mem_of_getElem? (i := 134) rfl)) (by decide +kernel)
theorem bd_111 : am_Body at_Ts at_P at_cl at_AO at_NL mt_111 := at_body at_PN at_PX (pG := [160, 336, 158, 337]) (pP := [130]) (pN := []) (pA := []) (pK := []) (pC := [841, 863, 843, 864]) (by decide +kernel) (by decide +kernel) (by decide +kernel) (by decide +kernel)
set_option maxRecDepth 100000 in
theorem ca_111 : am_Call at_Ts at_cl 60 mt_111 := at_call (KL := 60) (M := mt_111) (pc := 862) (pi := 11) (ps := 0) (pn := 861) (pl := 0) (pv := 37) (at_m4 (List.mem_of_getElem? (i := 142) rfl)) (by decide +kernel)
theorem bd_112 : am_Body at_Ts at_P at_cl at_AO at_NL mt_112 := at_body at_PN at_PX (pG := [342, 332, 193, 95, 82]) (pP := []) (pN := []) (pA := []) (pK := []) (pC := [868, 847, 869, 870]) (by decide +kernel) (by decide +kernel) (by decide +kernel) (by decide +kernel)
set_option maxRecDepth 100000 in
theorem ca_112 : am_Call at_Ts at_cl 60 mt_112 := at_call (KL := 60) (M := mt_112) (pc := 867) (pi := 11) (ps := 0) (pn := 866) (pl := 0) (pv := 38) (at_m4 (List.mem_of_getElem? (i := 147) rfl)) (by decide +kernel)
theorem bd_113 : am_Body at_Ts at_P at_cl at_AO at_NL mt_113 := at_body at_PN at_PX (pG := [332, 193, 87]) (pP := []) (pN := []) (pA := []) (pK := []) (pC := [842, 843, 847, 863, 864]) (by decide +kernel) (by decide +kernel) (by decide +kernel) (by decide +kernel)
set_option maxRecDepth 100000 in
theorem ca_113 : am_Call at_Ts at_cl 60 mt_113 := at_call (KL := 60) (M := mt_113) (pc := 873) (pi := 11) (ps := 0) (pn := 872) (pl := 0) (pv := 39) (at_m4 (List.mem_of_getElem? (i := 153) rfl)) (by decide +kernel)
theorem bd_114 : am_Body at_Ts at_P at_cl at_AO at_NL mt_114 := at_body at_PN at_PX (pG := [464, 459, 421, 463]) (pP := [459, 461, 463, 464, 470, 471, 457, 458, 465, 466, 469]) (pN := [374, 454, 453]) (pA := [453]) (pK := []) (pC := [373, 376, 455, 456]) (by decide +kernel) (by decide +kernel) (by decide +kernel) (by decide +kernel)
set_option maxRecDepth 100000 in
theorem ca_114 : am_Call at_Ts at_cl 60 mt_114 := at_call (KL := 60) (M := mt_114) (pc := 372) (pi := 12) (ps := 0) (pn := 371) (pl := 0) (pv := 0) (at_m2 (List.mem_of_getElem? (i := 132) rfl)) (by decide +kernel)
theorem bd_115 : am_Body at_Ts at_P at_cl at_AO at_NL mt_115 := at_body at_PN at_PX (pG := [459, 418, 390]) (pP := []) (pN := []) (pA := []) (pK := []) (pC := []) (by decide +kernel) (by decide +kernel) (by decide +kernel) (by decide +kernel)
set_option maxRecDepth 100000 in
theorem ca_115 : am_Call at_Ts at_cl 60 mt_115 := at_call (KL := 60) (M := mt_115) (pc := 924) (pi := 12) (ps := 0) (pn := 923) (pl := 0) (pv := 43) (at_m4 (List.mem_of_getElem? (i := 204) rfl)) (by decide +kernel)
theorem bd_116 : am_Body at_Ts at_P at_cl at_AO at_NL mt_116 := at_body at_PN at_PX (pG := []) (pP := []) (pN := []) (pA := []) (pK := []) (pC := [921, 925, 926]) (by decide +kernel) (by decide +kernel) (by decide +kernel) (by decide +kernel)
set_option maxRecDepth 100000 in
theorem ca_116 : am_Call at_Ts at_cl 60 mt_116 := at_call (KL := 60) (M := mt_116) (pc := 920) (pi := 12) (ps := 0) (pn := 918) (pl := 919) (pv := 0) (at_m4 (List.mem_of_getElem? (i := 200) rfl)) (by decide +kernel)
theorem bd_117 : am_Body at_Ts at_P at_cl at_AO at_NL mt_117 := at_body at_PN at_PX (pG := [458, 303, 464]) (pP := []) (pN := []) (pA := []) (pK := []) (pC := [921, 925, 931, 932, 933, 934]) (by decide +kernel) (by decide +kernel) (by decide +kernel) (by decide +kernel)
set_option maxRecDepth 100000 in
theorem ca_117 : am_Call at_Ts at_cl 60 mt_117 := at_call (KL := 60) (M := mt_117) (pc := 930) (pi := 12) (ps := 0) (pn := 928) (pl := 929) (pv := 0) (at_m4 (List.mem_of_getElem? (i := 210) rfl)) (by decide +kernel)
theorem bd_118 : am_Body at_Ts at_P at_cl at_AO at_NL mt_118 := at_body at_PN at_PX (pG := [457, 205, 151, 145, 167, 156, 459, 431]) (pP := [465, 466, 467, 468, 469]) (pN := []) (pA := []) (pK := [948]) (pC := [947]) (by decide +kernel) (by decide +kernel) (by decide +kernel) (by decide +kernel)
set_option maxRecDepth 100000 in
theorem ca_118 : am_Call at_Ts at_cl 60 mt_118 := at_call (KL := 60) (M := mt_118) (pc := 946) (pi := 12) (ps := 0) (pn := 944) (pl := 945) (pv := 0) (at_m4 (List.mem_of_getElem? (i := 226) rfl)) (by decide +kernel)
theorem bd_119 : am_Body at_Ts at_P at_cl at_AO at_NL mt_119 := at_body at_PN at_PX (pG := [459, 418, 398, 390, 394, 431, 435, 421]) (pP := [465, 466, 467, 468, 469]) (pN := []) (pA := []) (pK := []) (pC := []) (by decide +kernel) (by decide +kernel) (by decide +kernel) (by decide +kernel)
set_option maxRecDepth 100000 in
theorem ca_119 : am_Call at_Ts at_cl 60 mt_119 := at_call (KL := 60) (M := mt_119) (pc := 983) (pi := 12) (ps := 0) (pn := 981) (pl := 982) (pv := 0) (at_m5 (List.mem_of_getElem? (i := 23) rfl)) (by decide +kernel)
theorem bd_120 : am_Body at_Ts at_P at_cl at_AO at_NL mt_120 := at_body at_PN at_PX (pG := [458, 465, 467, 466, 464]) (pP := []) (pN := []) (pA := []) (pK := []) (pC := [921, 953, 962, 972, 933, 934]) (by decide +kernel) (by decide +kernel) (by decide +kernel) (by decide +kernel)
set_option maxRecDepth 100000 in
theorem ca_120 : am_Call at_Ts at_cl 60 mt_120 := at_call (KL := 60) (M := mt_120) (pc := 952) (pi := 12) (ps := 0) (pn := 950) (pl := 951) (pv := 0) (at_m4 (List.mem_of_getElem? (i := 232) rfl)) (by decide +kernel)
theorem bd_121 : am_Body at_Ts at_P at_cl at_AO at_NL mt_121 := at_body at_PN at_PX (pG := [469, 458, 299, 457, 459, 421, 468]) (pP := []) (pN := []) (pA := []) (pK := []) (pC := [925, 966, 967]) (by decide +kernel) (by decide +kernel) (by decide +kernel) (by decide +kernel)
set_option maxRecDepth 100000 in
theorem ca_121 : am_Call at_Ts at_cl 60 mt_121 := at_call (KL := 60) (M := mt_121) (pc := 965) (pi := 12) (ps := 0) (pn := 964) (pl := 0) (pv := 45) (at_m5 (List.mem_of_getElem? (i := 5) rfl)) (by decide +kernel)
theorem bd_122 : am_Body at_Ts at_P at_cl at_AO at_NL mt_122 := at_body at_PN at_PX (pG := [127, 459, 435]) (pP := []) (pN := []) (pA := []) (pK := []) (pC := [926, 931, 971]) (by decide +kernel) (by decide +kernel) (by decide +kernel) (by decide +kernel)
set_option maxRecDepth 100000 in
theorem ca_122 : am_Call at_Ts at_cl 60 mt_122 := at_call (KL := 60) (M := mt_122) (pc := 970) (pi := 12) (ps := 0) (pn := 969) (pl := 0) (pv := 46) (at_m5 (List.mem_of_getElem? (i := 10) rfl)) (by decide +kernel)
theorem bd_123 : am_Body at_Ts at_P at_cl at_AO at_NL mt_123 := at_body at_PN at_PX (pG := [464, 459, 427, 424]) (pP := [427]) (pN := []) (pA := []) (pK := []) (pC := [938]) (by decide +kernel) (by decide +kernel) (by decide +kernel) (by decide +kernel)
set_option maxRecDepth 100000 in
theorem ca_123 : am_Call at_Ts at_cl 60 mt_123 := at_call (KL := 60) (M := mt_123) (pc := 937) (pi := 12) (ps := 0) (pn := 936) (pl := 0) (pv := 44) (at_m4 (List.mem_of_getElem? (i := 217) rfl)) (by decide +kernel)
theorem bd_124 : am_Body at_Ts at_P at_cl at_AO at_NL mt_124 := at_body at_PN at_PX (pG := [459, 418, 433, 402]) (pP := [474, 475, 476]) (pN := []) (pA := []) (pK := [948]) (pC := [992, 1002, 1006, 1012]) (by decide +kernel) (by decide +kernel) (by decide +kernel) (by decide +kernel)
set_option maxRecDepth 100000 in
theorem ca_124 : am_Call at_Ts at_cl 60 mt_124 := at_call (KL := 60) (M := mt_124) (pc := 991) (pi := 12) (ps := 0) (pn := 989) (pl := 990) (pv := 0) (at_m5 (List.mem_of_getElem? (i := 31) rfl)) (by decide +kernel)
theorem bd_125 : am_Body at_Ts at_P at_cl at_AO at_NL mt_125 := at_body at_PN at_PX (pG := [459, 433, 418, 457, 200, 97, 470, 84]) (pP := [475, 476, 133, 472, 473, 477]) (pN := []) (pA := []) (pK := []) (pC := [921, 925, 971, 931, 1006, 1002, 1012, 926, 1069]) (by decide +kernel) (by decide +kernel) (by decide +kernel) (by decide +kernel)
set_option maxRecDepth 100000 in
theorem ca_125 : am_Call at_Ts at_cl 60 mt_125 := at_call (KL := 60) (M := mt_125) (pc := 1068) (pi := 12) (ps := 0) (pn := 1066) (pl := 1067) (pv := 0) (at_m5 (List.mem_of_getElem? (i := 108) rfl)) (by decide +kernel)
theorem bd_126 : am_Body at_Ts at_P at_cl at_AO at_NL mt_126 := at_body at_PN at_PX (pG := [470, 459, 421, 435]) (pP := [133, 472, 473, 477]) (pN := []) (pA := []) (pK := []) (pC := [1010, 1011]) (by decide +kernel) (by decide +kernel) (by decide +kernel) (by decide +kernel)
set_option maxRecDepth 100000 in
theorem ca_126 : am_Call at_Ts at_cl 60 mt_126 := at_call (KL := 60) (M := mt_126) (pc := 1009) (pi := 12) (ps := 0) (pn := 1008) (pl := 0) (pv := 47) (at_m5 (List.mem_of_getElem? (i := 49) rfl)) (by decide +kernel)
end
section
/-! what a program decides of each method -/
theorem bd_127 : am_Body at_Ts at_P at_cl at_AO at_NL mt_127 := at_body at_PN at_PX (pG := [459, 433, 477, 457, 195, 97, 84, 473, 463, 475, 472, 476, 424, 435]) (pP := [435, 433]) (pN := []) (pA := []) (pK := []) (pC := [1016, 1022, 1039, 1043, 1048, 1031, 1052]) (by decide +kernel) (by decide +kernel) (by decide +kernel) (by decide +kernel)
set_option maxRecDepth 100000 in
theorem ca_127 : am_Call at_Ts at_cl 60 mt_127 := at_call (KL := 60) (M := mt_127) (pc := 1015) (pi := 12) (ps := 0) (pn := 1014) (pl := 0) (pv := 48) (at_m5 (List.mem_of_getElem? (i := 55) rfl)) (by decide +kernel)
theorem bd_128 : am_Body at_Ts at_P at_cl at_AO at_NL mt_128 := at_body at_PN at_PX (pG := [471, 457, 195, 89, 459, 421]) (pP := [133]) (pN := []) (pA := []) (pK := []) (pC := [1020, 1011, 1021, 1010]) (by decide +kernel) (by decide +kernel) (by decide +kernel) (by decide +kernel)
set_option maxRecDepth 100000 in
theorem ca_128 : am_Call at_Ts at_cl 60 mt_128 := at_call (KL := 60) (M := mt_128) (pc := 1019) (pi := 12) (ps := 0) (pn := 1018) (pl := 0) (pv := 49) (at_m5 (List.mem_of_getElem? (i := 59) rfl)) (by decide +kernel)
theorem bd_129 : am_Body at_Ts at_P at_cl at_AO at_NL mt_129 := at_body at_PN at_PX (pG := [459, 418, 405, 476, 402, 471, 133, 390, 470]) (pP := [405, 402]) (pN := []) (pA := []) (pK := []) (pC := [1026, 1031, 1034]) (by decide +kernel) (by decide +kernel) (by decide +kernel) (by decide +kernel)
set_option maxRecDepth 100000 in
theorem ca_129 : am_Call at_Ts at_cl 60 mt_129 := at_call (KL := 60) (M := mt_129) (pc := 1025) (pi := 12) (ps := 0) (pn := 1024) (pl := 0) (pv := 50) (at_m5 (List.mem_of_getElem? (i := 65) rfl)) (by decide +kernel)
theorem bd_130 : am_Body at_Ts at_P at_cl at_AO at_NL mt_130 := at_body at_PN at_PX (pG := [459, 418, 471, 133, 421, 473, 464, 398, 390, 470, 394, 474]) (pP := [133, 398]) (pN := []) (pA := []) (pK := []) (pC := [1010, 1011, 1034]) (by decide +kernel) (by decide +kernel) (by decide +kernel) (by decide +kernel)
set_option maxRecDepth 100000 in
theorem ca_130 : am_Call at_Ts at_cl 60 mt_130 := at_call (KL := 60) (M := mt_130) (pc := 1042) (pi := 12) (ps := 0) (pn := 1041) (pl := 0) (pv := 51) (at_m5 (List.mem_of_getElem? (i := 82) rfl)) (by decide +kernel)
theorem bd_131 : am_Body at_Ts at_P at_cl at_AO at_NL mt_131 := at_body at_PN at_PX (pG := [402, 470, 398, 390, 471, 394]) (pP := [402, 398]) (pN := []) (pA := []) (pK := []) (pC := [1047, 938]) (by decide +kernel) (by decide +kernel) (by decide +kernel) (by decide +kernel)
set_option maxRecDepth 100000 in
theorem ca_131 : am_Call at_Ts at_cl 60 mt_131 := at_call (KL := 60) (M := mt_131) (pc := 1046) (pi := 12) (ps := 0) (pn := 1045) (pl := 0) (pv := 52) (at_m5 (List.mem_of_getElem? (i := 86) rfl)) (by decide +kernel)
theorem bd_132 : am_Body at_Ts at_P at_cl at_AO at_NL mt_132 := at_body at_PN at_PX (pG := [459, 418, 398, 394, 472, 390, 470, 471]) (pP := []) (pN := []) (pA := []) (pK := []) (pC := [1034]) (by decide +kernel) (by decide +kernel) (by decide +kernel) (by decide +kernel)
set_option maxRecDepth 100000 in
theorem ca_132 : am_Call at_Ts at_cl 60 mt_132 := at_call (KL := 60) (M := mt_132) (pc := 1051) (pi := 12) (ps := 0) (pn := 1050) (pl := 0) (pv := 53) (at_m5 (List.mem_of_getElem? (i := 91) rfl)) (by decide +kernel)
theorem bd_133 : am_Body at_Ts at_P at_cl at_AO at_NL mt_133 := at_body at_PN at_PX (pG := []) (pP := []) (pN := []) (pA := []) (pK := []) (pC := []) (by decide +kernel) (by decide +kernel) (by decide +kernel) (by decide +kernel)
set_option maxRecDepth 100000 in
theorem ca_133 : am_Call at_Ts at_cl 60 mt_133 := at_call (KL := 60) (M := mt_133) (pc := 1033) (pi := 12) (ps := 1032) (pn := 0) (pl := 0) (pv := 0) (at_m5 (List.mem_of_getElem? (i := 73) rfl)) (by decide +kernel)
theorem bd_134 : am_Body at_Ts at_P at_cl at_AO at_NL mt_134 := at_body at_PN at_PX (pG := [459, 418, 390]) (pP := []) (pN := []) (pA := []) (pK := []) (pC := [1078, 1052]) (by decide +kernel) (by decide +kernel) (by decide +kernel) (by decide +kernel)
set_option maxRecDepth 100000 in
theorem ca_134 : am_Call at_Ts at_cl 60 mt_134 := at_call (KL := 60) (M := mt_134) (pc := 1077) (pi := 12) (ps := 0) (pn := 1075) (pl := 1076) (pv := 0) (at_m5 (List.mem_of_getElem? (i := 117) rfl)) (by decide +kernel)
theorem bd_135 : am_Body at_Ts at_P at_cl at_AO at_NL mt_135 := at_body at_PN at_PX (pG := [459, 418, 390, 424, 463]) (pP := [133]) (pN := []) (pA := []) (pK := []) (pC := [925, 931, 1026, 926, 1069, 1052]) (by decide +kernel) (by decide +kernel) (by decide +kernel) (by decide +kernel)
set_option maxRecDepth 100000 in
theorem ca_135 : am_Call at_Ts at_cl 60 mt_135 := at_call (KL := 60) (M := mt_135) (pc := 1086) (pi := 12) (ps := 0) (pn := 1084) (pl := 1085) (pv := 0) (at_m5 (List.mem_of_getElem? (i := 126) rfl)) (by decide +kernel)
theorem bd_136 : am_Body at_Ts at_P at_cl at_AO at_NL mt_136 := at_body at_PN at_PX (pG := [459, 424, 463, 418, 427, 457, 429, 205, 167, 431]) (pP := [424, 427, 167]) (pN := []) (pA := []) (pK := []) (pC := [1056, 947, 1060]) (by decide +kernel) (by decide +kernel) (by decide +kernel) (by decide +kernel)
set_option maxRecDepth 100000 in
theorem ca_136 : am_Call at_Ts at_cl 60 mt_136 := at_call (KL := 60) (M := mt_136) (pc := 1055) (pi := 12) (ps := 0) (pn := 1054) (pl := 0) (pv := 54) (at_m5 (List.mem_of_getElem? (i := 95) rfl)) (by decide +kernel)
theorem bd_137 : am_Body at_Ts at_P at_cl at_AO at_NL mt_137 := at_body at_PN at_PX (pG := [459, 418]) (pP := []) (pN := []) (pA := []) (pK := []) (pC := []) (by decide +kernel) (by decide +kernel) (by decide +kernel) (by decide +kernel)
set_option maxRecDepth 100000 in
theorem ca_137 : am_Call at_Ts at_cl 60 mt_137 := at_call (KL := 60) (M := mt_137) (pc := 1059) (pi := 12) (ps := 0) (pn := 1058) (pl := 0) (pv := 55) (at_m5 (List.mem_of_getElem? (i := 99) rfl)) (by decide +kernel)
theorem bd_138 : am_Body at_Ts at_P at_cl at_AO at_NL mt_138 := at_body at_PN at_PX (pG := []) (pP := []) (pN := []) (pA := []) (pK := []) (pC := [1104, 1105, 1110, 1121, 1122]) (by decide +kernel) (by decide +kernel) (by decide +kernel) (by decide +kernel)
set_option maxRecDepth 100000 in
theorem ca_138 : am_Call at_Ts at_cl 60 mt_138 := at_call (KL := 60) (M := mt_138) (pc := 1103) (pi := 12) (ps := 0) (pn := 1101) (pl := 1102) (pv := 0) (at_m5 (List.mem_of_getElem? (i := 143) rfl)) (by decide +kernel)
theorem bd_139 : am_Body at_Ts at_P at_cl at_AO at_NL mt_139 := at_body at_PN at_PX (pG := [133]) (pP := []) (pN := []) (pA := []) (pK := []) (pC := [921, 1109]) (by decide +kernel) (by decide +kernel) (by decide +kernel) (by decide +kernel)
set_option maxRecDepth 100000 in
theorem ca_139 : am_Call at_Ts at_cl 60 mt_139 := at_call (KL := 60) (M := mt_139) (pc := 1108) (pi := 12) (ps := 0) (pn := 1107) (pl := 0) (pv := 56) (at_m5 (List.mem_of_getElem? (i := 148) rfl)) (by decide +kernel)
theorem bd_140 : am_Body at_Ts at_P at_cl at_AO at_NL mt_140 := at_body at_PN at_PX (pG := [459, 418, 398, 457, 214, 429]) (pP := []) (pN := []) (pA := []) (pK := []) (pC := [1114, 1115, 1120]) (by decide +kernel) (by decide +kernel) (by decide +kernel) (by decide +kernel)
set_option maxRecDepth 100000 in
theorem ca_140 : am_Call at_Ts at_cl 60 mt_140 := at_call (KL := 60) (M := mt_140) (pc := 1113) (pi := 12) (ps := 0) (pn := 1112) (pl := 0) (pv := 57) (at_m5 (List.mem_of_getElem? (i := 153) rfl)) (by decide +kernel)
theorem bd_141 : am_Body at_Ts at_P at_cl at_AO at_NL mt_141 := at_body at_PN at_PX (pG := [133]) (pP := []) (pN := []) (pA := []) (pK := []) (pC := [921, 1119]) (by decide +kernel) (by decide +kernel) (by decide +kernel) (by decide +kernel)
set_option maxRecDepth 100000 in
theorem ca_141 : am_Call at_Ts at_cl 60 mt_141 := at_call (KL := 60) (M := mt_141) (pc := 1118) (pi := 12) (ps := 0) (pn := 1117) (pl := 0) (pv := 58) (at_m5 (List.mem_of_getElem? (i := 158) rfl)) (by decide +kernel)
theorem bd_142 : am_Body at_Ts at_P at_cl at_AO at_NL mt_142 := at_body at_PN at_PX (pG := [459, 418, 405, 133, 458, 305]) (pP := []) (pN := []) (pA := []) (pK := []) (pC := [921, 932, 925, 971, 931, 1002, 1126, 1127]) (by decide +kernel) (by decide +kernel) (by decide +kernel) (by decide +kernel)
set_option maxRecDepth 100000 in
theorem ca_142 : am_Call at_Ts at_cl 60 mt_142 := at_call (KL := 60) (M := mt_142) (pc := 1125) (pi := 12) (ps := 0) (pn := 1124) (pl := 0) (pv := 59) (at_m5 (List.mem_of_getElem? (i := 165) rfl)) (by decide +kernel)
theorem bd_143 : am_Body at_Ts at_P at_cl at_AO at_NL mt_143 := at_body at_PN at_PX (pG := [417]) (pP := [417, 420]) (pN := [380]) (pA := [380]) (pK := []) (pC := [379, 383]) (by decide +kernel) (by decide +kernel) (by decide +kernel) (by decide +kernel)
set_option maxRecDepth 100000 in
theorem ca_143 : am_Call at_Ts at_cl 60 mt_143 := at_call (KL := 60) (M := mt_143) (pc := 378) (pi := 13) (ps := 0) (pn := 377) (pl := 0) (pv := 0) (at_m2 (List.mem_of_getElem? (i := 138) rfl)) (by decide +kernel)
theorem bd_144 : am_Body at_Ts at_P at_cl at_AO at_NL mt_144 := at_body at_PN at_PX (pG := []) (pP := [422, 425]) (pN := []) (pA := []) (pK := []) (pC := []) (by decide +kernel) (by decide +kernel) (by decide +kernel) (by decide +kernel)
set_option maxRecDepth 100000 in
theorem ca_144 : am_Call at_Ts at_cl 60 mt_144 := at_call (KL := 60) (M := mt_144) (pc := 733) (pi := 13) (ps := 0) (pn := 731) (pl := 732) (pv := 0) (at_m4 (List.mem_of_getElem? (i := 13) rfl)) (by decide +kernel)
theorem bd_145 : am_Body at_Ts at_P at_cl at_AO at_NL mt_145 := at_body at_PN at_PX (pG := [159, 432, 155, 420, 417, 391, 144, 150]) (pP := [428, 430, 425, 422, 432, 434, 397, 401, 404]) (pN := []) (pA := []) (pK := []) (pC := [907, 908]) (by decide +kernel) (by decide +kernel) (by decide +kernel) (by decide +kernel)
set_option maxRecDepth 100000 in
theorem ca_145 : am_Call at_Ts at_cl 60 mt_145 := at_call (KL := 60) (M := mt_145) (pc := 906) (pi := 13) (ps := 0) (pn := 904) (pl := 905) (pv := 0) (at_m4 (List.mem_of_getElem? (i := 186) rfl)) (by decide +kernel)
theorem bd_146 : am_Body at_Ts at_P at_cl at_AO at_NL mt_146 := at_body at_PN at_PX (pG := [422, 425, 428, 430, 432, 434, 420, 417]) (pP := [422, 425, 428, 430, 432, 434]) (pN := []) (pA := []) (pK := []) (pC := [1095]) (by decide +kernel) (by decide +kernel) (by decide +kernel) (by decide +kernel)
set_option maxRecDepth 100000 in
theorem ca_146 : am_Call at_Ts at_cl 60 mt_146 := at_call (KL := 60) (M := mt_146) (pc := 1094) (pi := 13) (ps := 0) (pn := 1092) (pl := 1093) (pv := 0) (at_m5 (List.mem_of_getElem? (i := 134) rfl)) (by decide +kernel)
end
section
/-! what a program decides of each method -/
theorem bd_147 : am_Body at_Ts at_P at_cl at_AO at_NL mt_147 := at_body at_PN at_PX (pG := [389]) (pP := [389, 393]) (pN := [387]) (pA := [387]) (pK := []) (pC := [386, 388]) (by decide +kernel) (by decide +kernel) (by decide +kernel) (by decide +kernel)
set_option maxRecDepth 100000 in
theorem ca_147 : am_Call at_Ts at_cl 60 mt_147 := at_call (KL := 60) (M := mt_147) (pc := 385) (pi := 14) (ps := 0) (pn := 384) (pl := 0) (pv := 0) (at_m2 (List.mem_of_getElem? (i := 145) rfl)) (by decide +kernel)
theorem bd_148 : am_Body at_Ts at_P at_cl at_AO at_NL mt_148 := at_body at_PN at_PX (pG := [389]) (pP := []) (pN := []) (pA := []) (pK := []) (pC := [1030, 1099]) (by decide +kernel) (by decide +kernel) (by decide +kernel) (by decide +kernel)
set_option maxRecDepth 100000 in
theorem ca_148 : am_Call at_Ts at_cl 60 mt_148 := at_call (KL := 60) (M := mt_148) (pc := 1098) (pi := 14) (ps := 0) (pn := 1096) (pl := 1097) (pv := 0) (at_m5 (List.mem_of_getElem? (i := 138) rfl)) (by decide +kernel)
theorem bd_149 : am_Body at_Ts at_P at_cl at_AO at_NL mt_149 := at_body at_PN at_PX (pG := [396, 400, 403, 393, 389]) (pP := [396, 400, 403]) (pN := []) (pA := []) (pK := []) (pC := [1030]) (by decide +kernel) (by decide +kernel) (by decide +kernel) (by decide +kernel)
set_option maxRecDepth 100000 in
theorem ca_149 : am_Call at_Ts at_cl 60 mt_149 := at_call (KL := 60) (M := mt_149) (pc := 1029) (pi := 14) (ps := 0) (pn := 1027) (pl := 1028) (pv := 0) (at_m5 (List.mem_of_getElem? (i := 69) rfl)) (by decide +kernel)
theorem bd_150 : am_Body at_Ts at_P at_cl at_AO at_NL mt_150 := at_body at_PN at_PX (pG := [400]) (pP := []) (pN := []) (pA := []) (pK := []) (pC := []) (by decide +kernel) (by decide +kernel) (by decide +kernel) (by decide +kernel)
set_option maxRecDepth 100000 in
theorem ca_150 : am_Call at_Ts at_cl 60 mt_150 := at_call (KL := 60) (M := mt_150) (pc := 1005) (pi := 14) (ps := 0) (pn := 1003) (pl := 1004) (pv := 0) (at_m5 (List.mem_of_getElem? (i := 45) rfl)) (by decide +kernel)
theorem bd_151 : am_Body at_Ts at_P at_cl at_AO at_NL mt_151 := at_body at_PN at_PX (pG := [389]) (pP := []) (pN := []) (pA := []) (pK := []) (pC := [996]) (by decide +kernel) (by decide +kernel) (by decide +kernel) (by decide +kernel)
set_option maxRecDepth 100000 in
theorem ca_151 : am_Call at_Ts at_cl 60 mt_151 := at_call (KL := 60) (M := mt_151) (pc := 995) (pi := 14) (ps := 0) (pn := 993) (pl := 994) (pv := 0) (at_m5 (List.mem_of_getElem? (i := 35) rfl)) (by decide +kernel)
theorem bd_152 : am_Body at_Ts at_P at_cl at_AO at_NL mt_152 := at_body at_PN at_PX (pG := []) (pP := [1257, 1259, 1260, 1261, 1262, 1264, 1265, 1266, 1267, 1269, 1270, 1271, 1272, 1273, 1275, 1276, 1277, 1278, 1279, 1280, 1281, 1282, 1292, 1293, 1297, 1300, 1301, 1303, 1304, 1307, 1309, 1313, 1315, 1316, 1317, 1318, 1319, 1320, 1321, 1322, 1323, 1324, 1325, 1326, 1328, 1329, 1333, 1334, 1335, 1336, 1337, 1338, 1339, 1340, 1341, 1342, 1343, 1345, 1346, 1347, 1349, 1351, 1352, 1353, 1355, 1357, 1358, 1359, 1360, 1361, 1362, 1363, 1364, 1365, 1366]) (pN := []) (pA := []) (pK := [1253, 1254]) (pC := [1252]) (by decide +kernel) (by decide +kernel) (by decide +kernel) (by decide +kernel)
set_option maxRecDepth 100000 in
theorem ca_152 : am_Call at_Ts at_cl 60 mt_152 := at_call (KL := 60) (M := mt_152) (pc := 1251) (pi := 15) (ps := 0) (pn := 1250) (pl := 0) (pv := 0) (at_m6 (List.mem_of_getElem? (i := 51) rfl)) (by decide +kernel)
theorem bd_153 : am_Body at_Ts at_P at_cl at_AO at_NL mt_153 := at_body at_PN at_PX (pG := [1255]) (pP := []) (pN := []) (pA := []) (pK := []) (pC := []) (by decide +kernel) (by decide +kernel) (by decide +kernel) (by decide +kernel)
set_option maxRecDepth 100000 in
theorem ca_153 : am_Call at_Ts at_cl 60 mt_153 := at_call (KL := 60) (M := mt_153) (pc := 1605) (pi := 15) (ps := 0) (pn := 1603) (pl := 1604) (pv := 0) (at_m7 (List.mem_of_getElem? (i := 165) rfl)) (by decide +kernel)
theorem bd_154 : am_Body at_Ts at_P at_cl at_AO at_NL mt_154 := at_body at_PN at_PX (pG := [1265, 1261]) (pP := []) (pN := []) (pA := []) (pK := []) (pC := []) (by decide +kernel) (by decide +kernel) (by decide +kernel) (by decide +kernel)
set_option maxRecDepth 100000 in
theorem ca_154 : am_Call at_Ts at_cl 60 mt_154 := at_call (KL := 60) (M := mt_154) (pc := 1697) (pi := 15) (ps := 0) (pn := 1696) (pl := 0) (pv := 77) (at_m8 (List.mem_of_getElem? (i := 17) rfl)) (by decide +kernel)
theorem bd_155 : am_Body at_Ts at_P at_cl at_AO at_NL mt_155 := at_body at_PN at_PX (pG := []) (pP := []) (pN := []) (pA := []) (pK := []) (pC := [1694]) (by decide +kernel) (by decide +kernel) (by decide +kernel) (by decide +kernel)
set_option maxRecDepth 100000 in
theorem ca_155 : am_Call at_Ts at_cl 60 mt_155 := at_call (KL := 60) (M := mt_155) (pc := 1780) (pi := 15) (ps := 0) (pn := 1779) (pl := 0) (pv := 93) (at_m8 (List.mem_of_getElem? (i := 100) rfl)) (by decide +kernel)
theorem bd_156 : am_Body at_Ts at_P at_cl at_AO at_NL mt_156 := at_body at_PN at_PX (pG := []) (pP := []) (pN := []) (pA := []) (pK := []) (pC := []) (by decide +kernel) (by decide +kernel) (by decide +kernel) (by decide +kernel)
set_option maxRecDepth 100000 in
theorem ca_156 : am_Call at_Ts at_cl 60 mt_156 := at_call (KL := 60) (M := mt_156) (pc := 1768) (pi := 15) (ps := 1767) (pn := 0) (pl := 0) (pv := 0) (at_m8 (List.mem_of_getElem? (i := 88) rfl)) (by decide +kernel)
theorem bd_157 : am_Body at_Ts at_P at_cl at_AO at_NL mt_157 := at_body at_PN at_PX (pG := []) (pP := []) (pN := []) (pA := []) (pK := []) (pC := []) (by decide +kernel) (by decide +kernel) (by decide +kernel) (by decide +kernel)
set_option maxRecDepth 100000 in
theorem ca_157 : am_Call at_Ts at_cl 60 mt_157 := at_call (KL := 60) (M := mt_157) (pc := 1783) (pi := 15) (ps := 1782) (pn := 0) (pl := 0) (pv := 0) (at_m8 (List.mem_of_getElem? (i := 103) rfl)) (by decide +kernel)
theorem bd_158 : am_Body at_Ts at_P at_cl at_AO at_NL mt_158 := at_body at_PN at_PX (pG := [1290]) (pP := []) (pN := []) (pA := []) (pK := []) (pC := []) (by decide +kernel) (by decide +kernel) (by decide +kernel) (by decide +kernel)
set_option maxRecDepth 100000 in
theorem ca_158 : am_Call at_Ts at_cl 60 mt_158 := at_call (KL := 60) (M := mt_158) (pc := 1650) (pi := 15) (ps := 0) (pn := 1649) (pl := 0) (pv := 66) (at_m7 (List.mem_of_getElem? (i := 210) rfl)) (by decide +kernel)
theorem bd_159 : am_Body at_Ts at_P at_cl at_AO at_NL mt_159 := at_body at_PN at_PX (pG := [1287]) (pP := []) (pN := []) (pA := []) (pK := []) (pC := [1637]) (by decide +kernel) (by decide +kernel) (by decide +kernel) (by decide +kernel)
set_option maxRecDepth 100000 in
theorem ca_159 : am_Call at_Ts at_cl 60 mt_159 := at_call (KL := 60) (M := mt_159) (pc := 1636) (pi := 15) (ps := 0) (pn := 1635) (pl := 0) (pv := 64) (at_m7 (List.mem_of_getElem? (i := 196) rfl)) (by decide +kernel)
theorem bd_160 : am_Body at_Ts at_P at_cl at_AO at_NL mt_160 := at_body at_PN at_PX (pG := [1290]) (pP := [1290, 1291]) (pN := []) (pA := []) (pK := []) (pC := []) (by decide +kernel) (by decide +kernel) (by decide +kernel) (by decide +kernel)
set_option maxRecDepth 100000 in
theorem ca_160 : am_Call at_Ts at_cl 60 mt_160 := at_call (KL := 60) (M := mt_160) (pc := 1640) (pi := 15) (ps := 0) (pn := 1639) (pl := 0) (pv := 65) (at_m7 (List.mem_of_getElem? (i := 200) rfl)) (by decide +kernel)
theorem bd_161 : am_Body at_Ts at_P at_cl at_AO at_NL mt_161 := at_body at_PN at_PX (pG := [1285, 1284, 1282]) (pP := []) (pN := []) (pA := []) (pK := []) (pC := []) (by decide +kernel) (by decide +kernel) (by decide +kernel) (by decide +kernel)
set_option maxRecDepth 100000 in
theorem ca_161 : am_Call at_Ts at_cl 60 mt_161 := at_call (KL := 60) (M := mt_161) (pc := 1629) (pi := 15) (ps := 0) (pn := 1628) (pl := 0) (pv := 63) (at_m7 (List.mem_of_getElem? (i := 189) rfl)) (by decide +kernel)
theorem bd_162 : am_Body at_Ts at_P at_cl at_AO at_NL mt_162 := at_body at_PN at_PX (pG := []) (pP := []) (pN := []) (pA := []) (pK := []) (pC := []) (by decide +kernel) (by decide +kernel) (by decide +kernel) (by decide +kernel)
set_option maxRecDepth 100000 in
theorem ca_162 : am_Call at_Ts at_cl 60 mt_162 := at_call (KL := 60) (M := mt_162) (pc := 1632) (pi := 15) (ps := 1631) (pn := 0) (pl := 0) (pv := 0) (at_m7 (List.mem_of_getElem? (i := 192) rfl)) (by decide +kernel)
theorem bd_163 : am_Body at_Ts at_P at_cl at_AO at_NL mt_163 := at_body at_PN at_PX (pG := []) (pP := []) (pN := []) (pA := []) (pK := []) (pC := []) (by decide +kernel) (by decide +kernel) (by decide +kernel) (by decide +kernel)
set_option maxRecDepth 100000 in
theorem ca_163 : am_Call at_Ts at_cl 60 mt_163 := at_call (KL := 60) (M := mt_163) (pc := 1643) (pi := 15) (ps := 1642) (pn := 0) (pl := 0) (pv := 0) (at_m7 (List.mem_of_getElem? (i := 203) rfl)) (by decide +kernel)
theorem bd_164 : am_Body at_Ts at_P at_cl at_AO at_NL mt_164 := at_body at_PN at_PX (pG := []) (pP := []) (pN := []) (pA := []) (pK := []) (pC := []) (by decide +kernel) (by decide +kernel) (by decide +kernel) (by decide +kernel)
set_option maxRecDepth 100000 in
theorem ca_164 : am_Call at_Ts at_cl 60 mt_164 := at_call (KL := 60) (M := mt_164) (pc := 1646) (pi := 15) (ps := 1645) (pn := 0) (pl := 0) (pv := 0) (at_m7 (List.mem_of_getElem? (i := 206) rfl)) (by decide +kernel)
theorem bd_165 : am_Body at_Ts at_P at_cl at_AO at_NL mt_165 := at_body at_PN at_PX (pG := [1285, 1287, 1288, 1286]) (pP := [1285, 1287, 1286, 1288]) (pN := []) (pA := []) (pK := []) (pC := [1626, 1630, 1633, 1641, 1644]) (by decide +kernel) (by decide +kernel) (by decide +kernel) (by decide +kernel)
set_option maxRecDepth 100000 in
theorem ca_165 : am_Call at_Ts at_cl 60 mt_165 := at_call (KL := 60) (M := mt_165) (pc := 1625) (pi := 15) (ps := 0) (pn := 1624) (pl := 0) (pv := 62) (at_m7 (List.mem_of_getElem? (i := 185) rfl)) (by decide +kernel)
theorem bd_166 : am_Body at_Ts at_P at_cl at_AO at_NL mt_166 := at_body at_PN at_PX (pG := [1286]) (pP := []) (pN := []) (pA := []) (pK := []) (pC := [1647, 1633, 1622]) (by decide +kernel) (by decide +kernel) (by decide +kernel) (by decide +kernel)
set_option maxRecDepth 100000 in
theorem ca_166 : am_Call at_Ts at_cl 60 mt_166 := at_call (KL := 60) (M := mt_166) (pc := 1661) (pi := 15) (ps := 0) (pn := 1660) (pl := 0) (pv := 68) (at_m7 (List.mem_of_getElem? (i := 221) rfl)) (by decide +kernel)
theorem bd_167 : am_Body at_Ts at_P at_cl at_AO at_NL mt_167 := at_body at_PN at_PX (pG := []) (pP := []) (pN := []) (pA := []) (pK := []) (pC := []) (by decide +kernel) (by decide +kernel) (by decide +kernel) (by decide +kernel)
set_option maxRecDepth 100000 in
theorem ca_167 : am_Call at_Ts at_cl 60 mt_167 := at_call (KL := 60) (M := mt_167) (pc := 1657) (pi := 15) (ps := 1656) (pn := 0) (pl := 0) (pv := 0) (at_m7 (List.mem_of_getElem? (i := 217) rfl)) (by decide +kernel)
theorem bd_168 : am_Body at_Ts at_P at_cl at_AO at_NL mt_168 := at_body at_PN at_PX (pG := [1295]) (pP := [1295]) (pN := []) (pA := []) (pK := []) (pC := [1647, 1633]) (by decide +kernel) (by decide +kernel) (by decide +kernel) (by decide +kernel)
set_option maxRecDepth 100000 in
theorem ca_168 : am_Call at_Ts at_cl 60 mt_168 := at_call (KL := 60) (M := mt_168) (pc := 1685) (pi := 15) (ps := 0) (pn := 1684) (pl := 0) (pv := 74) (at_m8 (List.mem_of_getElem? (i := 5) rfl)) (by decide +kernel)
theorem bd_169 : am_Body at_Ts at_P at_cl at_AO at_NL mt_169 := at_body at_PN at_PX (pG := [1297, 1298]) (pP := [1298]) (pN := []) (pA := []) (pK := []) (pC := [1647]) (by decide +kernel) (by decide +kernel) (by decide +kernel) (by decide +kernel)
set_option maxRecDepth 100000 in
theorem ca_169 : am_Call at_Ts at_cl 60 mt_169 := at_call (KL := 60) (M := mt_169) (pc := 1709) (pi := 15) (ps := 0) (pn := 1708) (pl := 0) (pv := 80) (at_m8 (List.mem_of_getElem? (i := 29) rfl)) (by decide +kernel)
theorem bd_170 : am_Body at_Ts at_P at_cl at_AO at_NL mt_170 := at_body at_PN at_PX (pG := [1286, 1257, 1256, 1288]) (pP := [1256]) (pN := []) (pA := []) (pK := []) (pC := [1622, 1647, 1633, 1655, 1658, 1662]) (by decide +kernel) (by decide +kernel) (by decide +kernel) (by decide +kernel)
set_option maxRecDepth 100000 in
theorem ca_170 : am_Call at_Ts at_cl 60 mt_170 := at_call (KL := 60) (M := mt_170) (pc := 1654) (pi := 15) (ps := 0) (pn := 1653) (pl := 0) (pv := 67) (at_m7 (List.mem_of_getElem? (i := 214) rfl)) (by decide +kernel)
theorem bd_171 : am_Body at_Ts at_P at_cl at_AO at_NL mt_171 := at_body at_PN at_PX (pG := [1286, 1259, 1258, 1288, 1260, 1256, 1261, 1262]) (pP := [1258]) (pN := []) (pA := []) (pK := []) (pC := [1647, 1633, 1655, 1622, 1666]) (by decide +kernel) (by decide +kernel) (by decide +kernel) (by decide +kernel)
set_option maxRecDepth 100000 in
theorem ca_171 : am_Call at_Ts at_cl 60 mt_171 := at_call (KL := 60) (M := mt_171) (pc := 1665) (pi := 15) (ps := 0) (pn := 1664) (pl := 0) (pv := 69) (at_m7 (List.mem_of_getElem? (i := 225) rfl)) (by decide +kernel)
theorem bd_172 : am_Body at_Ts at_P at_cl at_AO at_NL mt_172 := at_body at_PN at_PX (pG := [1286, 1257, 1256, 1288]) (pP := []) (pN := []) (pA := []) (pK := []) (pC := [1647, 1633, 1655]) (by decide +kernel) (by decide +kernel) (by decide +kernel) (by decide +kernel)
set_option maxRecDepth 100000 in
theorem ca_172 : am_Call at_Ts at_cl 60 mt_172 := at_call (KL := 60) (M := mt_172) (pc := 1669) (pi := 15) (ps := 0) (pn := 1668) (pl := 0) (pv := 70) (at_m7 (List.mem_of_getElem? (i := 229) rfl)) (by decide +kernel)
theorem bd_173 : am_Body at_Ts at_P at_cl at_AO at_NL mt_173 := at_body at_PN at_PX (pG := [1286, 1264, 1263, 1288, 1265, 1266, 1267]) (pP := [1263]) (pN := []) (pA := []) (pK := []) (pC := [1622, 1647, 1633, 1655, 1658, 1666]) (by decide +kernel) (by decide +kernel) (by decide +kernel) (by decide +kernel)
set_option maxRecDepth 100000 in
theorem ca_173 : am_Call at_Ts at_cl 60 mt_173 := at_call (KL := 60) (M := mt_173) (pc := 1673) (pi := 15) (ps := 0) (pn := 1672) (pl := 0) (pv := 71) (at_m7 (List.mem_of_getElem? (i := 233) rfl)) (by decide +kernel)
theorem bd_174 : am_Body at_Ts at_P at_cl at_AO at_NL mt_174 := at_body at_PN at_PX (pG := [1300, 1302, 1301]) (pP := []) (pN := []) (pA := []) (pK := []) (pC := [1694, 1698]) (by decide +kernel) (by decide +kernel) (by decide +kernel) (by decide +kernel)
set_option maxRecDepth 100000 in
theorem ca_174 : am_Call at_Ts at_cl 60 mt_174 := at_call (KL := 60) (M := mt_174) (pc := 1693) (pi := 15) (ps := 0) (pn := 1692) (pl := 0) (pv := 76) (at_m8 (List.mem_of_getElem? (i := 13) rfl)) (by decide +kernel)
end
section
/-! what a program decides of each method -/
theorem bd_175 : am_Body at_Ts at_P at_cl at_AO at_NL mt_175 := at_body at_PN at_PX (pG := [1266, 1262]) (pP := []) (pN := []) (pA := []) (pK := []) (pC := []) (by decide +kernel) (by decide +kernel) (by decide +kernel) (by decide +kernel)
set_option maxRecDepth 100000 in
theorem ca_175 : am_Call at_Ts at_cl 60 mt_175 := at_call (KL := 60) (M := mt_175) (pc := 1701) (pi := 15) (ps := 0) (pn := 1700) (pl := 0) (pv := 78) (at_m8 (List.mem_of_getElem? (i := 21) rfl)) (by decide +kernel)
theorem bd_176 : am_Body at_Ts at_P at_cl at_AO at_NL mt_176 := at_body at_PN at_PX (pG := [1296]) (pP := [1296]) (pN := []) (pA := []) (pK := []) (pC := [1647, 1633]) (by decide +kernel) (by decide +kernel) (by decide +kernel) (by decide +kernel)
set_option maxRecDepth 100000 in
theorem ca_176 : am_Call at_Ts at_cl 60 mt_176 := at_call (KL := 60) (M := mt_176) (pc := 1717) (pi := 15) (ps := 0) (pn := 1716) (pl := 0) (pv := 82) (at_m8 (List.mem_of_getElem? (i := 37) rfl)) (by decide +kernel)
theorem bd_177 : am_Body at_Ts at_P at_cl at_AO at_NL mt_177 := at_body at_PN at_PX (pG := [1292, 1294, 1288, 1293]) (pP := [1294]) (pN := []) (pA := []) (pK := []) (pC := []) (by decide +kernel) (by decide +kernel) (by decide +kernel) (by decide +kernel)
set_option maxRecDepth 100000 in
theorem ca_177 : am_Call at_Ts at_cl 60 mt_177 := at_call (KL := 60) (M := mt_177) (pc := 1705) (pi := 15) (ps := 0) (pn := 1704) (pl := 0) (pv := 79) (at_m8 (List.mem_of_getElem? (i := 25) rfl)) (by decide +kernel)
theorem bd_178 : am_Body at_Ts at_P at_cl at_AO at_NL mt_178 := at_body at_PN at_PX (pG := [1300, 1301, 1302, 1296, 1286, 1264, 1263, 1288, 1292, 1294]) (pP := [1302, 1296]) (pN := []) (pA := []) (pK := []) (pC := [1647, 1690, 1658, 1655, 1633, 1682, 1702, 1706, 1622, 1710, 1714]) (by decide +kernel) (by decide +kernel) (by decide +kernel) (by decide +kernel)
set_option maxRecDepth 100000 in
theorem ca_178 : am_Call at_Ts at_cl 60 mt_178 := at_call (KL := 60) (M := mt_178) (pc := 1689) (pi := 15) (ps := 0) (pn := 1688) (pl := 0) (pv := 75) (at_m8 (List.mem_of_getElem? (i := 9) rfl)) (by decide +kernel)
theorem bd_179 : am_Body at_Ts at_P at_cl at_AO at_NL mt_179 := at_body at_PN at_PX (pG := [1259, 1258, 1288, 1261, 1260, 1301, 1302, 1300]) (pP := [1302]) (pN := []) (pA := []) (pK := []) (pC := [1647, 1655, 1633, 1682, 1706, 1622]) (by decide +kernel) (by decide +kernel) (by decide +kernel) (by decide +kernel)
set_option maxRecDepth 100000 in
theorem ca_179 : am_Call at_Ts at_cl 60 mt_179 := at_call (KL := 60) (M := mt_179) (pc := 1713) (pi := 15) (ps := 0) (pn := 1712) (pl := 0) (pv := 81) (at_m8 (List.mem_of_getElem? (i := 33) rfl)) (by decide +kernel)
theorem bd_180 : am_Body at_Ts at_P at_cl at_AO at_NL mt_180 := at_body at_PN at_PX (pG := [1296, 1302, 1300, 1301, 1303]) (pP := [1302, 1296]) (pN := []) (pA := []) (pK := []) (pC := [1647, 1722, 1658, 1694, 1698]) (by decide +kernel) (by decide +kernel) (by decide +kernel) (by decide +kernel)
set_option maxRecDepth 100000 in
theorem ca_180 : am_Call at_Ts at_cl 60 mt_180 := at_call (KL := 60) (M := mt_180) (pc := 1721) (pi := 15) (ps := 0) (pn := 1720) (pl := 0) (pv := 83) (at_m8 (List.mem_of_getElem? (i := 41) rfl)) (by decide +kernel)
theorem bd_181 : am_Body at_Ts at_P at_cl at_AO at_NL mt_181 := at_body at_PN at_PX (pG := [1300, 1302, 1301, 1303]) (pP := [1302]) (pN := []) (pA := []) (pK := []) (pC := []) (by decide +kernel) (by decide +kernel) (by decide +kernel) (by decide +kernel)
set_option maxRecDepth 100000 in
theorem ca_181 : am_Call at_Ts at_cl 60 mt_181 := at_call (KL := 60) (M := mt_181) (pc := 1729) (pi := 15) (ps := 0) (pn := 1728) (pl := 0) (pv := 85) (at_m8 (List.mem_of_getElem? (i := 49) rfl)) (by decide +kernel)
theorem bd_182 : am_Body at_Ts at_P at_cl at_AO at_NL mt_182 := at_body at_PN at_PX (pG := [1286, 1299]) (pP := []) (pN := []) (pA := []) (pK := []) (pC := [1714, 1647, 1726, 1622, 1633, 1682, 1706, 1730, 1734]) (by decide +kernel) (by decide +kernel) (by decide +kernel) (by decide +kernel)
set_option maxRecDepth 100000 in
theorem ca_182 : am_Call at_Ts at_cl 60 mt_182 := at_call (KL := 60) (M := mt_182) (pc := 1725) (pi := 15) (ps := 0) (pn := 1724) (pl := 0) (pv := 84) (at_m8 (List.mem_of_getElem? (i := 45) rfl)) (by decide +kernel)
theorem bd_183 : am_Body at_Ts at_P at_cl at_AO at_NL mt_183 := at_body at_PN at_PX (pG := [1259, 1258, 1288, 1261, 1260]) (pP := []) (pN := []) (pA := []) (pK := []) (pC := [1655, 1633, 1647, 1682, 1706, 1726, 1622]) (by decide +kernel) (by decide +kernel) (by decide +kernel) (by decide +kernel)
set_option maxRecDepth 100000 in
theorem ca_183 : am_Call at_Ts at_cl 60 mt_183 := at_call (KL := 60) (M := mt_183) (pc := 1733) (pi := 15) (ps := 0) (pn := 1732) (pl := 0) (pv := 86) (at_m8 (List.mem_of_getElem? (i := 53) rfl)) (by decide +kernel)
theorem bd_184 : am_Body at_Ts at_P at_cl at_AO at_NL mt_184 := at_body at_PN at_PX (pG := [1264, 1263, 1288, 1265, 1267, 1292, 1294, 1299, 1293]) (pP := []) (pN := []) (pA := []) (pK := []) (pC := [1655, 1633, 1647, 1682, 1706, 1726, 1622, 1702]) (by decide +kernel) (by decide +kernel) (by decide +kernel) (by decide +kernel)
set_option maxRecDepth 100000 in
theorem ca_184 : am_Call at_Ts at_cl 60 mt_184 := at_call (KL := 60) (M := mt_184) (pc := 1737) (pi := 15) (ps := 0) (pn := 1736) (pl := 0) (pv := 87) (at_m8 (List.mem_of_getElem? (i := 57) rfl)) (by decide +kernel)
theorem bd_185 : am_Body at_Ts at_P at_cl at_AO at_NL mt_185 := at_body at_PN at_PX (pG := []) (pP := [1294, 1295, 1296, 1298]) (pN := []) (pA := []) (pK := []) (pC := []) (by decide +kernel) (by decide +kernel) (by decide +kernel) (by decide +kernel)
set_option maxRecDepth 100000 in
theorem ca_185 : am_Call at_Ts at_cl 60 mt_185 := at_call (KL := 60) (M := mt_185) (pc := 1681) (pi := 15) (ps := 0) (pn := 1680) (pl := 0) (pv := 73) (at_m8 (List.mem_of_getElem? (i := 1) rfl)) (by decide +kernel)
theorem bd_186 : am_Body at_Ts at_P at_cl at_AO at_NL mt_186 := at_body at_PN at_PX (pG := [1268, 1286, 1264, 1263, 1288, 1269, 1271, 1298, 1270, 1297, 1267, 1273, 1272]) (pP := [1299, 1295, 1296, 1298, 1268]) (pN := []) (pA := []) (pK := []) (pC := [1633, 1622, 1647, 1655, 1678, 1682, 1686, 1658, 1718]) (by decide +kernel) (by decide +kernel) (by decide +kernel) (by decide +kernel)
set_option maxRecDepth 100000 in
theorem ca_186 : am_Call at_Ts at_cl 60 mt_186 := at_call (KL := 60) (M := mt_186) (pc := 1677) (pi := 15) (ps := 0) (pn := 1676) (pl := 0) (pv := 72) (at_m7 (List.mem_of_getElem? (i := 237) rfl)) (by decide +kernel)
theorem bd_187 : am_Body at_Ts at_P at_cl at_AO at_NL mt_187 := at_body at_PN at_PX (pG := [1286, 1275, 1274, 1288, 1278, 1279, 1294, 1280, 1293, 1281]) (pP := [1299, 1295, 1296, 1298, 1274]) (pN := []) (pA := []) (pK := []) (pC := [1622, 1647, 1633, 1655, 1658, 1678, 1718, 1742]) (by decide +kernel) (by decide +kernel) (by decide +kernel) (by decide +kernel)
set_option maxRecDepth 100000 in
theorem ca_187 : am_Call at_Ts at_cl 60 mt_187 := at_call (KL := 60) (M := mt_187) (pc := 1741) (pi := 15) (ps := 0) (pn := 1740) (pl := 0) (pv := 88) (at_m8 (List.mem_of_getElem? (i := 61) rfl)) (by decide +kernel)
theorem bd_188 : am_Body at_Ts at_P at_cl at_AO at_NL mt_188 := at_body at_PN at_PX (pG := [1298, 1276, 1297, 1277]) (pP := []) (pN := []) (pA := []) (pK := []) (pC := [1647]) (by decide +kernel) (by decide +kernel) (by decide +kernel) (by decide +kernel)
set_option maxRecDepth 100000 in
theorem ca_188 : am_Call at_Ts at_cl 60 mt_188 := at_call (KL := 60) (M := mt_188) (pc := 1745) (pi := 15) (ps := 0) (pn := 1744) (pl := 0) (pv := 89) (at_m8 (List.mem_of_getElem? (i := 65) rfl)) (by decide +kernel)
theorem bd_189 : am_Body at_Ts at_P at_cl at_AO at_NL mt_189 := at_body at_PN at_PX (pG := [1283, 1282]) (pP := [1255, 1283]) (pN := []) (pA := []) (pK := []) (pC := []) (by decide +kernel) (by decide +kernel) (by decide +kernel) (by decide +kernel)
set_option maxRecDepth 100000 in
theorem ca_189 : am_Call at_Ts at_cl 60 mt_189 := at_call (KL := 60) (M := mt_189) (pc := 1609) (pi := 15) (ps := 0) (pn := 1607) (pl := 1608) (pv := 0) (at_m7 (List.mem_of_getElem? (i := 169) rfl)) (by decide +kernel)
theorem bd_190 : am_Body at_Ts at_P at_cl at_AO at_NL mt_190 := at_body at_PN at_PX (pG := [1283]) (pP := [1255, 1283]) (pN := []) (pA := []) (pK := []) (pC := []) (by decide +kernel) (by decide +kernel) (by decide +kernel) (by decide +kernel)
set_option maxRecDepth 100000 in
theorem ca_190 : am_Call at_Ts at_cl 60 mt_190 := at_call (KL := 60) (M := mt_190) (pc := 1613) (pi := 15) (ps := 0) (pn := 1611) (pl := 1612) (pv := 0) (at_m7 (List.mem_of_getElem? (i := 173) rfl)) (by decide +kernel)
theorem bd_191 : am_Body at_Ts at_P at_cl at_AO at_NL mt_191 := at_body at_PN at_PX (pG := [1283]) (pP := [1284, 1283, 1285, 1290]) (pN := []) (pA := []) (pK := []) (pC := [1622]) (by decide +kernel) (by decide +kernel) (by decide +kernel) (by decide +kernel)
set_option maxRecDepth 100000 in
theorem ca_191 : am_Call at_Ts at_cl 60 mt_191 := at_call (KL := 60) (M := mt_191) (pc := 1621) (pi := 15) (ps := 0) (pn := 1620) (pl := 0) (pv := 61) (at_m7 (List.mem_of_getElem? (i := 181) rfl)) (by decide +kernel)
end
section
/-! what a program decides of each method -/
theorem bd_192 : am_Body at_Ts at_P at_cl at_AO at_NL mt_192 := at_body at_PN at_PX (pG := [1256, 1258, 1263, 1268, 1274, 1286, 1290, 1291, 1281]) (pP := [1256, 1258, 1263, 1268, 1274, 1289, 1329, 1332, 1331]) (pN := []) (pA := []) (pK := []) (pC := [1618, 1647, 1651, 1670, 1674, 1738, 1633, 1622]) (by decide +kernel) (by decide +kernel) (by decide +kernel) (by decide +kernel)
set_option maxRecDepth 100000 in
theorem ca_192 : am_Call at_Ts at_cl 60 mt_192 := at_call (KL := 60) (M := mt_192) (pc := 1617) (pi := 15) (ps := 0) (pn := 1615) (pl := 1616) (pv := 0) (at_m7 (List.mem_of_getElem? (i := 177) rfl)) (by decide +kernel)
theorem bd_193 : am_Body at_Ts at_P at_cl at_AO at_NL mt_193 := at_body at_PN at_PX (pG := [1289]) (pP := []) (pN := []) (pA := []) (pK := []) (pC := []) (by decide +kernel) (by decide +kernel) (by decide +kernel) (by decide +kernel)
set_option maxRecDepth 100000 in
theorem ca_193 : am_Call at_Ts at_cl 60 mt_193 := at_call (KL := 60) (M := mt_193) (pc := 1749) (pi := 15) (ps := 0) (pn := 1747) (pl := 1748) (pv := 0) (at_m8 (List.mem_of_getElem? (i := 69) rfl)) (by decide +kernel)
theorem bd_194 : am_Body at_Ts at_P at_cl at_AO at_NL mt_194 := at_body at_PN at_PX (pG := [1256, 1258, 1263, 1268, 1274, 1332, 1331, 1340]) (pP := []) (pN := []) (pA := []) (pK := []) (pC := []) (by decide +kernel) (by decide +kernel) (by decide +kernel) (by decide +kernel)
set_option maxRecDepth 100000 in
theorem ca_194 : am_Call at_Ts at_cl 60 mt_194 := at_call (KL := 60) (M := mt_194) (pc := 1753) (pi := 15) (ps := 0) (pn := 1751) (pl := 1752) (pv := 0) (at_m8 (List.mem_of_getElem? (i := 73) rfl)) (by decide +kernel)
theorem bd_195 : am_Body at_Ts at_P at_cl at_AO at_NL mt_195 := at_body at_PN at_PX (pG := [1274, 1281, 1279, 1277]) (pP := []) (pN := []) (pA := []) (pK := []) (pC := []) (by decide +kernel) (by decide +kernel) (by decide +kernel) (by decide +kernel)
set_option maxRecDepth 100000 in
theorem ca_195 : am_Call at_Ts at_cl 60 mt_195 := at_call (KL := 60) (M := mt_195) (pc := 1757) (pi := 15) (ps := 0) (pn := 1755) (pl := 1756) (pv := 0) (at_m8 (List.mem_of_getElem? (i := 77) rfl)) (by decide +kernel)
theorem bd_196 : am_Body at_Ts at_P at_cl at_AO at_NL mt_196 := at_body at_PN at_PX (pG := [1268, 1269]) (pP := [1306]) (pN := []) (pA := []) (pK := []) (pC := [1773]) (by decide +kernel) (by decide +kernel) (by decide +kernel) (by decide +kernel)
set_option maxRecDepth 100000 in
theorem ca_196 : am_Call at_Ts at_cl 60 mt_196 := at_call (KL := 60) (M := mt_196) (pc := 1772) (pi := 15) (ps := 0) (pn := 1771) (pl := 0) (pv := 91) (at_m8 (List.mem_of_getElem? (i := 92) rfl)) (by decide +kernel)
theorem bd_197 : am_Body at_Ts at_P at_cl at_AO at_NL mt_197 := at_body at_PN at_PX (pG := [1271, 1270, 1304]) (pP := [1305]) (pN := []) (pA := []) (pK := []) (pC := [1777, 1781]) (by decide +kernel) (by decide +kernel) (by decide +kernel) (by decide +kernel)
set_option maxRecDepth 100000 in
theorem ca_197 : am_Call at_Ts at_cl 60 mt_197 := at_call (KL := 60) (M := mt_197) (pc := 1776) (pi := 15) (ps := 0) (pn := 1775) (pl := 0) (pv := 92) (at_m8 (List.mem_of_getElem? (i := 96) rfl)) (by decide +kernel)
theorem bd_198 : am_Body at_Ts at_P at_cl at_AO at_NL mt_198 := at_body at_PN at_PX (pG := [1307, 1308]) (pP := [1308]) (pN := []) (pA := []) (pK := []) (pC := []) (by decide +kernel) (by decide +kernel) (by decide +kernel) (by decide +kernel)
set_option maxRecDepth 100000 in
theorem ca_198 : am_Call at_Ts at_cl 60 mt_198 := at_call (KL := 60) (M := mt_198) (pc := 1791) (pi := 15) (ps := 0) (pn := 1790) (pl := 0) (pv := 95) (at_m8 (List.mem_of_getElem? (i := 111) rfl)) (by decide +kernel)
theorem bd_199 : am_Body at_Ts at_P at_cl at_AO at_NL mt_199 := at_body at_PN at_PX (pG := [1307, 1308, 1306, 1273, 1272, 1304]) (pP := [1308]) (pN := []) (pA := []) (pK := []) (pC := [1788, 1777]) (by decide +kernel) (by decide +kernel) (by decide +kernel) (by decide +kernel)
set_option maxRecDepth 100000 in
theorem ca_199 : am_Call at_Ts at_cl 60 mt_199 := at_call (KL := 60) (M := mt_199) (pc := 1787) (pi := 15) (ps := 0) (pn := 1786) (pl := 0) (pv := 94) (at_m8 (List.mem_of_getElem? (i := 107) rfl)) (by decide +kernel)
theorem bd_200 : am_Body at_Ts at_P at_cl at_AO at_NL mt_200 := at_body at_PN at_PX (pG := [1310, 1309, 1311, 1305, 1308, 1307]) (pP := [1311, 1310]) (pN := []) (pA := []) (pK := []) (pC := [1766, 1769, 1784]) (by decide +kernel) (by decide +kernel) (by decide +kernel) (by decide +kernel)
set_option maxRecDepth 100000 in
theorem ca_200 : am_Call at_Ts at_cl 60 mt_200 := at_call (KL := 60) (M := mt_200) (pc := 1765) (pi := 15) (ps := 0) (pn := 1764) (pl := 0) (pv := 90) (at_m8 (List.mem_of_getElem? (i := 85) rfl)) (by decide +kernel)
theorem bd_201 : am_Body at_Ts at_P at_cl at_AO at_NL mt_201 := at_body at_PN at_PX (pG := [1286, 1290, 1291, 1298, 1309, 1297, 1311]) (pP := [1283, 1299, 1289, 1310, 1312]) (pN := []) (pA := []) (pK := []) (pC := [1618, 1678, 1647, 1718, 1633, 1762, 1792]) (by decide +kernel) (by decide +kernel) (by decide +kernel) (by decide +kernel)
set_option maxRecDepth 100000 in
theorem ca_201 : am_Call at_Ts at_cl 60 mt_201 := at_call (KL := 60) (M := mt_201) (pc := 1761) (pi := 15) (ps := 0) (pn := 1759) (pl := 1760) (pv := 0) (at_m8 (List.mem_of_getElem? (i := 81) rfl)) (by decide +kernel)
theorem bd_202 : am_Body at_Ts at_P at_cl at_AO at_NL mt_202 := at_body at_PN at_PX (pG := [1312]) (pP := []) (pN := []) (pA := []) (pK := []) (pC := []) (by decide +kernel) (by decide +kernel) (by decide +kernel) (by decide +kernel)
set_option maxRecDepth 100000 in
theorem ca_202 : am_Call at_Ts at_cl 60 mt_202 := at_call (KL := 60) (M := mt_202) (pc := 1811) (pi := 15) (ps := 0) (pn := 1809) (pl := 1810) (pv := 0) (at_m8 (List.mem_of_getElem? (i := 131) rfl)) (by decide +kernel)
theorem bd_203 : am_Body at_Ts at_P at_cl at_AO at_NL mt_203 := at_body at_PN at_PX (pG := [1313, 1314]) (pP := [1314]) (pN := []) (pA := []) (pK := []) (pC := []) (by decide +kernel) (by decide +kernel) (by decide +kernel) (by decide +kernel)
set_option maxRecDepth 100000 in
theorem ca_203 : am_Call at_Ts at_cl 60 mt_203 := at_call (KL := 60) (M := mt_203) (pc := 1799) (pi := 15) (ps := 0) (pn := 1798) (pl := 0) (pv := 97) (at_m8 (List.mem_of_getElem? (i := 119) rfl)) (by decide +kernel)
theorem bd_204 : am_Body at_Ts at_P at_cl at_AO at_NL mt_204 := at_body at_PN at_PX (pG := []) (pP := []) (pN := []) (pA := []) (pK := []) (pC := [1796]) (by decide +kernel) (by decide +kernel) (by decide +kernel) (by decide +kernel)
set_option maxRecDepth 100000 in
theorem ca_204 : am_Call at_Ts at_cl 60 mt_204 := at_call (KL := 60) (M := mt_204) (pc := 1807) (pi := 15) (ps := 0) (pn := 1806) (pl := 0) (pv := 99) (at_m8 (List.mem_of_getElem? (i := 127) rfl)) (by decide +kernel)
theorem bd_205 : am_Body at_Ts at_P at_cl at_AO at_NL mt_205 := at_body at_PN at_PX (pG := []) (pP := []) (pN := []) (pA := []) (pK := []) (pC := [1796]) (by decide +kernel) (by decide +kernel) (by decide +kernel) (by decide +kernel)
set_option maxRecDepth 100000 in
theorem ca_205 : am_Call at_Ts at_cl 60 mt_205 := at_call (KL := 60) (M := mt_205) (pc := 1803) (pi := 15) (ps := 0) (pn := 1802) (pl := 0) (pv := 98) (at_m8 (List.mem_of_getElem? (i := 123) rfl)) (by decide +kernel)
theorem bd_206 : am_Body at_Ts at_P at_cl at_AO at_NL mt_206 := at_body at_PN at_PX (pG := [1314, 1264, 1259, 1315, 1316]) (pP := [1314]) (pN := []) (pA := []) (pK := []) (pC := [1777, 1694, 1796, 1800, 1804]) (by decide +kernel) (by decide +kernel) (by decide +kernel) (by decide +kernel)
set_option maxRecDepth 100000 in
theorem ca_206 : am_Call at_Ts at_cl 60 mt_206 := at_call (KL := 60) (M := mt_206) (pc := 1795) (pi := 15) (ps := 0) (pn := 1794) (pl := 0) (pv := 96) (at_m8 (List.mem_of_getElem? (i := 115) rfl)) (by decide +kernel)
theorem bd_207 : am_Body at_Ts at_P at_cl at_AO at_NL mt_207 := at_body at_PN at_PX (pG := [1314, 1313]) (pP := []) (pN := []) (pA := []) (pK := []) (pC := []) (by decide +kernel) (by decide +kernel) (by decide +kernel) (by decide +kernel)
set_option maxRecDepth 100000 in
theorem ca_207 : am_Call at_Ts at_cl 60 mt_207 := at_call (KL := 60) (M := mt_207) (pc := 1815) (pi := 15) (ps := 0) (pn := 1813) (pl := 1814) (pv := 0) (at_m8 (List.mem_of_getElem? (i := 135) rfl)) (by decide +kernel)
theorem bd_208 : am_Body at_Ts at_P at_cl at_AO at_NL mt_208 := at_body at_PN at_PX (pG := []) (pP := []) (pN := []) (pA := []) (pK := [1831]) (pC := []) (by decide +kernel) (by decide +kernel) (by decide +kernel) (by decide +kernel)
set_option maxRecDepth 100000 in
theorem ca_208 : am_Call at_Ts at_cl 60 mt_208 := at_call (KL := 60) (M := mt_208) (pc := 1830) (pi := 15) (ps := 1829) (pn := 0) (pl := 0) (pv := 0) (at_m8 (List.mem_of_getElem? (i := 150) rfl)) (by decide +kernel)
theorem bd_209 : am_Body at_Ts at_P at_cl at_AO at_NL mt_209 := at_body at_PN at_PX (pG := [1320, 1256, 1258, 1260]) (pP := []) (pN := []) (pA := []) (pK := []) (pC := [1824, 1828]) (by decide +kernel) (by decide +kernel) (by decide +kernel) (by decide +kernel)
set_option maxRecDepth 100000 in
theorem ca_209 : am_Call at_Ts at_cl 60 mt_209 := at_call (KL := 60) (M := mt_209) (pc := 1823) (pi := 15) (ps := 0) (pn := 1822) (pl := 0) (pv := 100) (at_m8 (List.mem_of_getElem? (i := 143) rfl)) (by decide +kernel)
theorem bd_210 : am_Body at_Ts at_P at_cl at_AO at_NL mt_210 := at_body at_PN at_PX (pG := [1261, 1320, 1262]) (pP := []) (pN := []) (pA := []) (pK := []) (pC := [1828]) (by decide +kernel) (by decide +kernel) (by decide +kernel) (by decide +kernel)
set_option maxRecDepth 100000 in
theorem ca_210 : am_Call at_Ts at_cl 60 mt_210 := at_call (KL := 60) (M := mt_210) (pc := 1827) (pi := 15) (ps := 0) (pn := 1826) (pl := 0) (pv := 101) (at_m8 (List.mem_of_getElem? (i := 147) rfl)) (by decide +kernel)
theorem bd_211 : am_Body at_Ts at_P at_cl at_AO at_NL mt_211 := at_body at_PN at_PX (pG := [1319, 1318, 1317, 1307]) (pP := []) (pN := []) (pA := []) (pK := []) (pC := []) (by decide +kernel) (by decide +kernel) (by decide +kernel) (by decide +kernel)
set_option maxRecDepth 100000 in
theorem ca_211 : am_Call at_Ts at_cl 60 mt_211 := at_call (KL := 60) (M := mt_211) (pc := 1840) (pi := 15) (ps := 0) (pn := 1839) (pl := 0) (pv := 103) (at_m8 (List.mem_of_getElem? (i := 160) rfl)) (by decide +kernel)
theorem bd_212 : am_Body at_Ts at_P at_cl at_AO at_NL mt_212 := at_body at_PN at_PX (pG := [1256, 1319, 1321, 1307, 1258, 1260]) (pP := []) (pN := []) (pA := []) (pK := []) (pC := [1837, 1841]) (by decide +kernel) (by decide +kernel) (by decide +kernel) (by decide +kernel)
set_option maxRecDepth 100000 in
theorem ca_212 : am_Call at_Ts at_cl 60 mt_212 := at_call (KL := 60) (M := mt_212) (pc := 1836) (pi := 15) (ps := 0) (pn := 1835) (pl := 0) (pv := 102) (at_m8 (List.mem_of_getElem? (i := 156) rfl)) (by decide +kernel)
theorem bd_213 : am_Body at_Ts at_P at_cl at_AO at_NL mt_213 := at_body at_PN at_PX (pG := [1318, 1262]) (pP := []) (pN := []) (pA := []) (pK := []) (pC := []) (by decide +kernel) (by decide +kernel) (by decide +kernel) (by decide +kernel)
set_option maxRecDepth 100000 in
theorem ca_213 : am_Call at_Ts at_cl 60 mt_213 := at_call (KL := 60) (M := mt_213) (pc := 1848) (pi := 15) (ps := 0) (pn := 1847) (pl := 0) (pv := 105) (at_m8 (List.mem_of_getElem? (i := 168) rfl)) (by decide +kernel)
theorem bd_214 : am_Body at_Ts at_P at_cl at_AO at_NL mt_214 := at_body at_PN at_PX (pG := [1262, 1318, 1307, 1308, 1317]) (pP := [1308]) (pN := []) (pA := []) (pK := []) (pC := []) (by decide +kernel) (by decide +kernel) (by decide +kernel) (by decide +kernel)
set_option maxRecDepth 100000 in
theorem ca_214 : am_Call at_Ts at_cl 60 mt_214 := at_call (KL := 60) (M := mt_214) (pc := 1856) (pi := 15) (ps := 0) (pn := 1855) (pl := 0) (pv := 107) (at_m8 (List.mem_of_getElem? (i := 176) rfl)) (by decide +kernel)
theorem bd_215 : am_Body at_Ts at_P at_cl at_AO at_NL mt_215 := at_body at_PN at_PX (pG := [1261, 1307, 1321, 1262]) (pP := []) (pN := []) (pA := []) (pK := []) (pC := [1837, 1845, 1849, 1857]) (by decide +kernel) (by decide +kernel) (by decide +kernel) (by decide +kernel)
set_option maxRecDepth 100000 in
theorem ca_215 : am_Call at_Ts at_cl 60 mt_215 := at_call (KL := 60) (M := mt_215) (pc := 1844) (pi := 15) (ps := 0) (pn := 1843) (pl := 0) (pv := 104) (at_m8 (List.mem_of_getElem? (i := 164) rfl)) (by decide +kernel)
end
section
/-! what a program decides of each method -/
theorem bd_216 : am_Body at_Ts at_P at_cl at_AO at_NL mt_216 := at_body at_PN at_PX (pG := [1307]) (pP := [1308]) (pN := []) (pA := []) (pK := []) (pC := [1853]) (by decide +kernel) (by decide +kernel) (by decide +kernel) (by decide +kernel)
set_option maxRecDepth 100000 in
theorem ca_216 : am_Call at_Ts at_cl 60 mt_216 := at_call (KL := 60) (M := mt_216) (pc := 1852) (pi := 15) (ps := 0) (pn := 1851) (pl := 0) (pv := 106) (at_m8 (List.mem_of_getElem? (i := 172) rfl)) (by decide +kernel)
theorem bd_217 : am_Body at_Ts at_P at_cl at_AO at_NL mt_217 := at_body at_PN at_PX (pG := [1261, 1321, 1262]) (pP := []) (pN := []) (pA := []) (pK := []) (pC := [1845, 1849, 1853, 1837]) (by decide +kernel) (by decide +kernel) (by decide +kernel) (by decide +kernel)
set_option maxRecDepth 100000 in
theorem ca_217 : am_Call at_Ts at_cl 60 mt_217 := at_call (KL := 60) (M := mt_217) (pc := 1860) (pi := 15) (ps := 0) (pn := 1859) (pl := 0) (pv := 108) (at_m8 (List.mem_of_getElem? (i := 180) rfl)) (by decide +kernel)
theorem bd_218 : am_Body at_Ts at_P at_cl at_AO at_NL mt_218 := at_body at_PN at_PX (pG := [1274, 1279, 1320, 1280, 1325, 1318, 1324, 1317, 1319]) (pP := [1322]) (pN := []) (pA := []) (pK := [1832]) (pC := [1820, 1828, 1833, 1861]) (by decide +kernel) (by decide +kernel) (by decide +kernel) (by decide +kernel)
set_option maxRecDepth 100000 in
theorem ca_218 : am_Call at_Ts at_cl 60 mt_218 := at_call (KL := 60) (M := mt_218) (pc := 1819) (pi := 15) (ps := 0) (pn := 1817) (pl := 1818) (pv := 0) (at_m8 (List.mem_of_getElem? (i := 139) rfl)) (by decide +kernel)
theorem bd_219 : am_Body at_Ts at_P at_cl at_AO at_NL mt_219 := at_body at_PN at_PX (pG := [1277, 1276, 1280, 1325, 1318, 1307, 1308, 1317, 1309, 1310, 1326, 1327]) (pP := [1308, 1310, 1327]) (pN := []) (pA := []) (pK := []) (pC := [1762]) (by decide +kernel) (by decide +kernel) (by decide +kernel) (by decide +kernel)
set_option maxRecDepth 100000 in
theorem ca_219 : am_Call at_Ts at_cl 60 mt_219 := at_call (KL := 60) (M := mt_219) (pc := 1864) (pi := 15) (ps := 0) (pn := 1863) (pl := 0) (pv := 109) (at_m8 (List.mem_of_getElem? (i := 184) rfl)) (by decide +kernel)
theorem bd_220 : am_Body at_Ts at_P at_cl at_AO at_NL mt_220 := at_body at_PN at_PX (pG := [1322, 1279, 1328, 1324, 1314]) (pP := []) (pN := []) (pA := []) (pK := []) (pC := [1792]) (by decide +kernel) (by decide +kernel) (by decide +kernel) (by decide +kernel)
set_option maxRecDepth 100000 in
theorem ca_220 : am_Call at_Ts at_cl 60 mt_220 := at_call (KL := 60) (M := mt_220) (pc := 1868) (pi := 15) (ps := 0) (pn := 1866) (pl := 1867) (pv := 0) (at_m8 (List.mem_of_getElem? (i := 188) rfl)) (by decide +kernel)
theorem bd_221 : am_Body at_Ts at_P at_cl at_AO at_NL mt_221 := at_body at_PN at_PX (pG := []) (pP := []) (pN := []) (pA := []) (pK := []) (pC := []) (by decide +kernel) (by decide +kernel) (by decide +kernel) (by decide +kernel)
set_option maxRecDepth 100000 in
theorem ca_221 : am_Call at_Ts at_cl 60 mt_221 := at_call (KL := 60) (M := mt_221) (pc := 1880) (pi := 15) (ps := 0) (pn := 1879) (pl := 0) (pv := 111) (at_m8 (List.mem_of_getElem? (i := 200) rfl)) (by decide +kernel)
theorem bd_222 : am_Body at_Ts at_P at_cl at_AO at_NL mt_222 := at_body at_PN at_PX (pG := []) (pP := []) (pN := []) (pA := []) (pK := []) (pC := []) (by decide +kernel) (by decide +kernel) (by decide +kernel) (by decide +kernel)
set_option maxRecDepth 100000 in
theorem ca_222 : am_Call at_Ts at_cl 60 mt_222 := at_call (KL := 60) (M := mt_222) (pc := 2071) (pi := 15) (ps := 0) (pn := 2070) (pl := 0) (pv := 146) (at_m9 (List.mem_of_getElem? (i := 151) rfl)) (by decide +kernel)
theorem bd_223 : am_Body at_Ts at_P at_cl at_AO at_NL mt_223 := at_body at_PN at_PX (pG := [1340, 1332, 1341, 1333]) (pP := []) (pN := []) (pA := []) (pK := []) (pC := []) (by decide +kernel) (by decide +kernel) (by decide +kernel) (by decide +kernel)
set_option maxRecDepth 100000 in
theorem ca_223 : am_Call at_Ts at_cl 60 mt_223 := at_call (KL := 60) (M := mt_223) (pc := 1884) (pi := 15) (ps := 0) (pn := 1883) (pl := 0) (pv := 112) (at_m8 (List.mem_of_getElem? (i := 204) rfl)) (by decide +kernel)
theorem bd_224 : am_Body at_Ts at_P at_cl at_AO at_NL mt_224 := at_body at_PN at_PX (pG := [1334]) (pP := []) (pN := []) (pA := []) (pK := []) (pC := []) (by decide +kernel) (by decide +kernel) (by decide +kernel) (by decide +kernel)
set_option maxRecDepth 100000 in
theorem ca_224 : am_Call at_Ts at_cl 60 mt_224 := at_call (KL := 60) (M := mt_224) (pc := 1876) (pi := 15) (ps := 0) (pn := 1875) (pl := 0) (pv := 110) (at_m8 (List.mem_of_getElem? (i := 196) rfl)) (by decide +kernel)
theorem bd_225 : am_Body at_Ts at_P at_cl at_AO at_NL mt_225 := at_body at_PN at_PX (pG := [1336, 1335, 1337, 1338, 1339]) (pP := []) (pN := []) (pA := []) (pK := []) (pC := [1877, 1971]) (by decide +kernel) (by decide +kernel) (by decide +kernel) (by decide +kernel)
set_option maxRecDepth 100000 in
theorem ca_225 : am_Call at_Ts at_cl 60 mt_225 := at_call (KL := 60) (M := mt_225) (pc := 1970) (pi := 15) (ps := 0) (pn := 1969) (pl := 0) (pv := 128) (at_m9 (List.mem_of_getElem? (i := 50) rfl)) (by decide +kernel)
theorem bd_226 : am_Body at_Ts at_P at_cl at_AO at_NL mt_226 := at_body at_PN at_PX (pG := [1341, 1343, 1342]) (pP := []) (pN := []) (pA := []) (pK := []) (pC := []) (by decide +kernel) (by decide +kernel) (by decide +kernel) (by decide +kernel)
set_option maxRecDepth 100000 in
theorem ca_226 : am_Call at_Ts at_cl 60 mt_226 := at_call (KL := 60) (M := mt_226) (pc := 1974) (pi := 15) (ps := 0) (pn := 1973) (pl := 0) (pv := 129) (at_m9 (List.mem_of_getElem? (i := 54) rfl)) (by decide +kernel)
theorem bd_227 : am_Body at_Ts at_P at_cl at_AO at_NL mt_227 := at_body at_PN at_PX (pG := [1274, 1334, 1333, 1336, 1277, 1335, 1276, 1337, 1278, 1338, 1339, 1341, 1279, 1344, 1345, 1280, 1346]) (pP := [1329, 1330, 1331, 1332, 1344]) (pN := []) (pA := []) (pK := []) (pC := [1873, 1877, 1881]) (by decide +kernel) (by decide +kernel) (by decide +kernel) (by decide +kernel)
set_option maxRecDepth 100000 in
theorem ca_227 : am_Call at_Ts at_cl 60 mt_227 := at_call (KL := 60) (M := mt_227) (pc := 1872) (pi := 15) (ps := 0) (pn := 1870) (pl := 1871) (pv := 0) (at_m8 (List.mem_of_getElem? (i := 192) rfl)) (by decide +kernel)
theorem bd_228 : am_Body at_Ts at_P at_cl at_AO at_NL mt_228 := at_body at_PN at_PX (pG := [1336, 1348, 1347, 1335]) (pP := [1348]) (pN := []) (pA := []) (pK := []) (pC := [1877]) (by decide +kernel) (by decide +kernel) (by decide +kernel) (by decide +kernel)
set_option maxRecDepth 100000 in
theorem ca_228 : am_Call at_Ts at_cl 60 mt_228 := at_call (KL := 60) (M := mt_228) (pc := 1903) (pi := 15) (ps := 0) (pn := 1902) (pl := 0) (pv := 115) (at_m8 (List.mem_of_getElem? (i := 223) rfl)) (by decide +kernel)
theorem bd_229 : am_Body at_Ts at_P at_cl at_AO at_NL mt_229 := at_body at_PN at_PX (pG := [1308, 1336, 1335, 1307]) (pP := []) (pN := []) (pA := []) (pK := []) (pC := [1877]) (by decide +kernel) (by decide +kernel) (by decide +kernel) (by decide +kernel)
set_option maxRecDepth 100000 in
theorem ca_229 : am_Call at_Ts at_cl 60 mt_229 := at_call (KL := 60) (M := mt_229) (pc := 1911) (pi := 15) (ps := 0) (pn := 1910) (pl := 0) (pv := 117) (at_m8 (List.mem_of_getElem? (i := 231) rfl)) (by decide +kernel)
theorem bd_230 : am_Body at_Ts at_P at_cl at_AO at_NL mt_230 := at_body at_PN at_PX (pG := [1347]) (pP := []) (pN := []) (pA := []) (pK := []) (pC := [1694, 1777]) (by decide +kernel) (by decide +kernel) (by decide +kernel) (by decide +kernel)
set_option maxRecDepth 100000 in
theorem ca_230 : am_Call at_Ts at_cl 60 mt_230 := at_call (KL := 60) (M := mt_230) (pc := 1907) (pi := 15) (ps := 0) (pn := 1906) (pl := 0) (pv := 116) (at_m8 (List.mem_of_getElem? (i := 227) rfl)) (by decide +kernel)
theorem bd_231 : am_Body at_Ts at_P at_cl at_AO at_NL mt_231 := at_body at_PN at_PX (pG := [1301, 1300, 1347]) (pP := []) (pN := []) (pA := []) (pK := []) (pC := [1694, 1698]) (by decide +kernel) (by decide +kernel) (by decide +kernel) (by decide +kernel)
set_option maxRecDepth 100000 in
theorem ca_231 : am_Call at_Ts at_cl 60 mt_231 := at_call (KL := 60) (M := mt_231) (pc := 1935) (pi := 15) (ps := 0) (pn := 1934) (pl := 0) (pv := 122) (at_m9 (List.mem_of_getElem? (i := 15) rfl)) (by decide +kernel)
end
section
/-! what a program decides of each method -/
theorem bd_232 : am_Body at_Ts at_P at_cl at_AO at_NL mt_232 := at_body at_PN at_PX (pG := [1331, 1332, 1330, 1281, 1329]) (pP := [1331]) (pN := []) (pA := []) (pK := []) (pC := [1881]) (by decide +kernel) (by decide +kernel) (by decide +kernel) (by decide +kernel)
set_option maxRecDepth 100000 in
theorem ca_232 : am_Call at_Ts at_cl 60 mt_232 := at_call (KL := 60) (M := mt_232) (pc := 1915) (pi := 15) (ps := 0) (pn := 1914) (pl := 0) (pv := 118) (at_m8 (List.mem_of_getElem? (i := 235) rfl)) (by decide +kernel)
theorem bd_233 : am_Body at_Ts at_P at_cl at_AO at_NL mt_233 := at_body at_PN at_PX (pG := [1349, 1350]) (pP := [1350]) (pN := []) (pA := []) (pK := []) (pC := [1873, 1967]) (by decide +kernel) (by decide +kernel) (by decide +kernel) (by decide +kernel)
set_option maxRecDepth 100000 in
theorem ca_233 : am_Call at_Ts at_cl 60 mt_233 := at_call (KL := 60) (M := mt_233) (pc := 1966) (pi := 15) (ps := 0) (pn := 1965) (pl := 0) (pv := 127) (at_m9 (List.mem_of_getElem? (i := 46) rfl)) (by decide +kernel)
theorem bd_234 : am_Body at_Ts at_P at_cl at_AO at_NL mt_234 := at_body at_PN at_PX (pG := [1332, 1350, 1334, 1349, 1333]) (pP := [1332]) (pN := []) (pA := []) (pK := []) (pC := [1912]) (by decide +kernel) (by decide +kernel) (by decide +kernel) (by decide +kernel)
set_option maxRecDepth 100000 in
theorem ca_234 : am_Call at_Ts at_cl 60 mt_234 := at_call (KL := 60) (M := mt_234) (pc := 1994) (pi := 15) (ps := 0) (pn := 1993) (pl := 0) (pv := 134) (at_m9 (List.mem_of_getElem? (i := 74) rfl)) (by decide +kernel)
theorem bd_235 : am_Body at_Ts at_P at_cl at_AO at_NL mt_235 := at_body at_PN at_PX (pG := [1332]) (pP := []) (pN := []) (pA := []) (pK := []) (pC := []) (by decide +kernel) (by decide +kernel) (by decide +kernel) (by decide +kernel)
set_option maxRecDepth 100000 in
theorem ca_235 : am_Call at_Ts at_cl 60 mt_235 := at_call (KL := 60) (M := mt_235) (pc := 1895) (pi := 15) (ps := 0) (pn := 1894) (pl := 0) (pv := 113) (at_m8 (List.mem_of_getElem? (i := 215) rfl)) (by decide +kernel)
theorem bd_236 : am_Body at_Ts at_P at_cl at_AO at_NL mt_236 := at_body at_PN at_PX (pG := []) (pP := []) (pN := []) (pA := []) (pK := []) (pC := []) (by decide +kernel) (by decide +kernel) (by decide +kernel) (by decide +kernel)
set_option maxRecDepth 100000 in
theorem ca_236 : am_Call at_Ts at_cl 60 mt_236 := at_call (KL := 60) (M := mt_236) (pc := 1891) (pi := 15) (ps := 1890) (pn := 0) (pl := 0) (pv := 0) (at_m8 (List.mem_of_getElem? (i := 211) rfl)) (by decide +kernel)
theorem bd_237 : am_Body at_Ts at_P at_cl at_AO at_NL mt_237 := at_body at_PN at_PX (pG := []) (pP := []) (pN := []) (pA := []) (pK := []) (pC := [1889, 1892, 1896]) (by decide +kernel) (by decide +kernel) (by decide +kernel) (by decide +kernel)
set_option maxRecDepth 100000 in
theorem ca_237 : am_Call at_Ts at_cl 60 mt_237 := at_call (KL := 60) (M := mt_237) (pc := 1888) (pi := 15) (ps := 0) (pn := 1886) (pl := 1887) (pv := 0) (at_m8 (List.mem_of_getElem? (i := 208) rfl)) (by decide +kernel)
theorem bd_238 : am_Body at_Ts at_P at_cl at_AO at_NL mt_238 := at_body at_PN at_PX (pG := [1333, 1347, 1348]) (pP := []) (pN := []) (pA := []) (pK := []) (pC := [1900, 1904, 1766, 1769, 1784, 1908, 1912]) (by decide +kernel) (by decide +kernel) (by decide +kernel) (by decide +kernel)
set_option maxRecDepth 100000 in
theorem ca_238 : am_Call at_Ts at_cl 60 mt_238 := at_call (KL := 60) (M := mt_238) (pc := 1899) (pi := 15) (ps := 0) (pn := 1898) (pl := 0) (pv := 114) (at_m8 (List.mem_of_getElem? (i := 219) rfl)) (by decide +kernel)
theorem bd_239 : am_Body at_Ts at_P at_cl at_AO at_NL mt_239 := at_body at_PN at_PX (pG := [1351, 1348, 1347]) (pP := []) (pN := []) (pA := []) (pK := []) (pC := [1777, 1928, 1936]) (by decide +kernel) (by decide +kernel) (by decide +kernel) (by decide +kernel)
set_option maxRecDepth 100000 in
theorem ca_239 : am_Call at_Ts at_cl 60 mt_239 := at_call (KL := 60) (M := mt_239) (pc := 1927) (pi := 15) (ps := 0) (pn := 1926) (pl := 0) (pv := 120) (at_m9 (List.mem_of_getElem? (i := 7) rfl)) (by decide +kernel)
theorem bd_240 : am_Body at_Ts at_P at_cl at_AO at_NL mt_240 := at_body at_PN at_PX (pG := [1352, 1280, 1345, 1346, 1347]) (pP := []) (pN := []) (pA := []) (pK := []) (pC := [1932, 1781]) (by decide +kernel) (by decide +kernel) (by decide +kernel) (by decide +kernel)
set_option maxRecDepth 100000 in
theorem ca_240 : am_Call at_Ts at_cl 60 mt_240 := at_call (KL := 60) (M := mt_240) (pc := 1931) (pi := 15) (ps := 0) (pn := 1930) (pl := 0) (pv := 121) (at_m9 (List.mem_of_getElem? (i := 11) rfl)) (by decide +kernel)
theorem bd_241 : am_Body at_Ts at_P at_cl at_AO at_NL mt_241 := at_body at_PN at_PX (pG := []) (pP := []) (pN := []) (pA := []) (pK := []) (pC := []) (by decide +kernel) (by decide +kernel) (by decide +kernel) (by decide +kernel)
set_option maxRecDepth 100000 in
theorem ca_241 : am_Call at_Ts at_cl 60 mt_241 := at_call (KL := 60) (M := mt_241) (pc := 1938) (pi := 15) (ps := 1937) (pn := 0) (pl := 0) (pv := 0) (at_m9 (List.mem_of_getElem? (i := 18) rfl)) (by decide +kernel)
theorem bd_242 : am_Body at_Ts at_P at_cl at_AO at_NL mt_242 := at_body at_PN at_PX (pG := [1347, 1307, 1308, 1351, 1348]) (pP := [1308]) (pN := []) (pA := []) (pK := []) (pC := [1788, 1777]) (by decide +kernel) (by decide +kernel) (by decide +kernel) (by decide +kernel)
set_option maxRecDepth 100000 in
theorem ca_242 : am_Call at_Ts at_cl 60 mt_242 := at_call (KL := 60) (M := mt_242) (pc := 1942) (pi := 15) (ps := 0) (pn := 1941) (pl := 0) (pv := 123) (at_m9 (List.mem_of_getElem? (i := 22) rfl)) (by decide +kernel)
theorem bd_243 : am_Body at_Ts at_P at_cl at_AO at_NL mt_243 := at_body at_PN at_PX (pG := [1274]) (pP := []) (pN := []) (pA := []) (pK := []) (pC := [1889, 1892, 1920]) (by decide +kernel) (by decide +kernel) (by decide +kernel) (by decide +kernel)
set_option maxRecDepth 100000 in
theorem ca_243 : am_Call at_Ts at_cl 60 mt_243 := at_call (KL := 60) (M := mt_243) (pc := 1919) (pi := 15) (ps := 0) (pn := 1917) (pl := 1918) (pv := 0) (at_m8 (List.mem_of_getElem? (i := 239) rfl)) (by decide +kernel)
theorem bd_244 : am_Body at_Ts at_P at_cl at_AO at_NL mt_244 := at_body at_PN at_PX (pG := [1333, 1281, 1330, 1276, 1277, 1337]) (pP := [1352]) (pN := []) (pA := []) (pK := []) (pC := [1900, 1904, 1924, 1939, 1908, 1912]) (by decide +kernel) (by decide +kernel) (by decide +kernel) (by decide +kernel)
set_option maxRecDepth 100000 in
theorem ca_244 : am_Call at_Ts at_cl 60 mt_244 := at_call (KL := 60) (M := mt_244) (pc := 1923) (pi := 15) (ps := 0) (pn := 1922) (pl := 0) (pv := 119) (at_m9 (List.mem_of_getElem? (i := 3) rfl)) (by decide +kernel)
theorem bd_245 : am_Body at_Ts at_P at_cl at_AO at_NL mt_245 := at_body at_PN at_PX (pG := []) (pP := []) (pN := []) (pA := []) (pK := []) (pC := [1889, 1892, 1947]) (by decide +kernel) (by decide +kernel) (by decide +kernel) (by decide +kernel)
set_option maxRecDepth 100000 in
theorem ca_245 : am_Call at_Ts at_cl 60 mt_245 := at_call (KL := 60) (M := mt_245) (pc := 1946) (pi := 15) (ps := 0) (pn := 1944) (pl := 1945) (pv := 0) (at_m9 (List.mem_of_getElem? (i := 26) rfl)) (by decide +kernel)
theorem bd_246 : am_Body at_Ts at_P at_cl at_AO at_NL mt_246 := at_body at_PN at_PX (pG := [1333, 1341, 1342, 1343, 1337, 1330]) (pP := []) (pN := []) (pA := []) (pK := []) (pC := [1900, 1904, 1924, 1939, 1908, 1912]) (by decide +kernel) (by decide +kernel) (by decide +kernel) (by decide +kernel)
set_option maxRecDepth 100000 in
theorem ca_246 : am_Call at_Ts at_cl 60 mt_246 := at_call (KL := 60) (M := mt_246) (pc := 1950) (pi := 15) (ps := 0) (pn := 1949) (pl := 0) (pv := 124) (at_m9 (List.mem_of_getElem? (i := 30) rfl)) (by decide +kernel)
theorem bd_247 : am_Body at_Ts at_P at_cl at_AO at_NL mt_247 := at_body at_PN at_PX (pG := [1336, 1335]) (pP := []) (pN := []) (pA := []) (pK := []) (pC := [1877]) (by decide +kernel) (by decide +kernel) (by decide +kernel) (by decide +kernel)
set_option maxRecDepth 100000 in
theorem ca_247 : am_Call at_Ts at_cl 60 mt_247 := at_call (KL := 60) (M := mt_247) (pc := 1958) (pi := 15) (ps := 0) (pn := 1957) (pl := 0) (pv := 125) (at_m9 (List.mem_of_getElem? (i := 38) rfl)) (by decide +kernel)
theorem bd_248 : am_Body at_Ts at_P at_cl at_AO at_NL mt_248 := at_body at_PN at_PX (pG := [1354, 1307, 1308, 1353]) (pP := [1308]) (pN := []) (pA := []) (pK := []) (pC := []) (by decide +kernel) (by decide +kernel) (by decide +kernel) (by decide +kernel)
set_option maxRecDepth 100000 in
theorem ca_248 : am_Call at_Ts at_cl 60 mt_248 := at_call (KL := 60) (M := mt_248) (pc := 1982) (pi := 15) (ps := 0) (pn := 1981) (pl := 0) (pv := 131) (at_m9 (List.mem_of_getElem? (i := 62) rfl)) (by decide +kernel)
theorem bd_249 : am_Body at_Ts at_P at_cl at_AO at_NL mt_249 := at_body at_PN at_PX (pG := [1353, 1261, 1344, 1345, 1262, 1346]) (pP := [1354, 1344]) (pN := []) (pA := []) (pK := []) (pC := []) (by decide +kernel) (by decide +kernel) (by decide +kernel) (by decide +kernel)
set_option maxRecDepth 100000 in
theorem ca_249 : am_Call at_Ts at_cl 60 mt_249 := at_call (KL := 60) (M := mt_249) (pc := 1986) (pi := 15) (ps := 0) (pn := 1985) (pl := 0) (pv := 132) (at_m9 (List.mem_of_getElem? (i := 66) rfl)) (by decide +kernel)
theorem bd_250 : am_Body at_Ts at_P at_cl at_AO at_NL mt_250 := at_body at_PN at_PX (pG := [1335, 1336]) (pP := []) (pN := []) (pA := []) (pK := []) (pC := [1877, 1979, 1908]) (by decide +kernel) (by decide +kernel) (by decide +kernel) (by decide +kernel)
set_option maxRecDepth 100000 in
theorem ca_250 : am_Call at_Ts at_cl 60 mt_250 := at_call (KL := 60) (M := mt_250) (pc := 1978) (pi := 15) (ps := 0) (pn := 1977) (pl := 0) (pv := 130) (at_m9 (List.mem_of_getElem? (i := 58) rfl)) (by decide +kernel)
theorem bd_251 : am_Body at_Ts at_P at_cl at_AO at_NL mt_251 := at_body at_PN at_PX (pG := [1341, 1342, 1343, 1308, 1307]) (pP := []) (pN := []) (pA := []) (pK := []) (pC := [1979]) (by decide +kernel) (by decide +kernel) (by decide +kernel) (by decide +kernel)
set_option maxRecDepth 100000 in
theorem ca_251 : am_Call at_Ts at_cl 60 mt_251 := at_call (KL := 60) (M := mt_251) (pc := 2010) (pi := 15) (ps := 0) (pn := 2009) (pl := 0) (pv := 137) (at_m9 (List.mem_of_getElem? (i := 90) rfl)) (by decide +kernel)
theorem bd_252 : am_Body at_Ts at_P at_cl at_AO at_NL mt_252 := at_body at_PN at_PX (pG := [1344, 1333, 1338]) (pP := []) (pN := []) (pA := []) (pK := []) (pC := [1892, 1955, 1959]) (by decide +kernel) (by decide +kernel) (by decide +kernel) (by decide +kernel)
set_option maxRecDepth 100000 in
theorem ca_252 : am_Call at_Ts at_cl 60 mt_252 := at_call (KL := 60) (M := mt_252) (pc := 1954) (pi := 15) (ps := 0) (pn := 1952) (pl := 1953) (pv := 0) (at_m9 (List.mem_of_getElem? (i := 34) rfl)) (by decide +kernel)
theorem bd_253 : am_Body at_Ts at_P at_cl at_AO at_NL mt_253 := at_body at_PN at_PX (pG := [1333, 1344, 1346, 1353, 1339, 1258, 1260, 1345, 1338]) (pP := [1350, 1354, 1344]) (pN := []) (pA := []) (pK := []) (pC := [1963, 1975, 1983, 1987, 1991]) (by decide +kernel) (by decide +kernel) (by decide +kernel) (by decide +kernel)
set_option maxRecDepth 100000 in
theorem ca_253 : am_Call at_Ts at_cl 60 mt_253 := at_call (KL := 60) (M := mt_253) (pc := 1962) (pi := 15) (ps := 0) (pn := 1961) (pl := 0) (pv := 126) (at_m9 (List.mem_of_getElem? (i := 42) rfl)) (by decide +kernel)
end
section
/-! what a program decides of each method -/
theorem bd_254 : am_Body at_Ts at_P at_cl at_AO at_NL mt_254 := at_body at_PN at_PX (pG := [1341, 1343, 1336, 1335, 1342, 1338]) (pP := []) (pN := []) (pA := []) (pK := []) (pC := [1877]) (by decide +kernel) (by decide +kernel) (by decide +kernel) (by decide +kernel)
set_option maxRecDepth 100000 in
theorem ca_254 : am_Call at_Ts at_cl 60 mt_254 := at_call (KL := 60) (M := mt_254) (pc := 1990) (pi := 15) (ps := 0) (pn := 1989) (pl := 0) (pv := 133) (at_m9 (List.mem_of_getElem? (i := 70) rfl)) (by decide +kernel)
theorem bd_255 : am_Body at_Ts at_P at_cl at_AO at_NL mt_255 := at_body at_PN at_PX (pG := []) (pP := []) (pN := []) (pA := []) (pK := []) (pC := [1889, 1892, 1999]) (by decide +kernel) (by decide +kernel) (by decide +kernel) (by decide +kernel)
set_option maxRecDepth 100000 in
theorem ca_255 : am_Call at_Ts at_cl 60 mt_255 := at_call (KL := 60) (M := mt_255) (pc := 1998) (pi := 15) (ps := 0) (pn := 1996) (pl := 1997) (pv := 0) (at_m9 (List.mem_of_getElem? (i := 78) rfl)) (by decide +kernel)
theorem bd_256 : am_Body at_Ts at_P at_cl at_AO at_NL mt_256 := at_body at_PN at_PX (pG := [1333, 1347]) (pP := []) (pN := []) (pA := []) (pK := []) (pC := [1900, 1904, 2003, 2011]) (by decide +kernel) (by decide +kernel) (by decide +kernel) (by decide +kernel)
set_option maxRecDepth 100000 in
theorem ca_256 : am_Call at_Ts at_cl 60 mt_256 := at_call (KL := 60) (M := mt_256) (pc := 2002) (pi := 15) (ps := 0) (pn := 2001) (pl := 0) (pv := 135) (at_m9 (List.mem_of_getElem? (i := 82) rfl)) (by decide +kernel)
theorem bd_257 : am_Body at_Ts at_P at_cl at_AO at_NL mt_257 := at_body at_PN at_PX (pG := [1333, 1344, 1338, 1346, 1258, 1260, 1345, 1339, 1353]) (pP := [1350, 1354, 1344]) (pN := []) (pA := []) (pK := []) (pC := [1963, 1983, 1975, 2007, 1991]) (by decide +kernel) (by decide +kernel) (by decide +kernel) (by decide +kernel)
set_option maxRecDepth 100000 in
theorem ca_257 : am_Call at_Ts at_cl 60 mt_257 := at_call (KL := 60) (M := mt_257) (pc := 2006) (pi := 15) (ps := 0) (pn := 2005) (pl := 0) (pv := 136) (at_m9 (List.mem_of_getElem? (i := 86) rfl)) (by decide +kernel)
theorem bd_258 : am_Body at_Ts at_P at_cl at_AO at_NL mt_258 := at_body at_PN at_PX (pG := [1333, 1344, 1267, 1347, 1356, 1355, 1258, 1260, 1339, 1338, 1353]) (pP := [1356, 1350, 1354, 1344]) (pN := []) (pA := []) (pK := []) (pC := [1777, 1963, 1983, 2015, 2019, 1991]) (by decide +kernel) (by decide +kernel) (by decide +kernel) (by decide +kernel)
set_option maxRecDepth 100000 in
theorem ca_258 : am_Call at_Ts at_cl 60 mt_258 := at_call (KL := 60) (M := mt_258) (pc := 2014) (pi := 15) (ps := 0) (pn := 2013) (pl := 0) (pv := 138) (at_m9 (List.mem_of_getElem? (i := 94) rfl)) (by decide +kernel)
theorem bd_259 : am_Body at_Ts at_P at_cl at_AO at_NL mt_259 := at_body at_PN at_PX (pG := [1348, 1356, 1347, 1355, 1354, 1307, 1308, 1353]) (pP := [1308]) (pN := []) (pA := []) (pK := []) (pC := [1900, 1936, 1908]) (by decide +kernel) (by decide +kernel) (by decide +kernel) (by decide +kernel)
set_option maxRecDepth 100000 in
theorem ca_259 : am_Call at_Ts at_cl 60 mt_259 := at_call (KL := 60) (M := mt_259) (pc := 2018) (pi := 15) (ps := 0) (pn := 2017) (pl := 0) (pv := 139) (at_m9 (List.mem_of_getElem? (i := 98) rfl)) (by decide +kernel)
theorem bd_260 : am_Body at_Ts at_P at_cl at_AO at_NL mt_260 := at_body at_PN at_PX (pG := [1341, 1343, 1356, 1354, 1342, 1355, 1353]) (pP := []) (pN := []) (pA := []) (pK := []) (pC := []) (by decide +kernel) (by decide +kernel) (by decide +kernel) (by decide +kernel)
set_option maxRecDepth 100000 in
theorem ca_260 : am_Call at_Ts at_cl 60 mt_260 := at_call (KL := 60) (M := mt_260) (pc := 2022) (pi := 15) (ps := 0) (pn := 2021) (pl := 0) (pv := 140) (at_m9 (List.mem_of_getElem? (i := 102) rfl)) (by decide +kernel)
theorem bd_261 : am_Body at_Ts at_P at_cl at_AO at_NL mt_261 := at_body at_PN at_PX (pG := [1333, 1335, 1336]) (pP := [1350]) (pN := []) (pA := []) (pK := []) (pC := [1892, 1877, 1936, 1991]) (by decide +kernel) (by decide +kernel) (by decide +kernel) (by decide +kernel)
set_option maxRecDepth 100000 in
theorem ca_261 : am_Call at_Ts at_cl 60 mt_261 := at_call (KL := 60) (M := mt_261) (pc := 2026) (pi := 15) (ps := 0) (pn := 2024) (pl := 2025) (pv := 0) (at_m9 (List.mem_of_getElem? (i := 106) rfl)) (by decide +kernel)
theorem bd_262 : am_Body at_Ts at_P at_cl at_AO at_NL mt_262 := at_body at_PN at_PX (pG := [1333, 1335, 1337, 1262, 1347]) (pP := [1350, 1308]) (pN := []) (pA := []) (pK := []) (pC := [1892, 1877, 1781, 1694, 1963, 1900, 1777, 1788, 1908, 1991]) (by decide +kernel) (by decide +kernel) (by decide +kernel) (by decide +kernel)
set_option maxRecDepth 100000 in
theorem ca_262 : am_Call at_Ts at_cl 60 mt_262 := at_call (KL := 60) (M := mt_262) (pc := 2030) (pi := 15) (ps := 0) (pn := 2028) (pl := 2029) (pv := 0) (at_m9 (List.mem_of_getElem? (i := 110) rfl)) (by decide +kernel)
theorem bd_263 : am_Body at_Ts at_P at_cl at_AO at_NL mt_263 := at_body at_PN at_PX (pG := []) (pP := []) (pN := []) (pA := []) (pK := []) (pC := []) (by decide +kernel) (by decide +kernel) (by decide +kernel) (by decide +kernel)
set_option maxRecDepth 100000 in
theorem ca_263 : am_Call at_Ts at_cl 60 mt_263 := at_call (KL := 60) (M := mt_263) (pc := 2041) (pi := 15) (ps := 2040) (pn := 0) (pl := 0) (pv := 0) (at_m9 (List.mem_of_getElem? (i := 121) rfl)) (by decide +kernel)
theorem bd_264 : am_Body at_Ts at_P at_cl at_AO at_NL mt_264 := at_body at_PN at_PX (pG := [1335, 1357, 1336, 1358, 1337, 1359, 1339, 1361, 1341, 1362, 1342, 1363, 1343, 1364, 1333, 1365, 1360, 1338, 1366, 1334, 1332, 1344, 1331]) (pP := [1367, 1368, 1369]) (pN := []) (pA := []) (pK := []) (pC := [2039]) (by decide +kernel) (by decide +kernel) (by decide +kernel) (by decide +kernel)
set_option maxRecDepth 100000 in
theorem ca_264 : am_Call at_Ts at_cl 60 mt_264 := at_call (KL := 60) (M := mt_264) (pc := 2038) (pi := 15) (ps := 0) (pn := 2037) (pl := 0) (pv := 141) (at_m9 (List.mem_of_getElem? (i := 118) rfl)) (by decide +kernel)
theorem bd_265 : am_Body at_Ts at_P at_cl at_AO at_NL mt_265 := at_body at_PN at_PX (pG := [1357, 1335, 1358, 1336, 1359, 1337, 1361, 1339, 1362, 1341, 1363, 1342, 1364, 1343, 1365, 1333, 1338, 1360, 1334, 1366, 1367, 1368, 1369]) (pP := [1332, 1344, 1331]) (pN := []) (pA := []) (pK := []) (pC := [2039, 1881]) (by decide +kernel) (by decide +kernel) (by decide +kernel) (by decide +kernel)
set_option maxRecDepth 100000 in
theorem ca_265 : am_Call at_Ts at_cl 60 mt_265 := at_call (KL := 60) (M := mt_265) (pc := 2059) (pi := 15) (ps := 0) (pn := 2058) (pl := 0) (pv := 145) (at_m9 (List.mem_of_getElem? (i := 139) rfl)) (by decide +kernel)
theorem bd_266 : am_Body at_Ts at_P at_cl at_AO at_NL mt_266 := at_body at_PN at_PX (pG := [1332]) (pP := []) (pN := []) (pA := []) (pK := []) (pC := [1892, 2035, 2042, 2056]) (by decide +kernel) (by decide +kernel) (by decide +kernel) (by decide +kernel)
set_option maxRecDepth 100000 in
theorem ca_266 : am_Call at_Ts at_cl 60 mt_266 := at_call (KL := 60) (M := mt_266) (pc := 2034) (pi := 15) (ps := 0) (pn := 2032) (pl := 2033) (pv := 0) (at_m9 (List.mem_of_getElem? (i := 114) rfl)) (by decide +kernel)
theorem bd_267 : am_Body at_Ts at_P at_cl at_AO at_NL mt_267 := at_body at_PN at_PX (pG := [1341, 1333, 1274, 1329, 1281, 1339]) (pP := []) (pN := []) (pA := []) (pK := []) (pC := [2046, 2047, 2051, 2052]) (by decide +kernel) (by decide +kernel) (by decide +kernel) (by decide +kernel)
set_option maxRecDepth 100000 in
theorem ca_267 : am_Call at_Ts at_cl 60 mt_267 := at_call (KL := 60) (M := mt_267) (pc := 2045) (pi := 15) (ps := 0) (pn := 2044) (pl := 0) (pv := 142) (at_m9 (List.mem_of_getElem? (i := 125) rfl)) (by decide +kernel)
theorem bd_268 : am_Body at_Ts at_P at_cl at_AO at_NL mt_268 := at_body at_PN at_PX (pG := [1336, 1333]) (pP := []) (pN := []) (pA := []) (pK := []) (pC := [1896, 1947, 1920]) (by decide +kernel) (by decide +kernel) (by decide +kernel) (by decide +kernel)
set_option maxRecDepth 100000 in
theorem ca_268 : am_Call at_Ts at_cl 60 mt_268 := at_call (KL := 60) (M := mt_268) (pc := 2050) (pi := 15) (ps := 0) (pn := 2049) (pl := 0) (pv := 143) (at_m9 (List.mem_of_getElem? (i := 130) rfl)) (by decide +kernel)
theorem bd_269 : am_Body at_Ts at_P at_cl at_AO at_NL mt_269 := at_body at_PN at_PX (pG := [1333, 1348, 1347, 1305, 1338]) (pP := []) (pN := []) (pA := []) (pK := []) (pC := [1900, 1766, 1769, 2003, 1959]) (by decide +kernel) (by decide +kernel) (by decide +kernel) (by decide +kernel)
set_option maxRecDepth 100000 in
theorem ca_269 : am_Call at_Ts at_cl 60 mt_269 := at_call (KL := 60) (M := mt_269) (pc := 2055) (pi := 15) (ps := 0) (pn := 2054) (pl := 0) (pv := 144) (at_m9 (List.mem_of_getElem? (i := 135) rfl)) (by decide +kernel)
end
section
/-! what a program decides of each method -/
theorem bd_270 : am_Body at_Ts at_P at_cl at_AO at_NL mt_270 := at_body at_PN at_PX (pG := [1332, 1333, 1347, 1314]) (pP := []) (pN := []) (pA := []) (pK := []) (pC := [1892, 1900, 1792]) (by decide +kernel) (by decide +kernel) (by decide +kernel) (by decide +kernel)
set_option maxRecDepth 100000 in
theorem ca_270 : am_Call at_Ts at_cl 60 mt_270 := at_call (KL := 60) (M := mt_270) (pc := 2063) (pi := 15) (ps := 0) (pn := 2061) (pl := 2062) (pv := 0) (at_m9 (List.mem_of_getElem? (i := 143) rfl)) (by decide +kernel)
theorem bd_271 : am_Body at_Ts at_P at_cl at_AO at_NL mt_271 := at_body at_PN at_PX (pG := [1333, 1341, 1343, 1347, 1342, 1314]) (pP := []) (pN := []) (pA := []) (pK := []) (pC := [1892, 2068, 1792]) (by decide +kernel) (by decide +kernel) (by decide +kernel) (by decide +kernel)
set_option maxRecDepth 100000 in
theorem ca_271 : am_Call at_Ts at_cl 60 mt_271 := at_call (KL := 60) (M := mt_271) (pc := 2067) (pi := 15) (ps := 0) (pn := 2065) (pl := 2066) (pv := 0) (at_m9 (List.mem_of_getElem? (i := 147) rfl)) (by decide +kernel)
theorem bd_272 : am_Body at_Ts at_P at_cl at_AO at_NL mt_272 := at_body at_PN at_PX (pG := [1274, 1277, 1347, 1276, 1314]) (pP := []) (pN := []) (pA := []) (pK := []) (pC := [1792]) (by decide +kernel) (by decide +kernel) (by decide +kernel) (by decide +kernel)
set_option maxRecDepth 100000 in
theorem ca_272 : am_Call at_Ts at_cl 60 mt_272 := at_call (KL := 60) (M := mt_272) (pc := 2075) (pi := 15) (ps := 0) (pn := 2073) (pl := 2074) (pv := 0) (at_m9 (List.mem_of_getElem? (i := 155) rfl)) (by decide +kernel)
end
section
/-! THE TABLES, WHOLE -/
set_option maxRecDepth 1000000 in
set_option maxHeartbeats 4000000 in
theorem at_all : ∀ M ∈ at_P, am_Body at_Ts at_P at_cl at_AO at_NL M ∧ am_Call at_Ts at_cl 60 M := List.forall_mem_cons.mpr ⟨⟨bd_0, ca_0⟩, List.forall_mem_cons.mpr ⟨⟨bd_1, ca_1⟩, List.forall_mem_cons.mpr ⟨⟨bd_2, ca_2⟩, List.forall_mem_cons.mpr ⟨⟨bd_3, ca_3⟩, List.forall_mem_cons.mpr ⟨⟨bd_4, ca_4⟩, List.forall_mem_cons.mpr ⟨⟨bd_5, ca_5⟩, List.forall_mem_cons.mpr ⟨⟨bd_6, ca_6⟩, List.forall_mem_cons.mpr ⟨⟨bd_7, ca_7⟩, List.forall_mem_cons.mpr ⟨⟨bd_8, ca_8⟩, List.forall_mem_cons.mpr ⟨⟨bd_9, ca_9⟩, List.forall_mem_cons.mpr ⟨⟨bd_10, ca_10⟩, List.forall_mem_cons.mpr ⟨⟨bd_11, ca_11⟩, List.forall_mem_cons.mpr ⟨⟨bd_12, ca_12⟩, List.forall_mem_cons.mpr ⟨⟨bd_13, ca_13⟩, List.forall_mem_cons.mpr ⟨⟨bd_14, ca_14⟩, List.forall_mem_cons.mpr ⟨⟨bd_15, ca_15⟩, List.forall_mem_cons.mpr ⟨⟨bd_16, ca_16⟩, List.forall_mem_cons.mpr ⟨⟨bd_17, ca_17⟩, List.forall_mem_cons.mpr ⟨⟨bd_18, ca_18⟩, List.forall_mem_cons.mpr ⟨⟨bd_19, ca_19⟩, List.forall_mem_cons.mpr ⟨⟨bd_20, ca_20⟩, List.forall_mem_cons.mpr ⟨⟨bd_21, ca_21⟩, List.forall_mem_cons.mpr ⟨⟨bd_22, ca_22⟩, List.forall_mem_cons.mpr ⟨⟨bd_23, ca_23⟩, List.forall_mem_cons.mpr ⟨⟨bd_24, ca_24⟩, List.forall_mem_cons.mpr ⟨⟨bd_25, ca_25⟩, List.forall_mem_cons.mpr ⟨⟨bd_26, ca_26⟩, List.forall_mem_cons.mpr ⟨⟨bd_27, ca_27⟩, List.forall_mem_cons.mpr ⟨⟨bd_28, ca_28⟩, List.forall_mem_cons.mpr ⟨⟨bd_29, ca_29⟩, List.forall_mem_cons.mpr ⟨⟨bd_30, ca_30⟩, List.forall_mem_cons.mpr ⟨⟨bd_31, ca_31⟩, List.forall_mem_cons.mpr ⟨⟨bd_32, ca_32⟩, List.forall_mem_cons.mpr ⟨⟨bd_33, ca_33⟩, List.forall_mem_cons.mpr ⟨⟨bd_34, ca_34⟩, List.forall_mem_cons.mpr ⟨⟨bd_35, ca_35⟩, List.forall_mem_cons.mpr ⟨⟨bd_36, ca_36⟩, List.forall_mem_cons.mpr ⟨⟨bd_37, ca_37⟩, List.forall_mem_cons.mpr ⟨⟨bd_38, ca_38⟩, List.forall_mem_cons.mpr ⟨⟨bd_39, ca_39⟩, List.forall_mem_cons.mpr ⟨⟨bd_40, ca_40⟩, List.forall_mem_cons.mpr ⟨⟨bd_41, ca_41⟩, List.forall_mem_cons.mpr ⟨⟨bd_42, ca_42⟩, List.forall_mem_cons.mpr ⟨⟨bd_43, ca_43⟩, List.forall_mem_cons.mpr ⟨⟨bd_44, ca_44⟩, List.forall_mem_cons.mpr ⟨⟨bd_45, ca_45⟩, List.forall_mem_cons.mpr ⟨⟨bd_46, ca_46⟩, List.forall_mem_cons.mpr ⟨⟨bd_47, ca_47⟩, List.forall_mem_cons.mpr ⟨⟨bd_48, ca_48⟩, List.forall_mem_cons.mpr ⟨⟨bd_49, ca_49⟩, List.forall_mem_cons.mpr ⟨⟨bd_50, ca_50⟩, List.forall_mem_cons.mpr ⟨⟨bd_51, ca_51⟩, List.forall_mem_cons.mpr ⟨⟨bd_52, ca_52⟩, List.forall_mem_cons.mpr ⟨⟨bd_53, ca_53⟩, List.forall_mem_cons.mpr ⟨⟨bd_54, ca_54⟩, List.forall_mem_cons.mpr ⟨⟨bd_55, ca_55⟩, List.forall_mem_cons.mpr ⟨⟨bd_56, ca_56⟩, List.forall_mem_cons.mpr ⟨⟨bd_57, ca_57⟩, List.forall_mem_cons.mpr ⟨⟨bd_58, ca_58⟩, List.forall_mem_cons.mpr ⟨⟨bd_59, ca_59⟩, List.forall_mem_cons.mpr ⟨⟨bd_60, ca_60⟩, List.forall_mem_cons.mpr ⟨⟨bd_61, ca_61⟩, List.forall_mem_cons.mpr ⟨⟨bd_62, ca_62⟩, List.forall_mem_cons.mpr ⟨⟨bd_63, ca_63⟩, List.forall_mem_cons.mpr ⟨⟨bd_64, ca_64⟩, List.forall_mem_cons.mpr ⟨⟨bd_65, ca_65⟩, List.forall_mem_cons.mpr ⟨⟨bd_66, ca_66⟩, List.forall_mem_cons.mpr ⟨⟨bd_67, ca_67⟩, List.forall_mem_cons.mpr ⟨⟨bd_68, ca_68⟩, List.forall_mem_cons.mpr ⟨⟨bd_69, ca_69⟩, List.forall_mem_cons.mpr ⟨⟨bd_70, ca_70⟩, List.forall_mem_cons.mpr ⟨⟨bd_71, ca_71⟩, List.forall_mem_cons.mpr ⟨⟨bd_72, ca_72⟩, List.forall_mem_cons.mpr ⟨⟨bd_73, ca_73⟩, List.forall_mem_cons.mpr ⟨⟨bd_74, ca_74⟩, List.forall_mem_cons.mpr ⟨⟨bd_75, ca_75⟩, List.forall_mem_cons.mpr ⟨⟨bd_76, ca_76⟩, List.forall_mem_cons.mpr ⟨⟨bd_77, ca_77⟩, List.forall_mem_cons.mpr ⟨⟨bd_78, ca_78⟩, List.forall_mem_cons.mpr ⟨⟨bd_79, ca_79⟩, List.forall_mem_cons.mpr ⟨⟨bd_80, ca_80⟩, List.forall_mem_cons.mpr ⟨⟨bd_81, ca_81⟩, List.forall_mem_cons.mpr ⟨⟨bd_82, ca_82⟩, List.forall_mem_cons.mpr ⟨⟨bd_83, ca_83⟩, List.forall_mem_cons.mpr ⟨⟨bd_84, ca_84⟩, List.forall_mem_cons.mpr ⟨⟨bd_85, ca_85⟩, List.forall_mem_cons.mpr ⟨⟨bd_86, ca_86⟩, List.forall_mem_cons.mpr ⟨⟨bd_87, ca_87⟩, List.forall_mem_cons.mpr ⟨⟨bd_88, ca_88⟩, List.forall_mem_cons.mpr ⟨⟨bd_89, ca_89⟩, List.forall_mem_cons.mpr ⟨⟨bd_90, ca_90⟩, List.forall_mem_cons.mpr ⟨⟨bd_91, ca_91⟩, List.forall_mem_cons.mpr ⟨⟨bd_92, ca_92⟩, List.forall_mem_cons.mpr ⟨⟨bd_93, ca_93⟩, List.forall_mem_cons.mpr ⟨⟨bd_94, ca_94⟩, List.forall_mem_cons.mpr ⟨⟨bd_95, ca_95⟩, List.forall_mem_cons.mpr ⟨⟨bd_96, ca_96⟩, List.forall_mem_cons.mpr ⟨⟨bd_97, ca_97⟩, List.forall_mem_cons.mpr ⟨⟨bd_98, ca_98⟩, List.forall_mem_cons.mpr ⟨⟨bd_99, ca_99⟩, List.forall_mem_cons.mpr ⟨⟨bd_100, ca_100⟩, List.forall_mem_cons.mpr ⟨⟨bd_101, ca_101⟩, List.forall_mem_cons.mpr ⟨⟨bd_102, ca_102⟩, List.forall_mem_cons.mpr ⟨⟨bd_103, ca_103⟩, List.forall_mem_cons.mpr ⟨⟨bd_104, ca_104⟩, List.forall_mem_cons.mpr ⟨⟨bd_105, ca_105⟩, List.forall_mem_cons.mpr ⟨⟨bd_106, ca_106⟩, List.forall_mem_cons.mpr ⟨⟨bd_107, ca_107⟩, List.forall_mem_cons.mpr ⟨⟨bd_108, ca_108⟩, List.forall_mem_cons.mpr ⟨⟨bd_109, ca_109⟩, List.forall_mem_cons.mpr ⟨⟨bd_110, ca_110⟩, List.forall_mem_cons.mpr ⟨⟨bd_111, ca_111⟩, List.forall_mem_cons.mpr ⟨⟨bd_112, ca_112⟩, List.forall_mem_cons.mpr ⟨⟨bd_113, ca_113⟩, List.forall_mem_cons.mpr ⟨⟨bd_114, ca_114⟩, List.forall_mem_cons.mpr ⟨⟨bd_115, ca_115⟩, List.forall_mem_cons.mpr ⟨⟨bd_116, ca_116⟩, List.forall_mem_cons.mpr ⟨⟨bd_117, ca_117⟩, List.forall_mem_cons.mpr ⟨⟨bd_118, ca_118⟩, List.forall_mem_cons.mpr ⟨⟨bd_119, ca_119⟩, List.forall_mem_cons.mpr ⟨⟨bd_120, ca_120⟩, List.forall_mem_cons.mpr ⟨⟨bd_121, ca_121⟩, List.forall_mem_cons.mpr ⟨⟨bd_122, ca_122⟩, List.forall_mem_cons.mpr ⟨⟨bd_123, ca_123⟩, List.forall_mem_cons.mpr ⟨⟨bd_124, ca_124⟩, List.forall_mem_cons.mpr ⟨⟨bd_125, ca_125⟩, List.forall_mem_cons.mpr ⟨⟨bd_126, ca_126⟩, List.forall_mem_cons.mpr ⟨⟨bd_127, ca_127⟩, List.forall_mem_cons.mpr ⟨⟨bd_128, ca_128⟩, List.forall_mem_cons.mpr ⟨⟨bd_129, ca_129⟩, List.forall_mem_cons.mpr ⟨⟨bd_130, ca_130⟩, List.forall_mem_cons.mpr ⟨⟨bd_131, ca_131⟩, List.forall_mem_cons.mpr ⟨⟨bd_132, ca_132⟩, List.forall_mem_cons.mpr ⟨⟨bd_133, ca_133⟩, List.forall_mem_cons.mpr ⟨⟨bd_134, ca_134⟩, List.forall_mem_cons.mpr ⟨⟨bd_135, ca_135⟩, List.forall_mem_cons.mpr ⟨⟨bd_136, ca_136⟩, List.forall_mem_cons.mpr ⟨⟨bd_137, ca_137⟩, List.forall_mem_cons.mpr ⟨⟨bd_138, ca_138⟩, List.forall_mem_cons.mpr ⟨⟨bd_139, ca_139⟩, List.forall_mem_cons.mpr ⟨⟨bd_140, ca_140⟩, List.forall_mem_cons.mpr ⟨⟨bd_141, ca_141⟩, List.forall_mem_cons.mpr ⟨⟨bd_142, ca_142⟩, List.forall_mem_cons.mpr ⟨⟨bd_143, ca_143⟩, List.forall_mem_cons.mpr ⟨⟨bd_144, ca_144⟩, List.forall_mem_cons.mpr ⟨⟨bd_145, ca_145⟩, List.forall_mem_cons.mpr ⟨⟨bd_146, ca_146⟩, List.forall_mem_cons.mpr ⟨⟨bd_147, ca_147⟩, List.forall_mem_cons.mpr ⟨⟨bd_148, ca_148⟩, List.forall_mem_cons.mpr ⟨⟨bd_149, ca_149⟩, List.forall_mem_cons.mpr ⟨⟨bd_150, ca_150⟩, List.forall_mem_cons.mpr ⟨⟨bd_151, ca_151⟩, List.forall_mem_cons.mpr ⟨⟨bd_152, ca_152⟩, List.forall_mem_cons.mpr ⟨⟨bd_153, ca_153⟩, List.forall_mem_cons.mpr ⟨⟨bd_154, ca_154⟩, List.forall_mem_cons.mpr ⟨⟨bd_155, ca_155⟩, List.forall_mem_cons.mpr ⟨⟨bd_156, ca_156⟩, List.forall_mem_cons.mpr ⟨⟨bd_157, ca_157⟩, List.forall_mem_cons.mpr ⟨⟨bd_158, ca_158⟩, List.forall_mem_cons.mpr ⟨⟨bd_159, ca_159⟩, List.forall_mem_cons.mpr ⟨⟨bd_160, ca_160⟩, List.forall_mem_cons.mpr ⟨⟨bd_161, ca_161⟩, List.forall_mem_cons.mpr ⟨⟨bd_162, ca_162⟩, List.forall_mem_cons.mpr ⟨⟨bd_163, ca_163⟩, List.forall_mem_cons.mpr ⟨⟨bd_164, ca_164⟩, List.forall_mem_cons.mpr ⟨⟨bd_165, ca_165⟩, List.forall_mem_cons.mpr ⟨⟨bd_166, ca_166⟩, List.forall_mem_cons.mpr ⟨⟨bd_167, ca_167⟩, List.forall_mem_cons.mpr ⟨⟨bd_168, ca_168⟩, List.forall_mem_cons.mpr ⟨⟨bd_169, ca_169⟩, List.forall_mem_cons.mpr ⟨⟨bd_170, ca_170⟩, List.forall_mem_cons.mpr ⟨⟨bd_171, ca_171⟩, List.forall_mem_cons.mpr ⟨⟨bd_172, ca_172⟩, List.forall_mem_cons.mpr ⟨⟨bd_173, ca_173⟩, List.forall_mem_cons.mpr ⟨⟨bd_174, ca_174⟩, List.forall_mem_cons.mpr ⟨⟨bd_175, ca_175⟩, List.forall_mem_cons.mpr ⟨⟨bd_176, ca_176⟩, List.forall_mem_cons.mpr ⟨⟨bd_177, ca_177⟩, List.forall_mem_cons.mpr ⟨⟨bd_178, ca_178⟩, List.forall_mem_cons.mpr ⟨⟨bd_179, ca_179⟩, List.forall_mem_cons.mpr ⟨⟨bd_180, ca_180⟩, List.forall_mem_cons.mpr ⟨⟨bd_181, ca_181⟩, List.forall_mem_cons.mpr ⟨⟨bd_182, ca_182⟩, List.forall_mem_cons.mpr ⟨⟨bd_183, ca_183⟩, List.forall_mem_cons.mpr ⟨⟨bd_184, ca_184⟩, List.forall_mem_cons.mpr ⟨⟨bd_185, ca_185⟩, List.forall_mem_cons.mpr ⟨⟨bd_186, ca_186⟩, List.forall_mem_cons.mpr ⟨⟨bd_187, ca_187⟩, List.forall_mem_cons.mpr ⟨⟨bd_188, ca_188⟩, List.forall_mem_cons.mpr ⟨⟨bd_189, ca_189⟩, List.forall_mem_cons.mpr ⟨⟨bd_190, ca_190⟩, List.forall_mem_cons.mpr ⟨⟨bd_191, ca_191⟩, List.forall_mem_cons.mpr ⟨⟨bd_192, ca_192⟩, List.forall_mem_cons.mpr ⟨⟨bd_193, ca_193⟩, List.forall_mem_cons.mpr ⟨⟨bd_194, ca_194⟩, List.forall_mem_cons.mpr ⟨⟨bd_195, ca_195⟩, List.forall_mem_cons.mpr ⟨⟨bd_196, ca_196⟩, List.forall_mem_cons.mpr ⟨⟨bd_197, ca_197⟩, List.forall_mem_cons.mpr ⟨⟨bd_198, ca_198⟩, List.forall_mem_cons.mpr ⟨⟨bd_199, ca_199⟩, List.forall_mem_cons.mpr ⟨⟨bd_200, ca_200⟩, List.forall_mem_cons.mpr ⟨⟨bd_201, ca_201⟩, List.forall_mem_cons.mpr ⟨⟨bd_202, ca_202⟩, List.forall_mem_cons.mpr ⟨⟨bd_203, ca_203⟩, List.forall_mem_cons.mpr ⟨⟨bd_204, ca_204⟩, List.forall_mem_cons.mpr ⟨⟨bd_205, ca_205⟩, List.forall_mem_cons.mpr ⟨⟨bd_206, ca_206⟩, List.forall_mem_cons.mpr ⟨⟨bd_207, ca_207⟩, List.forall_mem_cons.mpr ⟨⟨bd_208, ca_208⟩, List.forall_mem_cons.mpr ⟨⟨bd_209, ca_209⟩, List.forall_mem_cons.mpr ⟨⟨bd_210, ca_210⟩, List.forall_mem_cons.mpr ⟨⟨bd_211, ca_211⟩, List.forall_mem_cons.mpr ⟨⟨bd_212, ca_212⟩, List.forall_mem_cons.mpr ⟨⟨bd_213, ca_213⟩, List.forall_mem_cons.mpr ⟨⟨bd_214, ca_214⟩, List.forall_mem_cons.mpr ⟨⟨bd_215, ca_215⟩, List.forall_mem_cons.mpr ⟨⟨bd_216, ca_216⟩, List.forall_mem_cons.mpr ⟨⟨bd_217, ca_217⟩, List.forall_mem_cons.mpr ⟨⟨bd_218, ca_218⟩, List.forall_mem_cons.mpr ⟨⟨bd_219, ca_219⟩, List.forall_mem_cons.mpr ⟨⟨bd_220, ca_220⟩, List.forall_mem_cons.mpr ⟨⟨bd_221, ca_221⟩, List.forall_mem_cons.mpr ⟨⟨bd_222, ca_222⟩, List.forall_mem_cons.mpr ⟨⟨bd_223, ca_223⟩, List.forall_mem_cons.mpr ⟨⟨bd_224, ca_224⟩, List.forall_mem_cons.mpr ⟨⟨bd_225, ca_225⟩, List.forall_mem_cons.mpr ⟨⟨bd_226, ca_226⟩, List.forall_mem_cons.mpr ⟨⟨bd_227, ca_227⟩, List.forall_mem_cons.mpr ⟨⟨bd_228, ca_228⟩, List.forall_mem_cons.mpr ⟨⟨bd_229, ca_229⟩, List.forall_mem_cons.mpr ⟨⟨bd_230, ca_230⟩, List.forall_mem_cons.mpr ⟨⟨bd_231, ca_231⟩, List.forall_mem_cons.mpr ⟨⟨bd_232, ca_232⟩, List.forall_mem_cons.mpr ⟨⟨bd_233, ca_233⟩, List.forall_mem_cons.mpr ⟨⟨bd_234, ca_234⟩, List.forall_mem_cons.mpr ⟨⟨bd_235, ca_235⟩, List.forall_mem_cons.mpr ⟨⟨bd_236, ca_236⟩, List.forall_mem_cons.mpr ⟨⟨bd_237, ca_237⟩, List.forall_mem_cons.mpr ⟨⟨bd_238, ca_238⟩, List.forall_mem_cons.mpr ⟨⟨bd_239, ca_239⟩, List.forall_mem_cons.mpr ⟨⟨bd_240, ca_240⟩, List.forall_mem_cons.mpr ⟨⟨bd_241, ca_241⟩, List.forall_mem_cons.mpr ⟨⟨bd_242, ca_242⟩, List.forall_mem_cons.mpr ⟨⟨bd_243, ca_243⟩, List.forall_mem_cons.mpr ⟨⟨bd_244, ca_244⟩, List.forall_mem_cons.mpr ⟨⟨bd_245, ca_245⟩, List.forall_mem_cons.mpr ⟨⟨bd_246, ca_246⟩, List.forall_mem_cons.mpr ⟨⟨bd_247, ca_247⟩, List.forall_mem_cons.mpr ⟨⟨bd_248, ca_248⟩, List.forall_mem_cons.mpr ⟨⟨bd_249, ca_249⟩, List.forall_mem_cons.mpr ⟨⟨bd_250, ca_250⟩, List.forall_mem_cons.mpr ⟨⟨bd_251, ca_251⟩, List.forall_mem_cons.mpr ⟨⟨bd_252, ca_252⟩, List.forall_mem_cons.mpr ⟨⟨bd_253, ca_253⟩, List.forall_mem_cons.mpr ⟨⟨bd_254, ca_254⟩, List.forall_mem_cons.mpr ⟨⟨bd_255, ca_255⟩, List.forall_mem_cons.mpr ⟨⟨bd_256, ca_256⟩, List.forall_mem_cons.mpr ⟨⟨bd_257, ca_257⟩, List.forall_mem_cons.mpr ⟨⟨bd_258, ca_258⟩, List.forall_mem_cons.mpr ⟨⟨bd_259, ca_259⟩, List.forall_mem_cons.mpr ⟨⟨bd_260, ca_260⟩, List.forall_mem_cons.mpr ⟨⟨bd_261, ca_261⟩, List.forall_mem_cons.mpr ⟨⟨bd_262, ca_262⟩, List.forall_mem_cons.mpr ⟨⟨bd_263, ca_263⟩, List.forall_mem_cons.mpr ⟨⟨bd_264, ca_264⟩, List.forall_mem_cons.mpr ⟨⟨bd_265, ca_265⟩, List.forall_mem_cons.mpr ⟨⟨bd_266, ca_266⟩, List.forall_mem_cons.mpr ⟨⟨bd_267, ca_267⟩, List.forall_mem_cons.mpr ⟨⟨bd_268, ca_268⟩, List.forall_mem_cons.mpr ⟨⟨bd_269, ca_269⟩, List.forall_mem_cons.mpr ⟨⟨bd_270, ca_270⟩, List.forall_mem_cons.mpr ⟨⟨bd_271, ca_271⟩, List.forall_mem_cons.mpr ⟨⟨bd_272, ca_272⟩, fun _ h => absurd h List.not_mem_nil⟩⟩⟩⟩⟩⟩⟩⟩⟩⟩⟩⟩⟩⟩⟩⟩⟩⟩⟩⟩⟩⟩⟩⟩⟩⟩⟩⟩⟩⟩⟩⟩⟩⟩⟩⟩⟩⟩⟩⟩⟩⟩⟩⟩⟩⟩⟩⟩⟩⟩⟩⟩⟩⟩⟩⟩⟩⟩⟩⟩⟩⟩⟩⟩⟩⟩⟩⟩⟩⟩⟩⟩⟩⟩⟩⟩⟩⟩⟩⟩⟩⟩⟩⟩⟩⟩⟩⟩⟩⟩⟩⟩⟩⟩⟩⟩⟩⟩⟩⟩⟩⟩⟩⟩⟩⟩⟩⟩⟩⟩⟩⟩⟩⟩⟩⟩⟩⟩⟩⟩⟩⟩⟩⟩⟩⟩⟩⟩⟩⟩⟩⟩⟩⟩⟩⟩⟩⟩⟩⟩⟩⟩⟩⟩⟩⟩⟩⟩⟩⟩⟩⟩⟩⟩⟩⟩⟩⟩⟩⟩⟩⟩⟩⟩⟩⟩⟩⟩⟩⟩⟩⟩⟩⟩⟩⟩⟩⟩⟩⟩⟩⟩⟩⟩⟩⟩⟩⟩⟩⟩⟩⟩⟩⟩⟩⟩⟩⟩⟩⟩⟩⟩⟩⟩⟩⟩⟩⟩⟩⟩⟩⟩⟩⟩⟩⟩⟩⟩⟩⟩⟩⟩⟩⟩⟩⟩⟩⟩⟩⟩⟩⟩⟩⟩⟩⟩⟩⟩⟩⟩⟩⟩⟩⟩⟩⟩⟩⟩⟩⟩⟩⟩⟩⟩⟩⟩⟩⟩⟩⟩⟩⟩⟩⟩⟩⟩⟩⟩⟩⟩⟩⟩⟩
set_option maxRecDepth 1000000 in
theorem at_Fix : am_Fix at_Ts at_P at_cl at_ty at_AO at_NL 60 := by
  refine ⟨at_Cls, ?_, fun w hw => (List.mem_filter.mp hw).2, ⟨?_, ?_⟩, ⟨?_, ?_, ?_⟩, ⟨?_, ?_⟩, ⟨?_, ?_, ?_⟩, ⟨by decide, by decide +kernel⟩, at_all⟩
  · intro t ht
    rcases ht with rfl | rfl | rfl | rfl
    · exact at_at 61 (by decide +kernel) (by decide +kernel)
    · exact at_at 62 (by decide +kernel) (by decide +kernel)
    · exact at_at 1218 (by decide +kernel) (by decide +kernel)
    · exact at_at 1601 (by decide +kernel) (by decide +kernel)
  · exact at_at 28 (by decide +kernel) (by decide +kernel)
  · exact at_at 29 (by decide +kernel) (by decide +kernel)
  · exact at_at 76 (by decide +kernel) (by decide +kernel)
  · exact at_at 5 (by decide +kernel) (by decide +kernel)
  · exact at_at 77 (by decide +kernel) (by decide +kernel)
  · exact at_at 796 (by decide +kernel) (by decide +kernel)
  · exact at_at 797 (by decide +kernel) (by decide +kernel)
  · exact at_at 790 (by decide +kernel) (by decide +kernel)
  · exact at_at 789 (by decide +kernel) (by decide +kernel)
  · exact at_at 21 (by decide +kernel) (by decide +kernel)
end
section
/-! RULES FOR RUNS with unknown numbers in them: am_G says that a run from here ends, and how -/
def am_G (P : List am_M) (cl : List vw_C) (tyL : List (List FieldType)) (d : Nat) (M : am_M) (pc : Nat) (l : am_L) (st : List Value) (S : am_S) (Q : Option Value → am_S → Nat → Nat → Prop) : Prop := ∃ (f : Nat) (r : Option Value) (S' : am_S) (c n : Nat), am_run P cl tyL f d M pc l st S = some (r, S', c, n) ∧ Q r S' c n
section GO
variable {P : List am_M} {cl : List vw_C} {tyL : List (List FieldType)} {d : Nat} {M : am_M} {pc : Nat} {l : am_L} {st : List Value} {S : am_S} {Q : Option Value → am_S → Nat → Nat → Prop}
theorem G_one {f0 pc' : Nat} {l' : am_L} {st' : List Value} {S' : am_S} {dc ds : Nat} (h : am_one P cl tyL f0 d M pc l st S = some (pc', l', st', S', dc, ds)) (k : am_G P cl tyL d M pc' l' st' S' (fun r S2 c n => Q r S2 (dc + c) (ds + n))) : am_G P cl tyL d M pc l st S Q := by
  obtain ⟨f, r, S2, c, n, h1, h2⟩ := k
  have h3 := am_one_le h f
  have h4 := am_run_le h1 f0
  rw [Nat.add_comm f f0] at h4
  exact ⟨_, r, S2, _, _, am_run_one h3 h4, h2⟩
theorem G_many {f0 : Nat} : ∀ (m : Nat) {pc : Nat} {l : am_L} {st : List Value} {S : am_S} {Q : Option Value → am_S → Nat → Nat → Prop} {pc' : Nat} {l' : am_L} {st' : List Value} {S' : am_S} {dc ds : Nat}, am_many P cl tyL f0 d M m pc l st S = some (pc', l', st', S', dc, ds) → am_G P cl tyL d M pc' l' st' S' (fun r S2 c n => Q r S2 (dc + c) (ds + n)) → am_G P cl tyL d M pc l st S Q := by
  intro m
  induction m with
  | zero =>
    intro pc l st S Q pc' l' st' S' dc ds h k
    cases h
    obtain ⟨f, r, S2, c, n, h1, h2⟩ := k
    rw [Nat.zero_add, Nat.zero_add] at h2
    exact ⟨f, r, S2, c, n, h1, h2⟩
  | succ m ih =>
    intro pc l st S Q pc' l' st' S' dc ds h k
    unfold am_many at h
    split at h
    · cases h
    · rename_i pc1 l1 st1 S1 d1 n1 ho
      split at h
      · cases h
      · rename_i pc2 l2 st2 S2 d2 n2 hm
        cases h
        refine G_one ho (ih hm ?_)
        obtain ⟨f, r, S3, c, n, h1, h2⟩ := k
        rw [Nat.add_assoc, Nat.add_assoc] at h2
        exact ⟨f, r, S3, c, n, h1, h2⟩
/-- steps that touch no store -/
def am_ps (M : am_M) : Nat → Nat → am_L → List Value → Option (Nat × am_L × List Value)
  | 0, pc, l, st => some (pc, l, st)
  | n + 1, pc, l, st => match am_find pc M.2.2.2.2.2.1 with
    | none => none
    | some (ins, len) => match am_pure M.2.2.1 ins len pc l st with
      | none => none
      | some (pc', l', st') => am_ps M n pc' l' st'
theorem G_ps : ∀ (m : Nat) {pc : Nat} {l : am_L} {st : List Value} {pc' : Nat} {l' : am_L} {st' : List Value}, am_ps M m pc l st = some (pc', l', st') → am_G P cl tyL d M pc' l' st' S Q → am_G P cl tyL d M pc l st S Q := by
  intro m
  induction m with
  | zero =>
    intro pc l st pc' l' st' h k
    cases h
    exact k
  | succ m ih =>
    intro pc l st pc' l' st' h k
    unfold am_ps at h
    split at h
    · cases h
    · rename_i ins len hins
      split at h
      · cases h
      · rename_i pc1 l1 st1 hp
        have ho : am_one P cl tyL 0 d M pc l st S = some (pc1, l1, st1, S, 0, 0) := by
          unfold am_one
          rw [hins]
          dsimp only
          rw [hp]
        refine G_one ho ?_
        obtain ⟨f, r, S3, c, n, h1, h2⟩ := ih h k
        exact ⟨f, r, S3, c, n, h1, by show Q r S3 (0 + c) (0 + n); rw [Nat.zero_add, Nat.zero_add]; exact h2⟩
theorem G_heap {ins : Instr} {len pc' dc ds : Nat} {st' : List Value} {S' : am_S} (hf : am_find pc M.2.2.2.2.2.1 = some (ins, len)) (hp : am_pure M.2.2.1 ins len pc l st = none) (hh : am_heap cl tyL M.2.2.2.2.1 ins len pc st S = some (pc', st', S', dc, ds)) (k : am_G P cl tyL d M pc' l st' S' (fun r S2 c n => Q r S2 (dc + c) (ds + n))) : am_G P cl tyL d M pc l st S Q := by
  refine G_one (f0 := 0) ?_ k
  unfold am_one
  rw [hf]
  dsimp only
  rw [hp]
  dsimp only
  rw [hh]
theorem G_heap0 {ins : Instr} {len pc' : Nat} {st' : List Value} {S' : am_S} (hf : am_find pc M.2.2.2.2.2.1 = some (ins, len)) (hp : am_pure M.2.2.1 ins len pc l st = none) (hh : am_heap cl tyL M.2.2.2.2.1 ins len pc st S = some (pc', st', S', 0, 0)) (k : am_G P cl tyL d M pc' l st' S' Q) : am_G P cl tyL d M pc l st S Q := by
  refine G_heap hf hp hh ?_
  obtain ⟨f, r, S3, c, n, h1, h2⟩ := k
  exact ⟨f, r, S3, c, n, h1, by show Q r S3 (0 + c) (0 + n); rw [Nat.zero_add, Nat.zero_add]; exact h2⟩
/-- getfield -/
theorem G_get {i ci k a z : Nat} {fs : List Value} {v : Value} {st : List Value} (hf : am_find pc M.2.2.2.2.2.1 = some (.getfield i, 3)) (hi : am_find i M.2.2.2.2.1.1 = some (ci, k)) (hS : am_nth S a = some (z, some (.inr (ci, fs)))) (hv : fs[k]? = some v) (kk : am_G P cl tyL d M (pc + 3) l (v :: st) S Q) : am_G P cl tyL d M pc l (.ref a :: st) S Q := by
  refine G_heap0 hf rfl ?_ kk
  have h1 : am_getf S a ci k = some v := by
    unfold am_getf
    rw [hS]
    show (if ci = ci then _ else _) = _
    rw [if_pos rfl, hv]
  show (match am_find i M.2.2.2.2.1.1 with
    | some (ci, k) => (am_getf S a ci k).map fun v => (pc + 3, v :: st, S, 0, 0)
    | none => none) = _
  rw [hi]
  dsimp only
  rw [h1]
  rfl
/-- putfield -/
theorem G_put {i ci k a z : Nat} {fs : List Value} {tys : List FieldType} {v : Value} {st : List Value} (hf : am_find pc M.2.2.2.2.2.1 = some (.putfield i, 3)) (hi : am_find i M.2.2.2.2.1.2.1 = some (ci, k)) (hS : am_nth S a = some (z, some (.inr (ci, fs)))) (hty : tyL[ci]? = some tys) (hok : am_okv (tys.getD k .int) v = true) (kk : am_G P cl tyL d M (pc + 3) l st (am_set S a (z, some (.inr (ci, fs.set k v)))) Q) : am_G P cl tyL d M pc l (v :: .ref a :: st) S Q := by
  refine G_heap0 hf rfl ?_ kk
  show (match am_find i M.2.2.2.2.1.2.1 with
    | some (ci, k) => (match am_nth S a with
      | some (z, some (.inr (cj, fs))) => (match tyL[ci]? with
        | some tys => if cj = ci ∧ am_okv (tys.getD k .int) v = true then some (pc + 3, st, am_set S a (z, some (.inr (cj, fs.set k v))), 0, 0) else none
        | none => none)
      | _ => none)
    | none => none) = _
  rw [hi]
  dsimp only
  rw [hS]
  dsimp only
  rw [hty]
  dsimp only
  rw [if_pos ⟨rfl, hok⟩]
/-- a place of an int array, of a long array -/
theorem G_ild {a z n : Nat} {dv : Value} {u : List (Nat × Value)} {i : Int32} {st : List Value} (hf : am_find pc M.2.2.2.2.2.1 = some (.iaload, 1)) (hS : am_nth S a = some (z, some (.inl (.int, n, dv, u)))) (hi : ¬ (i < 0 ∨ n ≤ i.toNatClampNeg)) (kk : am_G P cl tyL d M (pc + 1) l (am_fn dv u i.toNatClampNeg :: st) S Q) : am_G P cl tyL d M pc l (.int i :: .ref a :: st) S Q := by
  refine G_heap0 hf rfl ?_ kk
  show (am_geta S a i .int).map (fun v => (pc + 1, v :: st, S, 0, 0)) = _
  unfold am_geta
  rw [hS]
  show Option.map _ (if _ then _ else _) = _
  rw [if_pos ⟨rfl, hi⟩]
  rfl
theorem G_ist {a z n : Nat} {dv : Value} {u : List (Nat × Value)} {i x : Int32} {st : List Value} (hf : am_find pc M.2.2.2.2.2.1 = some (.iastore, 1)) (hS : am_nth S (a + 1) = some (z, some (.inl (.int, n, dv, u)))) (hi : ¬ (i < 0 ∨ n ≤ i.toNatClampNeg)) (kk : am_G P cl tyL d M (pc + 1) l st (am_set S (a + 1) (z, some (.inl (.int, n, dv, (i.toNatClampNeg, .int x) :: u)))) Q) : am_G P cl tyL d M pc l (.int x :: .int i :: .ref (a + 1) :: st) S Q := by
  refine G_heap0 hf rfl ?_ kk
  show (am_seta S (a + 1) i .int (.int x)).map (fun S' => (pc + 1, st, S', 0, 0)) = _
  unfold am_seta
  rw [hS]
  show Option.map _ (if _ then _ else _) = _
  rw [if_pos ⟨rfl, hi⟩]
  rfl
theorem G_alen {a z n : Nat} {ty : FieldType} {dv : Value} {u : List (Nat × Value)} {st : List Value} (hf : am_find pc M.2.2.2.2.2.1 = some (.arraylength, 1)) (hS : am_nth S a = some (z, some (.inl (ty, n, dv, u)))) (kk : am_G P cl tyL d M (pc + 1) l (.int (Int32.ofNat n) :: st) S Q) : am_G P cl tyL d M pc l (.ref a :: st) S Q := by
  refine G_heap0 hf rfl ?_ kk
  show (match am_nth S a with
    | some (_, some (.inl (_, n, _, _))) => some (pc + 1, Value.int (Int32.ofNat n) :: st, S, 0, 0)
    | _ => none) = _
  rw [hS]
/-- an answer -/
theorem G_ret {ins : Instr} {len : Nat} {r : Option Value} (hf : am_find pc M.2.2.2.2.2.1 = some (ins, len)) (hr : am_ret M.2.2.2.1 ins len st = some r) (hp : am_pure M.2.2.1 ins len pc l st = none) (k : Q r S 0 0) : am_G P cl tyL d M pc l st S Q := by
  refine ⟨1, r, S, 0, 0, ?_, k⟩
  unfold am_run
  rw [hf]
  dsimp only
  rw [hp]
  dsimp only
  rw [am_heap_ret hr, hr]
/-- a call of one of ours -/
theorem G_call {ins : Instr} {i j : Nat} {M' : am_M} {as rest : List Value} {Q' : Option Value → am_S → Nat → Nat → Prop} (hf : am_find pc M.2.2.2.2.2.1 = some (ins, 3)) (hi : am_cix ins 3 = some i) (hj : am_find i M.2.2.2.2.1.2.2.2.2.2 = some (j + 4)) (ho : am_own P j ins st S = some (M', as, rest)) (hc : am_G P cl tyL d M' 0 (lv_args 0 as) [] S Q') (k : ∀ r S1 c1 n1, Q' r S1 c1 n1 → am_G P cl tyL (d + 1) M (pc + 3) l (r.toList ++ rest) S1 (fun r2 S2 c n => Q r2 S2 (c1 + c) (n1 + n))) : am_G P cl tyL (d + 1) M pc l st S Q := by
  obtain ⟨f, r, S1, c1, n1, h1, h2⟩ := hc
  exact G_one (am_one_call hf hi hj ho h1) (k r S1 c1 n1 h2)
end GO
end
section
/-! a static method of ours that has an exception table, on roads where none of it is taken -/
section AMW
variable {p : Program} {l0 : Launch} {e : Env} {R : Room} {s : State} {m : MethodId} {args : Array Value} {below : List Frame} {meth : Method} {c : Code} {H : Heap} {locs : List Loc} {cells slots : Nat} {Q : State → Prop}
variable {cc : ByteArray} {pc : Nat} {ls : Array Slot} {D : va_G} {cl : List vw_C} {tyL : List (List FieldType)} {b : Nat} {Hb : Heap} {S : am_S} {own : String} {Ts : List Cond} {AO : List String} {NL : am_NL} {KL : Nat} {P : List am_M}
theorem am_callSW {T : State} (X : Stand p l0 e R s m args below meth c T locs cells slots) (hexec : p.tables.exec = Jvm.exec) {index : Nat} {y : MethodName} {bytes : ByteArray} {maxL : Nat} {ret : Option FieldType} {hh : List (Nat × Nat × Nat × Nat)}
    (hown : s.vm.findClass own = some m.cls) (hlink : (Cond.methodLink own index y).before args s = true) (hstat : (Cond.static y).before args s = true) (hinit : (Cond.initialized y.cls).before args s = true)
    (hcode : (Cond.codeWith y bytes maxL ret hh).before args s = true) (hy : y.cls ≠ "java/lang/invoke/MethodHandle" ∧ y.cls ≠ "java/lang/invoke/VarHandle")
    {Wd : Nat} {Pre : Pt → Array Value → Prop} {Post : Pt → Array Value → Option Value → Pt → Prop} (hK : Back l0 R p e below s args y 3 Wd Pre Post)
    {g : JFrame} (hg : g.method = m) (hsize : g.locals.size = c.maxLocals) {argsL rest : List Value} (hlen : ∀ sig, parseMethodDescriptor y.desc = some sig → argsL.length = sig.parameters.length)
    (hstack : g.stack = argsL.reverse ++ rest) (hW : 2 * g.monitorRoom + (rest.map fun v => v.category).sum ≤ Wd) (hdg : decode c.code g.pc = .ok (.invokestatic index, 3))
    (hpre : ∀ vm₁, s.WarmedH vm₁ → Pre ⟨T.setVm vm₁, locs, cells, slots⟩ argsL.toArray) :
    ∃ (v : Option Value) (vm₁ : Vm) (B : Pt), s.WarmedH vm₁ ∧ Stand p l0 e R s m args below meth c B.U B.locs B.cells B.slots ∧ Post ⟨T.setVm vm₁, locs, cells, slots⟩ argsL.toArray v B ∧
      ∀ target, Steps p.tables e below (B.U.setTop { g with pc := g.pc + 3, stack := v.toList ++ rest }) target → Steps p.tables e below (T.setTop g) target := by
  obtain ⟨mk, methM, cM, hnamed, hmethM, -, -, -, -, -, -, hsigM⟩ := Cond.codeWith_spec hcode
  have hstatic : methM.isStatic = true := Cond.static_spec hnamed hmethM hstat
  obtain ⟨kP, hkP, -⟩ := className_of_methodNamed hnamed
  have hinitP : kP.init = .initialized := Cond.initialized_spec (findClass_of_methodNamed hnamed) hkP hinit
  obtain ⟨vm₁, X₁, hstep₁⟩ := X.invokestatic hexec hown hlink hnamed hmethM hstatic hkP hinitP hy (g := g) hg (argsL := argsL) (rest := rest) (hlen _ hsigM) hstack hdg
  obtain ⟨v, B, X', hpost, hsteps⟩ := hK m meth c ⟨T.setVm vm₁, locs, cells, slots⟩ { g with stack := rest } (.invokestatic index) mk argsL.toArray X₁ hg hsize hdg hW (X₁.named hnamed) (hpre vm₁ X₁.warmed)
  exact ⟨v, vm₁, B, X₁.warmed, X', hpost, fun target h => hstep₁ _ fun acts => by rw [doInvoke_state]; exact hsteps.trans h⟩
/-- its contract out of what its run says -/
theorem am_metW {d : Nat} {M : am_M} {hh : List (Nat × Nat × Nat × Nat)} {as : List Value} {r : Option Value} {S' : am_S} {dc ds : Nat} (hpl : plainName M.1.cls = true) (hw : am_words as ≤ M.2.2.1) (h : am_Says Ts D cl AO NL KL b Hb l0 d M 0 (lv_args 0 as) [] S r S' dc ds) :
    Met l0 M.1 (Cond.codeWith M.1 M.2.1 M.2.2.1 M.2.2.2.1 hh :: Ts) (am_rm KL d dc ds) (am_Pc D cl b Hb AO NL as S) (am_Qc D cl b Hb r S') dc ds (fun q => Hb.size ≤ q) := by
  refine va_MetW (cc := M.2.1) (maxL := M.2.2.1) (ret := M.2.2.2.1) (hh := hh) hpl rfl ?_
  intro p e s m args below meth c s₁ B hml hv
  obtain ⟨rfl, hR, hK⟩ := hv
  have hts := atoms_spec (ws := Cond.codeWith M.1 M.2.1 M.2.2.1 M.2.2.2.1 hh :: Ts) B.pre
  have hlocks := B.notSynchronized
  have hl := lv_entry (as.map (am_cv (am_ad b Hb.size))) (n := M.2.2.1) (by rw [am_sl_len]; unfold am_words at hw ⊢; rw [am_words_cv]; exact hw)
  rw [lg_entry_eq]
  rw [am_args_cv] at hl
  have h0 := h p e (headSpec (Cond.codeWith M.1 M.2.1 M.2.2.1 M.2.2.2.1 hh :: Ts) (am_rm KL d dc ds)).room s m (as.map (am_cv (am_ad b Hb.size))).toArray below meth c s.heap [] 0 0 (MQ below (am_Qc D cl b Hb r S') (as.map (am_cv (am_ad b Hb.size))).toArray s dc ds (fun q => Hb.size ≤ q)) _
    ⟨B.exec, B.bytes, hml, (name_of_methodNamed B.named B.method).1, findClass_of_methodNamed B.named, fun w hw => hts w (List.mem_cons_of_mem _ hw), hK⟩ (Nat.le_refl _) (Nat.le_refl _) (by rw [Nat.zero_add]; exact Nat.le_refl _) (by rw [Nat.zero_add]; exact Nat.le_refl _) hR (fun q hq => by cases hq) hl
  refine h0 ?_
  intro H1 locs1 ls1 pc1 ins len st1 hd hr hR1 hL1
  rw [Nat.zero_add, Nat.zero_add]
  exact am_end B.exec B.bytes B.returns hlocks hd hr (fun t ht hW => ⟨rfl, by rw [ht]; exact hR1.moved hW.alike⟩) hL1
/-- the call of it: as, on top of the stack (the last first), are its arguments -/
theorem am_runSW {hh : List (Nat × Nat × Nat × Nat)} (hgood : ∀ w ∈ Ts, goodWord w = true) (hx : p.tables.exec = Jvm.exec) (hb : c.code = cc) (hml : c.maxLocals = ls.size) (hts : ∀ w ∈ Ts, w.before args s = true) (hown : s.vm.findClass own = some m.cls) (hK : am_Kx D cl AO NL s) {d c1 n1 : Nat} (hRf : d + 1 ≤ R.frames) (hRl : (d + 1) * KL ≤ R.locals) (hcs : cells + c1 ≤ R.cells) (hss : slots + n1 ≤ R.slots) (hR : am_R D cl b Hb S s H) (hL : ∀ q ∈ locs, Hb.size ≤ q.base) {M : am_M} {i : Nat} (hlk : Cond.methodLink own i M.1 ∈ Ts) (hst : Cond.static M.1 ∈ Ts) (hini : Cond.initialized M.1.cls ∈ Ts) (hcode : (Cond.codeWith M.1 M.2.1 M.2.2.1 M.2.2.2.1 hh).before args s = true) (hmh : M.1.cls ≠ "java/lang/invoke/MethodHandle" ∧ M.1.cls ≠ "java/lang/invoke/VarHandle") (hKL : 19 + M.2.2.1 ≤ KL) {as rest : List Value} (hpar : (parseMethodDescriptor M.1.desc).map (fun d => d.parameters.length) = some as.length) (hw8 : am_words rest ≤ 8) {r : Option Value} {S1 : am_S} (hd : decode cc pc = .ok (.invokestatic i, 3))
    (hMet : Met l0 M.1 (Cond.codeWith M.1 M.2.1 M.2.2.1 M.2.2.2.1 hh :: Ts) (am_rm KL d c1 n1) (am_Pc D cl b Hb AO NL as S) (am_Qc D cl b Hb r S1) c1 n1 (fun q => Hb.size ≤ q))
    (kk : ∀ (H1 : Heap) (locs1 : List Loc), am_R D cl b Hb S1 s H1 → (∀ q ∈ locs1, Hb.size ≤ q.base) → W p l0 e R s m args below meth c H1 locs1 (cells + c1) (slots + n1) Q (F0 m (pc + 3) ls ((r.toList ++ rest).map (am_cv (am_ad b Hb.size))))) : W p l0 e R s m args below meth c H locs cells slots Q (F0 m pc ls ((as.reverse ++ rest).map (am_cv (am_ad b Hb.size)))) := by
  have hroom : 8 + (M.2.2.1 + 11) + d * KL ≤ R.locals := by
    have : (d + 1) * KL = d * KL + KL := Nat.succ_mul d KL
    omega
  have hcg : (Cond.onTables (Cond.codeWith M.1 M.2.1 M.2.2.1 M.2.2.2.1 hh) && Cond.keeps (Cond.codeWith M.1 M.2.1 M.2.2.1 M.2.2.2.1 hh)) = true := by first | rfl | simp [Cond.onTables, Cond.keeps, Cond.steady]
  have hpay : ∀ w ∈ (Cond.codeWith M.1 M.2.1 M.2.2.1 M.2.2.2.1 hh :: Ts), ∀ (a' : Array Value) (U : State), s.WarmedH U.vm → w.before a' U = true := by
    intro w hw a' U hW
    rcases List.mem_cons.mp hw with q | q
    · rw [q]
      exact word_at hW (Or.inl hcg) hcode
    · exact word_at hW (good_of_word (hgood w q)) (hts w q)
  have hBk : Back l0 R p e below s args M.1 3 8 (PreOf R c1 n1 (am_Pc D cl b Hb AO NL as S)) (PostOf (am_Qc D cl b Hb r S1) c1 n1 (fun q => Hb.size ≤ q)) := va_backW (bytes := M.2.1) (maxL := M.2.2.1) (ret := M.2.2.2.1) (hh := hh) hMet am_Pc_blind rfl rfl hRf hroom hpay List.mem_cons_self (fun a' U hW => word_at hW (good_of_word (hgood _ hini)) (hts _ hini))
  have hPc := am_Pc_at (as := as) hR hK
  have hrun : va_Run p l0 e R s m args below meth c H locs cells slots c1 n1 (F0 m pc ls ((as.reverse ++ rest).map (am_cv (am_ad b Hb.size)))) (rest.map (am_cv (am_ad b Hb.size))) (am_Qc D cl b Hb r S1 (as.map (am_cv (am_ad b Hb.size))).toArray) (fun q => Hb.size ≤ q) := by
    intro T hT X
    obtain ⟨v, vm₁, ⟨U', l2, c2, s2⟩, hW₁, X', ⟨g', mk, t, L, e1, e2, hq, h1, hL', h2, h3⟩, st⟩ := am_callSW X hx hown (hts _ hlk) (hts _ hst) (hts _ hini) hcode hmh hBk (g := F0 m pc ls ((as.reverse ++ rest).map (am_cv (am_ad b Hb.size)))) rfl hml.symm (argsL := as.map (am_cv (am_ad b Hb.size))) (rest := rest.map (am_cv (am_ad b Hb.size))) (fun sig h => by
        rw [h] at hpar
        rw [List.length_map]
        exact (Option.some.inj hpar).symm) (by rw [← List.map_reverse, ← List.map_append]) (by show 2 * 0 + _ ≤ 8; rw [am_words_cv]; omega) (by rw [hb]; exact hd)
      (fun vm₁ hW₁ => ⟨hcs, hss, hPc (T.setVm vm₁) hT hW₁⟩)
    dsimp only [Pt.U, Pt.locs, Pt.cells, Pt.slots] at X' e1 e2 h1 h2 h3 st
    subst h1; subst h2; subst h3
    exact ⟨v, (T.setVm vm₁).calling g' mk (as.map (am_cv (am_ad b Hb.size))).toArray, t, U', L, hT, X', hL', e1, e2, hq, st⟩
  exact am_back hrun hL kk
end AMW
end
section
/-! rules for calls, with what is on the stack told apart -/
section GC
variable {P : List am_M} {cl : List vw_C} {tyL : List (List FieldType)} {d : Nat} {M : am_M} {pc : Nat} {l : am_L} {st : List Value} {S : am_S} {Q : Option Value → am_S → Nat → Nat → Prop}
theorem am_take_len (xs ys : List Value) : (xs ++ ys).take xs.length = xs ∧ (xs ++ ys).drop xs.length = ys := ⟨List.take_left, List.drop_left⟩
/-- a method of the object b -/
theorem G_cv {i j b z : Nat} {fs : List Value} {M' : am_M} {xs rest : List Value} {Q' : Option Value → am_S → Nat → Nat → Prop} (hf : am_find pc M.2.2.2.2.2.1 = some (.invokevirtual i, 3)) (hj : am_find i M.2.2.2.2.1.2.2.2.2.2 = some (j + 4)) (hP : P[j]? = some M') (hl : M'.2.2.2.2.2.2.1 = xs.length) (hS : am_nth S b = some (z, some (.inr (M'.2.2.2.2.2.2.2, fs)))) (hw : am_words rest ≤ 8) (hw2 : am_words xs.reverse + 1 ≤ M'.2.2.1) (hc : am_G P cl tyL d M' 0 (lv_args 0 (.ref b :: xs.reverse)) [] S Q') (k : ∀ r S1 c1 n1, Q' r S1 c1 n1 → am_G P cl tyL (d + 1) M (pc + 3) l (r.toList ++ rest) S1 (fun r2 S2 c n => Q r2 S2 (c1 + c) (n1 + n))) : am_G P cl tyL (d + 1) M pc l (xs ++ .ref b :: rest) S Q := by
  refine G_call hf rfl hj ?_ hc k
  unfold am_own
  rw [hP]
  try dsimp only
  rw [hl, if_neg (by rw [List.length_append]; omega), (am_take_len xs _).1, (am_take_len xs _).2]
  try dsimp only
  rw [hS]
  try dsimp only
  rw [if_pos ⟨rfl, hw, hw2⟩]
/-- a static method -/
theorem G_cs {i j : Nat} {M' : am_M} {xs rest : List Value} {Q' : Option Value → am_S → Nat → Nat → Prop} (hf : am_find pc M.2.2.2.2.2.1 = some (.invokestatic i, 3)) (hj : am_find i M.2.2.2.2.1.2.2.2.2.2 = some (j + 4)) (hP : P[j]? = some M') (hl : M'.2.2.2.2.2.2.1 = xs.length) (hk : M'.2.2.2.2.2.2.2 = 1000) (hw : am_words rest ≤ 8) (hw2 : am_words xs.reverse ≤ M'.2.2.1) (hc : am_G P cl tyL d M' 0 (lv_args 0 xs.reverse) [] S Q') (k : ∀ r S1 c1 n1, Q' r S1 c1 n1 → am_G P cl tyL (d + 1) M (pc + 3) l (r.toList ++ rest) S1 (fun r2 S2 c n => Q r2 S2 (c1 + c) (n1 + n))) : am_G P cl tyL (d + 1) M pc l (xs ++ rest) S Q := by
  refine G_call hf rfl hj ?_ hc k
  unfold am_own
  rw [hP]
  try dsimp only
  rw [hl, if_neg (by rw [List.length_append]; omega), (am_take_len xs _).1, (am_take_len xs _).2]
  try dsimp only
  rw [if_pos ⟨hk, hw, hw2⟩]
end GC
end
section
/-! more rules: cells behind a write, what stays, bytes and longs, switches, runs that are known -/
theorem am_nth_self {S : am_S} {k : Nat} {x0 x : am_C} (h : am_nth S (k + 1) = some x0) : am_nth (am_set S (k + 1) x) (k + 1) = some x := by
  rw [am_nth_set x h, if_pos rfl]
theorem am_nth_ne {S : am_S} {a k : Nat} {x0 x y : am_C} (h : am_nth S (a + 1) = some x0) (hne : k ≠ a) (hk : am_nth S (k + 1) = some y) : am_nth (am_set S (a + 1) x) (k + 1) = some y := by
  rw [am_nth_set x h, if_neg hne]
  exact hk
/-- the same but for the cells T -/
def am_same (T : List Nat) (S S' : am_S) : Prop := S'.1 = S.1 ∧ S'.2.1 = S.2.1 ∧ ∀ k, k ∉ T → am_nth S' k = am_nth S k
theorem am_same_rf (T : List Nat) (S : am_S) : am_same T S S := ⟨rfl, rfl, fun _ _ => rfl⟩
theorem am_same_set {T : List Nat} {S S' : am_S} {a : Nat} {x0 x : am_C} (h : am_same T S S') (hk : am_nth S' (a + 1) = some x0) (ha : a + 1 ∈ T) : am_same T S (am_set S' (a + 1) x) := by
  refine ⟨h.1, h.2.1, fun k hn => ?_⟩
  cases k with
  | zero =>
    show some S'.1 = some S.1
    rw [h.1]
  | succ k =>
    rw [am_nth_set x hk, if_neg (fun e => hn (by rw [e]; exact ha))]
    exact h.2.2 _ hn
section GM
variable {P : List am_M} {cl : List vw_C} {tyL : List (List FieldType)} {d : Nat} {M : am_M} {pc : Nat} {l : am_L} {st : List Value} {S : am_S} {Q : Option Value → am_S → Nat → Nat → Prop}
theorem G_lld {a z n : Nat} {dv : Value} {u : List (Nat × Value)} {i : Int32} {st : List Value} (hf : am_find pc M.2.2.2.2.2.1 = some (.laload, 1)) (hS : am_nth S a = some (z, some (.inl (.long, n, dv, u)))) (hi : ¬ (i < 0 ∨ n ≤ i.toNatClampNeg)) (kk : am_G P cl tyL d M (pc + 1) l (am_fn dv u i.toNatClampNeg :: st) S Q) : am_G P cl tyL d M pc l (.int i :: .ref a :: st) S Q := by
  refine G_heap0 hf rfl ?_ kk
  show (am_geta S a i .long).map (fun v => (pc + 1, v :: st, S, 0, 0)) = _
  unfold am_geta
  rw [hS]
  show Option.map _ (if _ then _ else _) = _
  rw [if_pos ⟨rfl, hi⟩]
  rfl
theorem G_lst {a z n : Nat} {dv : Value} {u : List (Nat × Value)} {i : Int32} {x : Int64} {st : List Value} (hf : am_find pc M.2.2.2.2.2.1 = some (.lastore, 1)) (hS : am_nth S (a + 1) = some (z, some (.inl (.long, n, dv, u)))) (hi : ¬ (i < 0 ∨ n ≤ i.toNatClampNeg)) (kk : am_G P cl tyL d M (pc + 1) l st (am_set S (a + 1) (z, some (.inl (.long, n, dv, (i.toNatClampNeg, .long x) :: u)))) Q) : am_G P cl tyL d M pc l (.long x :: .int i :: .ref (a + 1) :: st) S Q := by
  refine G_heap0 hf rfl ?_ kk
  show (am_seta S (a + 1) i .long (.long x)).map (fun S' => (pc + 1, st, S', 0, 0)) = _
  unfold am_seta
  rw [hS]
  show Option.map _ (if _ then _ else _) = _
  rw [if_pos ⟨rfl, hi⟩]
  rfl
theorem G_bst {a z n : Nat} {dv : Value} {u : List (Nat × Value)} {i x : Int32} {st : List Value} (hf : am_find pc M.2.2.2.2.2.1 = some (.bastore, 1)) (hS : am_nth S (a + 1) = some (z, some (.inl (.byte, n, dv, u)))) (hi : ¬ (i < 0 ∨ n ≤ i.toNatClampNeg)) (kk : am_G P cl tyL d M (pc + 1) l st (am_set S (a + 1) (z, some (.inl (.byte, n, dv, (i.toNatClampNeg, narrow .byte (.int x)) :: u)))) Q) : am_G P cl tyL d M pc l (.int x :: .int i :: .ref (a + 1) :: st) S Q := by
  refine G_heap0 hf rfl ?_ kk
  have h1 : am_seta S (a + 1) i .byte (narrow .byte (.int x)) = some (am_set S (a + 1) (z, some (.inl (.byte, n, dv, (i.toNatClampNeg, narrow .byte (.int x)) :: u)))) := by
    unfold am_seta
    rw [hS]
    show (if _ then _ else _) = _
    rw [if_pos ⟨rfl, hi⟩]
  show (match am_seta S (a + 1) i .byte (narrow .byte (.int x)) with
    | some S' => some (pc + 1, st, S', 0, 0)
    | none => (am_seta S (a + 1) i .boolean (narrow .boolean (.int x))).map fun S' => (pc + 1, st, S', 0, 0)) = _
  rw [h1]
/-- a switch whose number lies outside -/
theorem G_swo {dflt lo hi : Int} {offs : Array Int} {len t : Nat} {x : Int32} {st : List Value} (hf : am_find pc M.2.2.2.2.2.1 = some (.tableswitch dflt lo hi offs, len)) (h : x.toInt < lo ∨ hi < x.toInt) (ht : am_tgt pc dflt = some t) (kk : am_G P cl tyL d M t l st S Q) : am_G P cl tyL d M pc l (.int x :: st) S Q := by
  refine G_ps 1 (pc' := t) (l' := l) (st' := st) ?_ kk
  unfold am_ps
  rw [hf]
  dsimp only
  have h1 : am_pure M.2.2.1 (.tableswitch dflt lo hi offs) len pc l (.int x :: st) = some (t, l, st) := by
    show (if x.toInt < lo ∨ hi < x.toInt then (am_tgt pc dflt).map fun t => (t, l, st) else _) = _
    rw [if_pos h, ht]
    rfl
  rw [h1]
  rfl
/-- a run that is done without the script -/
theorem G_closed {f : Nat} {L : Nat × List am_C} {r : Option Value} {S' : am_S} {c n : Nat} (h : am_run P cl tyL f d M pc l st ((0, none), L) = some (r, S', c, n)) (c0 : am_C) (k : Q r (c0, S'.2) c n) : am_G P cl tyL d M pc l st (c0, L) Q := ⟨f, r, _, c, n, (am_run0 c0 f d M pc l st L r S' c n h).2, k⟩
end GM
end
section
/-! one call on fresh objects -/
def s8 : Nat × List am_C := (1899, (1, some (.inl (.long, 1, .long 0, []))) :: ss_7.2.2)
theorem s8_at {L : Nat × List am_C} {k : Nat} {x : am_C} (h : (match am_nth ((0, none), L) (k + 1) with | some y => am_eqC y x | none => false) = true) (c0 : am_C) : am_nth (c0, L) (k + 1) = some x := by
  have e : am_nth (c0, L) (k + 1) = am_nth ((0, none), L) (k + 1) := rfl
  rw [e]
  split at h
  · rename_i y hy
    rw [hy, am_eqC_of h]
  · cases h
theorem s8_1 (c0 : am_C) : am_nth (c0, s8) 1 = some (9, some (.inr (0, [.ref 2, .ref 7, .ref 361, .ref 363, .ref 366, .ref 372, .ref 406, .ref 1824, .int 0]))) := s8_at (by decide +kernel) c0
theorem s8_7 (c0 : am_C) : am_nth (c0, s8) 7 = some (7, some (.inr (2, [.ref 8, .ref 13, .ref 18, .ref 23, .ref 24, .int 0, .int 0]))) := s8_at (by decide +kernel) c0
theorem s8_361 (c0 : am_C) : am_nth (c0, s8) 361 = some (10, some (.inr (6, [.ref 2, .ref 7, .ref 362, .int 0, .int 0, .int 0, .int 0, .ref 25, .ref 26, .int 0]))) := s8_at (by decide +kernel) c0
theorem s8_363 (c0 : am_C) : am_nth (c0, s8) 363 = some (4, some (.inr (7, [.ref 7, .ref 364, .ref 365, .int 0]))) := s8_at (by decide +kernel) c0
theorem s8_372 (c0 : am_C) : am_nth (c0, s8) 372 = some (11, some (.inr (9, [.ref 7, .ref 366, .ref 373, .ref 374, .ref 375, .ref 376, .ref 377, .ref 378, .ref 380, .int 0, .int (-1)]))) := s8_at (by decide +kernel) c0
theorem s8_406 (c0 : am_C) : am_nth (c0, s8) 406 = some (19, some (.inr (10, [.ref 7, .ref 366, .ref 407, .ref 878, .ref 1349, .ref 1350, .ref 1350, .ref 1350, .long 0, .long 0, .ref 409, .ref 1352, .ref 1354, .int 0, .int 0, .long 0, .int 0, .int 0, .int 0]))) := s8_at (by decide +kernel) c0
theorem s8_407 (c0 : am_C) : am_nth (c0, s8) 407 = some (8, some (.inr (11, [.ref 408, .ref 409, .int 0, .int 0, .int 0, .int 0, .int 0, .long 0]))) := s8_at (by decide +kernel) c0
theorem s8_1826 (c0 : am_C) : am_nth (c0, s8) 1826 = some (115, some (.inr (13, [.int 0, .int 0, .ref 1827, .int 0, .ref 1828, .ref 1829, .ref 1830, .ref 1831, .int 0, .ref 1832, .ref 1833, .ref 1834, .ref 1835, .int 0, .ref 1836, .ref 1837, .ref 1838, .ref 1839, .ref 1840, .int 0, .ref 1841, .ref 1842, .ref 1843, .ref 1844, .ref 1845, .ref 1846, .ref 1847, .ref 1848, .int 0, .int 0, .int 0, .int 0, .int 0, .long 0, .int 0, .int 0, .int 0, .ref 1849, .ref 1850, .int 0, .int 0, .int 0, .ref 1851, .int 0, .int 0, .ref 1852, .ref 1853, .int 0, .ref 1854, .ref 1855, .int 0, .int 0, .ref 1856, .int 0, .ref 1857, .int 0, .int 0, .int 0, .ref 1858, .int 0, .ref 1859, .ref 1860, .ref 1861, .ref 1862, .ref 1863, .ref 1864, .ref 1865, .int (-1), .ref 1866, .ref 1867, .ref 1868, .ref 1869, .int 0, .ref 1870, .int (-1), .int 0, .int 0, .int 0, .ref 1871, .ref 1872, .ref 1873, .ref 1874, .ref 1875, .ref 1876, .ref 1877, .ref 1878, .ref 1879, .ref 1880, .ref 1881, .int 0, .ref 1882, .ref 1883, .ref 1884, .int 0, .ref 1885, .int 0, .ref 1886, .int (-1), .ref 1887, .int 0, .ref 1888, .int 0, .ref 1889, .ref 1890, .ref 1891, .ref 1892, .ref 1893, .ref 1894, .ref 1895, .ref 1896, .ref 1897, .ref 1898, .int 0, .int 0, .int 0]))) := s8_at (by decide +kernel) c0
def F_zero : Int32 := 0
def F_state : Int32 := -103
def F_prin (_ : Int32) : Int32 := -1
def F_told (_ : Int32) : Int32 := -103
def F_unk (_ : Int32) : Int32 := -101
def F_st (_ : Int32) : Int32 := -103
def F_place (s p : Int32) : Int32 := if s < 0 ∨ 1 < s ∨ p < 0 then -102 else -103
def F_srch (r : Int32) : Int32 := if r < 1 ∨ 500 < r then -102 else -103
theorem x_fault (c0 : am_C) : am_G at_P at_cl at_ty 5 mt_4 0 [(0, .ref 1)] [] (c0, s8) (fun r S c n => r = some (.int (F_zero)) ∧ S = (c0, s8) ∧ c = 0 ∧ n = 0) := by
  refine G_ps 1 (pc' := 1) (l' := [(0, .ref 1)]) (st' := [.ref 1]) rfl ?_
  refine G_get (i := 28) (ci := 0) (k := 2) (v := .ref 361) rfl rfl (s8_1 c0) rfl ?_
  show am_G at_P at_cl at_ty _ mt_4 4 [(0, .ref 1)] [.ref 361] _ _
  refine G_get (i := 105) (ci := 6) (k := 4) (v := .int 0) rfl rfl (s8_361 c0) rfl ?_
  show am_G at_P at_cl at_ty _ mt_4 7 [(0, .ref 1)] [.int 0] _ _
  refine G_ret rfl rfl rfl ?_
  exact ⟨by simp [F_zero, *], rfl, by simp, by simp⟩
theorem m_fault (c0 : am_C) : am_G at_P at_cl at_ty 5 mt_193 0 [(0, .ref 1826)] [] (c0, s8) (fun r S c n => r = some (.int (F_zero)) ∧ S = (c0, s8) ∧ c = 0 ∧ n = 0) := by
  refine G_ps 1 (pc' := 1) (l' := [(0, .ref 1826)]) (st' := [.ref 1826]) rfl ?_
  refine G_get (i := 411) (ci := 13) (k := 34) (v := .int 0) rfl rfl (s8_1826 c0) rfl ?_
  show am_G at_P at_cl at_ty _ mt_193 4 [(0, .ref 1826)] [.int 0] _ _
  refine G_ret rfl rfl rfl ?_
  exact ⟨by simp [F_zero, *], rfl, by simp, by simp⟩
theorem x_steps (c0 : am_C) : am_G at_P at_cl at_ty 5 mt_8 0 [(0, .ref 1)] [] (c0, s8) (fun r S c n => r = some (.int (F_zero)) ∧ S = (c0, s8) ∧ c = 0 ∧ n = 0) := by
  refine G_ps 1 (pc' := 1) (l' := [(0, .ref 1)]) (st' := [.ref 1]) rfl ?_
  refine G_get (i := 180) (ci := 0) (k := 8) (v := .int 0) rfl rfl (s8_1 c0) rfl ?_
  show am_G at_P at_cl at_ty _ mt_8 4 [(0, .ref 1)] [.int 0] _ _
  refine G_ret rfl rfl rfl ?_
  exact ⟨by simp [F_zero, *], rfl, by simp, by simp⟩
theorem m_steps (c0 : am_C) : am_G at_P at_cl at_ty 5 mt_202 0 [(0, .ref 1826)] [] (c0, s8) (fun r S c n => r = some (.int (F_zero)) ∧ S = (c0, s8) ∧ c = 0 ∧ n = 0) := by
  refine G_ps 1 (pc' := 1) (l' := [(0, .ref 1826)]) (st' := [.ref 1826]) rfl ?_
  refine G_get (i := 463) (ci := 13) (k := 57) (v := .int 0) rfl rfl (s8_1826 c0) rfl ?_
  show am_G at_P at_cl at_ty _ mt_202 4 [(0, .ref 1826)] [.int 0] _ _
  refine G_ret rfl rfl rfl ?_
  exact ⟨by simp [F_zero, *], rfl, by simp, by simp⟩
theorem x_printed (c0 : am_C) (i : Int32) : am_G at_P at_cl at_ty 5 mt_23 0 [(0, .ref 1), (1, .int i)] [] (c0, s8) (fun r S c n => r = some (.int (F_prin i)) ∧ S = (c0, s8) ∧ c = 0 ∧ n = 0) := by
  refine G_ps 2 (pc' := if i < 0 then 27 else 4) (l' := [(0, .ref 1), (1, .int i)]) (st' := []) rfl ?_
  by_cases hc1 : i < 0
  · rw [if_pos hc1]
    refine G_ps 1 (pc' := 28) (l' := [(0, .ref 1), (1, .int i)]) (st' := [.int (-1)]) rfl ?_
    refine G_ret rfl rfl rfl ?_
    exact ⟨by simp [F_prin, *], rfl, by simp, by simp⟩
  · rw [if_neg hc1]
    refine G_ps 2 (pc' := 6) (l' := [(0, .ref 1), (1, .int i)]) (st' := [.ref 1, .int i]) rfl ?_
    refine G_get (i := 37) (ci := 0) (k := 3) (v := .ref 363) rfl rfl (s8_1 c0) rfl ?_
    show am_G at_P at_cl at_ty _ mt_23 9 [(0, .ref 1), (1, .int i)] [.ref 363, .int i] _ _
    refine G_get (i := 253) (ci := 7) (k := 3) (v := .int 0) rfl rfl (s8_363 c0) rfl ?_
    show am_G at_P at_cl at_ty _ mt_23 12 [(0, .ref 1), (1, .int i)] [.int 0, .int i] _ _
    refine G_ps 1 (pc' := if 0 ≤ i then 27 else 15) (l' := [(0, .ref 1), (1, .int i)]) (st' := []) rfl ?_
    by_cases hc2 : 0 ≤ i
    · rw [if_pos hc2]
      refine G_ps 1 (pc' := 28) (l' := [(0, .ref 1), (1, .int i)]) (st' := [.int (-1)]) rfl ?_
      refine G_ret rfl rfl rfl ?_
      exact ⟨by simp [F_prin, *], rfl, by simp, by simp⟩
    · rw [if_neg hc2]
      exfalso
      simp only [Int32.lt_iff_toInt_lt, Int32.le_iff_toInt_le, show (0 : Int32).toInt = 0 by decide] at hc1 hc2
      omega
theorem m_printed (c0 : am_C) (i : Int32) : am_G at_P at_cl at_ty 5 mt_207 0 [(0, .ref 1826), (1, .int i)] [] (c0, s8) (fun r S c n => r = some (.int (F_prin i)) ∧ S = (c0, s8) ∧ c = 0 ∧ n = 0) := by
  refine G_ps 2 (pc' := if i < 0 then 21 else 4) (l' := [(0, .ref 1826), (1, .int i)]) (st' := []) rfl ?_
  by_cases hc1 : i < 0
  · rw [if_pos hc1]
    refine G_ps 1 (pc' := 22) (l' := [(0, .ref 1826), (1, .int i)]) (st' := [.int (-1)]) rfl ?_
    refine G_ret rfl rfl rfl ?_
    exact ⟨by simp [F_prin, *], rfl, by simp, by simp⟩
  · rw [if_neg hc1]
    refine G_ps 2 (pc' := 6) (l' := [(0, .ref 1826), (1, .int i)]) (st' := [.ref 1826, .int i]) rfl ?_
    refine G_get (i := 470) (ci := 13) (k := 59) (v := .int 0) rfl rfl (s8_1826 c0) rfl ?_
    show am_G at_P at_cl at_ty _ mt_207 9 [(0, .ref 1826), (1, .int i)] [.int 0, .int i] _ _
    refine G_ps 1 (pc' := if 0 ≤ i then 21 else 12) (l' := [(0, .ref 1826), (1, .int i)]) (st' := []) rfl ?_
    by_cases hc2 : 0 ≤ i
    · rw [if_pos hc2]
      refine G_ps 1 (pc' := 22) (l' := [(0, .ref 1826), (1, .int i)]) (st' := [.int (-1)]) rfl ?_
      refine G_ret rfl rfl rfl ?_
      exact ⟨by simp [F_prin, *], rfl, by simp, by simp⟩
    · rw [if_neg hc2]
      exfalso
      simp only [Int32.lt_iff_toInt_lt, Int32.le_iff_toInt_le, show (0 : Int32).toInt = 0 by decide] at hc1 hc2
      omega
theorem x_told (c0 : am_C) (v : Int32) : am_G at_P at_cl at_ty 5 mt_10 0 [(0, .ref 1), (1, .int v)] [] (c0, s8) (fun r S c n => r = some (.int (F_told v)) ∧ S = (c0, s8) ∧ c = 0 ∧ n = 0) := by
  refine G_ps 1 (pc' := 1) (l' := [(0, .ref 1), (1, .int v)]) (st' := [.ref 1]) rfl ?_
  refine G_get (i := 53) (ci := 0) (k := 5) (v := .ref 372) rfl rfl (s8_1 c0) rfl ?_
  show am_G at_P at_cl at_ty _ mt_10 4 [(0, .ref 1), (1, .int v)] [.ref 372] _ _
  refine G_get (i := 191) (ci := 9) (k := 10) (v := .int (-1)) rfl rfl (s8_372 c0) rfl ?_
  show am_G at_P at_cl at_ty _ mt_10 7 [(0, .ref 1), (1, .int v)] [.int (-1)] _ _
  refine G_ps 2 (pc' := 12) (l' := [(0, .ref 1), (1, .int v)]) (st' := [.int (-103)]) rfl ?_
  refine G_ret rfl rfl rfl ?_
  exact ⟨by simp [F_told, *], rfl, by simp, by simp⟩
theorem m_told (c0 : am_C) (v : Int32) : am_G at_P at_cl at_ty 5 mt_220 0 [(0, .ref 1826), (1, .int v)] [] (c0, s8) (fun r S c n => r = some (.int (F_told v)) ∧ S = (c0, s8) ∧ c = 0 ∧ n = 0) := by
  refine G_ps 1 (pc' := 1) (l' := [(0, .ref 1826), (1, .int v)]) (st' := [.ref 1826]) rfl ?_
  refine G_get (i := 131) (ci := 13) (k := 67) (v := .int (-1)) rfl rfl (s8_1826 c0) rfl ?_
  show am_G at_P at_cl at_ty _ mt_220 4 [(0, .ref 1826), (1, .int v)] [.int (-1)] _ _
  refine G_ps 3 (pc' := 10) (l' := [(0, .ref 1826), (1, .int v)]) (st' := [.int (-103)]) rfl ?_
  refine G_ret rfl rfl rfl ?_
  exact ⟨by simp [F_told, *], rfl, by simp, by simp⟩
theorem x_test (c0 : am_C) (l z a : Int32) : am_G at_P at_cl at_ty 5 mt_9 0 [(0, .ref 1), (1, .int l), (2, .int z), (3, .int a)] [] (c0, s8) (fun r S c n => r = some (.int (F_unk l)) ∧ S = (c0, s8) ∧ c = 0 ∧ n = 0) := by
  refine G_ps 1 (pc' := 1) (l' := [(0, .ref 1), (1, .int l), (2, .int z), (3, .int a)]) (st' := [.ref 1]) rfl ?_
  refine G_get (i := 19) (ci := 0) (k := 1) (v := .ref 7) rfl rfl (s8_1 c0) rfl ?_
  show am_G at_P at_cl at_ty _ mt_9 4 [(0, .ref 1), (1, .int l), (2, .int z), (3, .int a)] [.ref 7] _ _
  refine G_ps 1 (pc' := 5) (l' := [(0, .ref 1), (1, .int l), (2, .int z), (3, .int a)]) (st' := [.int l, .ref 7]) rfl ?_
  refine G_cv (i := 144) (j := 35) (b := 7) (M' := mt_35) (xs := [.int l]) (rest := []) rfl rfl rfl rfl (s8_7 c0) (Nat.le_of_ble_eq_true rfl) (Nat.le_of_ble_eq_true rfl) ?_ (fun _ _ _ _ h9 => h9)
  show am_G at_P at_cl at_ty _ mt_35 0 [(0, .ref 7), (1, .int l)] [] _ _
  refine G_ps 2 (pc' := if l < 0 then 25 else 4) (l' := [(0, .ref 7), (1, .int l)]) (st' := []) rfl ?_
  by_cases hc1 : l < 0
  · rw [if_pos hc1]
    refine G_ps 1 (pc' := 26) (l' := [(0, .ref 7), (1, .int l)]) (st' := [.int 0]) rfl ?_
    refine G_ret rfl rfl rfl ?_
    show am_G at_P at_cl at_ty _ mt_9 8 [(0, .ref 1), (1, .int l), (2, .int z), (3, .int a)] [.int 0] _ _
    refine G_ps 2 (pc' := 13) (l' := [(0, .ref 1), (1, .int l), (2, .int z), (3, .int a)]) (st' := [.int (-101)]) rfl ?_
    refine G_ret rfl rfl rfl ?_
    exact ⟨by simp [F_unk, *], rfl, by simp, by simp⟩
  · rw [if_neg hc1]
    refine G_ps 2 (pc' := 6) (l' := [(0, .ref 7), (1, .int l)]) (st' := [.ref 7, .int l]) rfl ?_
    refine G_get (i := 36) (ci := 2) (k := 6) (v := .int 0) rfl rfl (s8_7 c0) rfl ?_
    show am_G at_P at_cl at_ty _ mt_35 9 [(0, .ref 7), (1, .int l)] [.int 0, .int l] _ _
    refine G_ps 1 (pc' := if 0 ≤ l then 25 else 12) (l' := [(0, .ref 7), (1, .int l)]) (st' := []) rfl ?_
    by_cases hc2 : 0 ≤ l
    · rw [if_pos hc2]
      refine G_ps 1 (pc' := 26) (l' := [(0, .ref 7), (1, .int l)]) (st' := [.int 0]) rfl ?_
      refine G_ret rfl rfl rfl ?_
      show am_G at_P at_cl at_ty _ mt_9 8 [(0, .ref 1), (1, .int l), (2, .int z), (3, .int a)] [.int 0] _ _
      refine G_ps 2 (pc' := 13) (l' := [(0, .ref 1), (1, .int l), (2, .int z), (3, .int a)]) (st' := [.int (-101)]) rfl ?_
      refine G_ret rfl rfl rfl ?_
      exact ⟨by simp [F_unk, *], rfl, by simp, by simp⟩
    · rw [if_neg hc2]
      exfalso
      simp only [Int32.lt_iff_toInt_lt, Int32.le_iff_toInt_le, show (0 : Int32).toInt = 0 by decide] at hc1 hc2
      omega
theorem m_test (c0 : am_C) (l z a : Int32) : am_G at_P at_cl at_ty 5 mt_218 0 [(0, .ref 1826), (1, .int l), (2, .int z), (3, .int a)] [] (c0, s8) (fun r S c n => r = some (.int (F_unk l)) ∧ S = (c0, s8) ∧ c = 0 ∧ n = 0) := by
  refine G_ps 2 (pc' := if l < 0 then 12 else 4) (l' := [(0, .ref 1826), (1, .int l), (2, .int z), (3, .int a)]) (st' := []) rfl ?_
  by_cases hc1 : l < 0
  · rw [if_pos hc1]
    refine G_ps 1 (pc' := 14) (l' := [(0, .ref 1826), (1, .int l), (2, .int z), (3, .int a)]) (st' := [.int (-101)]) rfl ?_
    refine G_ret rfl rfl rfl ?_
    exact ⟨by simp [F_unk, *], rfl, by simp, by simp⟩
  · rw [if_neg hc1]
    refine G_ps 2 (pc' := 6) (l' := [(0, .ref 1826), (1, .int l), (2, .int z), (3, .int a)]) (st' := [.ref 1826, .int l]) rfl ?_
    refine G_get (i := 387) (ci := 13) (k := 19) (v := .int 0) rfl rfl (s8_1826 c0) rfl ?_
    show am_G at_P at_cl at_ty _ mt_218 9 [(0, .ref 1826), (1, .int l), (2, .int z), (3, .int a)] [.int 0, .int l] _ _
    refine G_ps 1 (pc' := if l < 0 then 15 else 12) (l' := [(0, .ref 1826), (1, .int l), (2, .int z), (3, .int a)]) (st' := []) rfl ?_
    by_cases hc2 : l < 0
    · rw [if_pos hc2]
      exfalso
      simp only [Int32.lt_iff_toInt_lt, Int32.le_iff_toInt_le, show (0 : Int32).toInt = 0 by decide] at hc1 hc2
      omega
    · rw [if_neg hc2]
      refine G_ps 1 (pc' := 14) (l' := [(0, .ref 1826), (1, .int l), (2, .int z), (3, .int a)]) (st' := [.int (-101)]) rfl ?_
      refine G_ret rfl rfl rfl ?_
      exact ⟨by simp [F_unk, *], rfl, by simp, by simp⟩
theorem x_begin (c0 : am_C) (l a : Int32) : am_G at_P at_cl at_ty 5 mt_11 0 [(0, .ref 1), (1, .int l), (2, .int a)] [] (c0, s8) (fun r S c n => r = some (.int (F_unk l)) ∧ S = (c0, s8) ∧ c = 0 ∧ n = 0) := by
  refine G_ps 1 (pc' := 1) (l' := [(0, .ref 1), (1, .int l), (2, .int a)]) (st' := [.ref 1]) rfl ?_
  refine G_get (i := 19) (ci := 0) (k := 1) (v := .ref 7) rfl rfl (s8_1 c0) rfl ?_
  show am_G at_P at_cl at_ty _ mt_11 4 [(0, .ref 1), (1, .int l), (2, .int a)] [.ref 7] _ _
  refine G_ps 1 (pc' := 5) (l' := [(0, .ref 1), (1, .int l), (2, .int a)]) (st' := [.int l, .ref 7]) rfl ?_
  refine G_cv (i := 144) (j := 35) (b := 7) (M' := mt_35) (xs := [.int l]) (rest := []) rfl rfl rfl rfl (s8_7 c0) (Nat.le_of_ble_eq_true rfl) (Nat.le_of_ble_eq_true rfl) ?_ (fun _ _ _ _ h9 => h9)
  show am_G at_P at_cl at_ty _ mt_35 0 [(0, .ref 7), (1, .int l)] [] _ _
  refine G_ps 2 (pc' := if l < 0 then 25 else 4) (l' := [(0, .ref 7), (1, .int l)]) (st' := []) rfl ?_
  by_cases hc1 : l < 0
  · rw [if_pos hc1]
    refine G_ps 1 (pc' := 26) (l' := [(0, .ref 7), (1, .int l)]) (st' := [.int 0]) rfl ?_
    refine G_ret rfl rfl rfl ?_
    show am_G at_P at_cl at_ty _ mt_11 8 [(0, .ref 1), (1, .int l), (2, .int a)] [.int 0] _ _
    refine G_ps 2 (pc' := 13) (l' := [(0, .ref 1), (1, .int l), (2, .int a)]) (st' := [.int (-101)]) rfl ?_
    refine G_ret rfl rfl rfl ?_
    exact ⟨by simp [F_unk, *], rfl, by simp, by simp⟩
  · rw [if_neg hc1]
    refine G_ps 2 (pc' := 6) (l' := [(0, .ref 7), (1, .int l)]) (st' := [.ref 7, .int l]) rfl ?_
    refine G_get (i := 36) (ci := 2) (k := 6) (v := .int 0) rfl rfl (s8_7 c0) rfl ?_
    show am_G at_P at_cl at_ty _ mt_35 9 [(0, .ref 7), (1, .int l)] [.int 0, .int l] _ _
    refine G_ps 1 (pc' := if 0 ≤ l then 25 else 12) (l' := [(0, .ref 7), (1, .int l)]) (st' := []) rfl ?_
    by_cases hc2 : 0 ≤ l
    · rw [if_pos hc2]
      refine G_ps 1 (pc' := 26) (l' := [(0, .ref 7), (1, .int l)]) (st' := [.int 0]) rfl ?_
      refine G_ret rfl rfl rfl ?_
      show am_G at_P at_cl at_ty _ mt_11 8 [(0, .ref 1), (1, .int l), (2, .int a)] [.int 0] _ _
      refine G_ps 2 (pc' := 13) (l' := [(0, .ref 1), (1, .int l), (2, .int a)]) (st' := [.int (-101)]) rfl ?_
      refine G_ret rfl rfl rfl ?_
      exact ⟨by simp [F_unk, *], rfl, by simp, by simp⟩
    · rw [if_neg hc2]
      exfalso
      simp only [Int32.lt_iff_toInt_lt, Int32.le_iff_toInt_le, show (0 : Int32).toInt = 0 by decide] at hc1 hc2
      omega
theorem m_begin (c0 : am_C) (l a : Int32) : am_G at_P at_cl at_ty 5 mt_227 0 [(0, .ref 1826), (1, .int l), (2, .int a)] [] (c0, s8) (fun r S c n => r = some (.int (F_unk l)) ∧ S = (c0, s8) ∧ c = 0 ∧ n = 0) := by
  refine G_ps 2 (pc' := if l < 0 then 12 else 4) (l' := [(0, .ref 1826), (1, .int l), (2, .int a)]) (st' := []) rfl ?_
  by_cases hc1 : l < 0
  · rw [if_pos hc1]
    refine G_ps 1 (pc' := 14) (l' := [(0, .ref 1826), (1, .int l), (2, .int a)]) (st' := [.int (-101)]) rfl ?_
    refine G_ret rfl rfl rfl ?_
    exact ⟨by simp [F_unk, *], rfl, by simp, by simp⟩
  · rw [if_neg hc1]
    refine G_ps 2 (pc' := 6) (l' := [(0, .ref 1826), (1, .int l), (2, .int a)]) (st' := [.ref 1826, .int l]) rfl ?_
    refine G_get (i := 387) (ci := 13) (k := 19) (v := .int 0) rfl rfl (s8_1826 c0) rfl ?_
    show am_G at_P at_cl at_ty _ mt_227 9 [(0, .ref 1826), (1, .int l), (2, .int a)] [.int 0, .int l] _ _
    refine G_ps 1 (pc' := if l < 0 then 15 else 12) (l' := [(0, .ref 1826), (1, .int l), (2, .int a)]) (st' := []) rfl ?_
    by_cases hc2 : l < 0
    · rw [if_pos hc2]
      exfalso
      simp only [Int32.lt_iff_toInt_lt, Int32.le_iff_toInt_le, show (0 : Int32).toInt = 0 by decide] at hc1 hc2
      omega
    · rw [if_neg hc2]
      refine G_ps 1 (pc' := 14) (l' := [(0, .ref 1826), (1, .int l), (2, .int a)]) (st' := [.int (-101)]) rfl ?_
      refine G_ret rfl rfl rfl ?_
      exact ⟨by simp [F_unk, *], rfl, by simp, by simp⟩
theorem x_about (c0 : am_C) (l w : Int32) : am_G at_P at_cl at_ty 5 mt_6 0 [(0, .ref 1), (1, .int l), (2, .int w)] [] (c0, s8) (fun r S c n => r = some (.int (F_unk l)) ∧ S = (c0, s8) ∧ c = 0 ∧ n = 0) := by
  refine G_ps 1 (pc' := 1) (l' := [(0, .ref 1), (1, .int l), (2, .int w)]) (st' := [.ref 1]) rfl ?_
  refine G_get (i := 19) (ci := 0) (k := 1) (v := .ref 7) rfl rfl (s8_1 c0) rfl ?_
  show am_G at_P at_cl at_ty _ mt_6 4 [(0, .ref 1), (1, .int l), (2, .int w)] [.ref 7] _ _
  refine G_ps 1 (pc' := 5) (l' := [(0, .ref 1), (1, .int l), (2, .int w)]) (st' := [.int l, .ref 7]) rfl ?_
  refine G_cv (i := 144) (j := 35) (b := 7) (M' := mt_35) (xs := [.int l]) (rest := []) rfl rfl rfl rfl (s8_7 c0) (Nat.le_of_ble_eq_true rfl) (Nat.le_of_ble_eq_true rfl) ?_ (fun _ _ _ _ h9 => h9)
  show am_G at_P at_cl at_ty _ mt_35 0 [(0, .ref 7), (1, .int l)] [] _ _
  refine G_ps 2 (pc' := if l < 0 then 25 else 4) (l' := [(0, .ref 7), (1, .int l)]) (st' := []) rfl ?_
  by_cases hc1 : l < 0
  · rw [if_pos hc1]
    refine G_ps 1 (pc' := 26) (l' := [(0, .ref 7), (1, .int l)]) (st' := [.int 0]) rfl ?_
    refine G_ret rfl rfl rfl ?_
    show am_G at_P at_cl at_ty _ mt_6 8 [(0, .ref 1), (1, .int l), (2, .int w)] [.int 0] _ _
    refine G_ps 2 (pc' := 13) (l' := [(0, .ref 1), (1, .int l), (2, .int w)]) (st' := [.int (-101)]) rfl ?_
    refine G_ret rfl rfl rfl ?_
    exact ⟨by simp [F_unk, *], rfl, by simp, by simp⟩
  · rw [if_neg hc1]
    refine G_ps 2 (pc' := 6) (l' := [(0, .ref 7), (1, .int l)]) (st' := [.ref 7, .int l]) rfl ?_
    refine G_get (i := 36) (ci := 2) (k := 6) (v := .int 0) rfl rfl (s8_7 c0) rfl ?_
    show am_G at_P at_cl at_ty _ mt_35 9 [(0, .ref 7), (1, .int l)] [.int 0, .int l] _ _
    refine G_ps 1 (pc' := if 0 ≤ l then 25 else 12) (l' := [(0, .ref 7), (1, .int l)]) (st' := []) rfl ?_
    by_cases hc2 : 0 ≤ l
    · rw [if_pos hc2]
      refine G_ps 1 (pc' := 26) (l' := [(0, .ref 7), (1, .int l)]) (st' := [.int 0]) rfl ?_
      refine G_ret rfl rfl rfl ?_
      show am_G at_P at_cl at_ty _ mt_6 8 [(0, .ref 1), (1, .int l), (2, .int w)] [.int 0] _ _
      refine G_ps 2 (pc' := 13) (l' := [(0, .ref 1), (1, .int l), (2, .int w)]) (st' := [.int (-101)]) rfl ?_
      refine G_ret rfl rfl rfl ?_
      exact ⟨by simp [F_unk, *], rfl, by simp, by simp⟩
    · rw [if_neg hc2]
      exfalso
      simp only [Int32.lt_iff_toInt_lt, Int32.le_iff_toInt_le, show (0 : Int32).toInt = 0 by decide] at hc1 hc2
      omega
theorem m_about (c0 : am_C) (l w : Int32) : am_G at_P at_cl at_ty 5 mt_195 0 [(0, .ref 1826), (1, .int l), (2, .int w)] [] (c0, s8) (fun r S c n => r = some (.int (F_unk l)) ∧ S = (c0, s8) ∧ c = 0 ∧ n = 0) := by
  refine G_ps 2 (pc' := if l < 0 then 12 else 4) (l' := [(0, .ref 1826), (1, .int l), (2, .int w)]) (st' := []) rfl ?_
  by_cases hc1 : l < 0
  · rw [if_pos hc1]
    refine G_ps 1 (pc' := 14) (l' := [(0, .ref 1826), (1, .int l), (2, .int w)]) (st' := [.int (-101)]) rfl ?_
    refine G_ret rfl rfl rfl ?_
    exact ⟨by simp [F_unk, *], rfl, by simp, by simp⟩
  · rw [if_neg hc1]
    refine G_ps 2 (pc' := 6) (l' := [(0, .ref 1826), (1, .int l), (2, .int w)]) (st' := [.ref 1826, .int l]) rfl ?_
    refine G_get (i := 387) (ci := 13) (k := 19) (v := .int 0) rfl rfl (s8_1826 c0) rfl ?_
    show am_G at_P at_cl at_ty _ mt_195 9 [(0, .ref 1826), (1, .int l), (2, .int w)] [.int 0, .int l] _ _
    refine G_ps 1 (pc' := if l < 0 then 15 else 12) (l' := [(0, .ref 1826), (1, .int l), (2, .int w)]) (st' := []) rfl ?_
    by_cases hc2 : l < 0
    · rw [if_pos hc2]
      exfalso
      simp only [Int32.lt_iff_toInt_lt, Int32.le_iff_toInt_le, show (0 : Int32).toInt = 0 by decide] at hc1 hc2
      omega
    · rw [if_neg hc2]
      refine G_ps 1 (pc' := 14) (l' := [(0, .ref 1826), (1, .int l), (2, .int w)]) (st' := [.int (-101)]) rfl ?_
      refine G_ret rfl rfl rfl ?_
      exact ⟨by simp [F_unk, *], rfl, by simp, by simp⟩
theorem x_unfold (c0 : am_C) (s p : Int32) : am_G at_P at_cl at_ty 5 mt_12 0 [(0, .ref 1), (1, .int s), (2, .int p)] [] (c0, s8) (fun r S c n => r = some (.int (F_place s p)) ∧ S = (c0, s8) ∧ c = 0 ∧ n = 0) := by
  refine G_ps 3 (pc' := 3) (l' := [(0, .ref 1), (1, .int s), (2, .int p)]) (st' := [.int p, .int s, .ref 1]) rfl ?_
  refine G_cv (i := 202) (j := 24) (b := 1) (M' := mt_24) (xs := [.int p, .int s]) (rest := []) rfl rfl rfl rfl (s8_1 c0) (Nat.le_of_ble_eq_true rfl) (Nat.le_of_ble_eq_true rfl) ?_ (fun _ _ _ _ h9 => h9)
  show am_G at_P at_cl at_ty _ mt_24 0 [(0, .ref 1), (1, .int s), (2, .int p)] [] _ _
  refine G_ps 2 (pc' := if s < 0 then 13 else 4) (l' := [(0, .ref 1), (1, .int s), (2, .int p)]) (st' := []) rfl ?_
  by_cases hc1 : s < 0
  · rw [if_pos hc1]
    refine G_ps 1 (pc' := 15) (l' := [(0, .ref 1), (1, .int s), (2, .int p)]) (st' := [.int (-102)]) rfl ?_
    refine G_ret rfl rfl rfl ?_
    show am_G at_P at_cl at_ty _ mt_12 6 [(0, .ref 1), (1, .int s), (2, .int p)] [.int (-102)] _ _
    refine G_ps 5 (pc' := 32) (l' := [(3, .int (-102)), (0, .ref 1), (1, .int s), (2, .int p)]) (st' := [.int (-102)]) rfl ?_
    refine G_ret rfl rfl rfl ?_
    exact ⟨by simp [F_place, *], rfl, by simp, by simp⟩
  · rw [if_neg hc1]
    refine G_ps 3 (pc' := if 1 < s then 13 else 9) (l' := [(0, .ref 1), (1, .int s), (2, .int p)]) (st' := []) rfl ?_
    by_cases hc2 : 1 < s
    · rw [if_pos hc2]
      refine G_ps 1 (pc' := 15) (l' := [(0, .ref 1), (1, .int s), (2, .int p)]) (st' := [.int (-102)]) rfl ?_
      refine G_ret rfl rfl rfl ?_
      show am_G at_P at_cl at_ty _ mt_12 6 [(0, .ref 1), (1, .int s), (2, .int p)] [.int (-102)] _ _
      refine G_ps 5 (pc' := 32) (l' := [(3, .int (-102)), (0, .ref 1), (1, .int s), (2, .int p)]) (st' := [.int (-102)]) rfl ?_
      refine G_ret rfl rfl rfl ?_
      exact ⟨by simp [F_place, *], rfl, by simp, by simp⟩
    · rw [if_neg hc2]
      refine G_ps 2 (pc' := if 0 ≤ p then 16 else 13) (l' := [(0, .ref 1), (1, .int s), (2, .int p)]) (st' := []) rfl ?_
      by_cases hc3 : 0 ≤ p
      · rw [if_pos hc3]
        refine G_ps 1 (pc' := 17) (l' := [(0, .ref 1), (1, .int s), (2, .int p)]) (st' := [.ref 1]) rfl ?_
        refine G_get (i := 60) (ci := 0) (k := 6) (v := .ref 406) rfl rfl (s8_1 c0) rfl ?_
        show am_G at_P at_cl at_ty _ mt_24 20 [(0, .ref 1), (1, .int s), (2, .int p)] [.ref 406] _ _
        refine G_get (i := 96) (ci := 10) (k := 2) (v := .ref 407) rfl rfl (s8_406 c0) rfl ?_
        show am_G at_P at_cl at_ty _ mt_24 23 [(0, .ref 1), (1, .int s), (2, .int p)] [.ref 407] _ _
        refine G_get (i := 129) (ci := 11) (k := 2) (v := .int 0) rfl rfl (s8_407 c0) rfl ?_
        show am_G at_P at_cl at_ty _ mt_24 26 [(0, .ref 1), (1, .int s), (2, .int p)] [.int 0] _ _
        refine G_ps 2 (pc' := 35) (l' := [(0, .ref 1), (1, .int s), (2, .int p)]) (st' := [.int (-103)]) rfl ?_
        refine G_ret rfl rfl rfl ?_
        show am_G at_P at_cl at_ty _ mt_12 6 [(0, .ref 1), (1, .int s), (2, .int p)] [.int (-103)] _ _
        refine G_ps 5 (pc' := 32) (l' := [(3, .int (-103)), (0, .ref 1), (1, .int s), (2, .int p)]) (st' := [.int (-103)]) rfl ?_
        refine G_ret rfl rfl rfl ?_
        exact ⟨by simp [F_place, *], rfl, by simp, by simp⟩
      · rw [if_neg hc3]
        refine G_ps 1 (pc' := 15) (l' := [(0, .ref 1), (1, .int s), (2, .int p)]) (st' := [.int (-102)]) rfl ?_
        refine G_ret rfl rfl rfl ?_
        show am_G at_P at_cl at_ty _ mt_12 6 [(0, .ref 1), (1, .int s), (2, .int p)] [.int (-102)] _ _
        refine G_ps 5 (pc' := 32) (l' := [(3, .int (-102)), (0, .ref 1), (1, .int s), (2, .int p)]) (st' := [.int (-102)]) rfl ?_
        refine G_ret rfl rfl rfl ?_
        exact ⟨by simp [F_place, *], rfl, by simp, by simp⟩
theorem m_unfold (c0 : am_C) (s p : Int32) : am_G at_P at_cl at_ty 5 mt_237 0 [(0, .ref 1826), (1, .int s), (2, .int p)] [] (c0, s8) (fun r S c n => r = some (.int (F_place s p)) ∧ S = (c0, s8) ∧ c = 0 ∧ n = 0) := by
  refine G_ps 2 (pc' := 2) (l' := [(0, .ref 1826), (1, .int s), (2, .int p)]) (st' := [.int p, .int s]) rfl ?_
  refine G_cs (i := 559) (j := 236) (M' := mt_236) (xs := [.int p, .int s]) (rest := []) rfl rfl rfl rfl rfl (Nat.le_of_ble_eq_true rfl) (Nat.le_of_ble_eq_true rfl) ?_ (fun _ _ _ _ h9 => h9)
  show am_G at_P at_cl at_ty _ mt_236 0 [(0, .int s), (1, .int p)] [] _ _
  refine G_ps 2 (pc' := if s < 0 then 13 else 4) (l' := [(0, .int s), (1, .int p)]) (st' := []) rfl ?_
  by_cases hc1 : s < 0
  · rw [if_pos hc1]
    refine G_ps 2 (pc' := 18) (l' := [(0, .int s), (1, .int p)]) (st' := [.int 1]) rfl ?_
    refine G_ret rfl rfl rfl ?_
    show am_G at_P at_cl at_ty _ mt_237 5 [(0, .ref 1826), (1, .int s), (2, .int p)] [.int 1] _ _
    refine G_ps 3 (pc' := 32) (l' := [(0, .ref 1826), (1, .int s), (2, .int p)]) (st' := [.int (-102)]) rfl ?_
    refine G_ret rfl rfl rfl ?_
    exact ⟨by simp [F_place, *], rfl, by simp, by simp⟩
  · rw [if_neg hc1]
    refine G_ps 3 (pc' := if 1 < s then 13 else 9) (l' := [(0, .int s), (1, .int p)]) (st' := []) rfl ?_
    by_cases hc2 : 1 < s
    · rw [if_pos hc2]
      refine G_ps 2 (pc' := 18) (l' := [(0, .int s), (1, .int p)]) (st' := [.int 1]) rfl ?_
      refine G_ret rfl rfl rfl ?_
      show am_G at_P at_cl at_ty _ mt_237 5 [(0, .ref 1826), (1, .int s), (2, .int p)] [.int 1] _ _
      refine G_ps 3 (pc' := 32) (l' := [(0, .ref 1826), (1, .int s), (2, .int p)]) (st' := [.int (-102)]) rfl ?_
      refine G_ret rfl rfl rfl ?_
      exact ⟨by simp [F_place, *], rfl, by simp, by simp⟩
    · rw [if_neg hc2]
      refine G_ps 2 (pc' := if 0 ≤ p then 17 else 13) (l' := [(0, .int s), (1, .int p)]) (st' := []) rfl ?_
      by_cases hc3 : 0 ≤ p
      · rw [if_pos hc3]
        refine G_ps 1 (pc' := 18) (l' := [(0, .int s), (1, .int p)]) (st' := [.int 0]) rfl ?_
        refine G_ret rfl rfl rfl ?_
        show am_G at_P at_cl at_ty _ mt_237 5 [(0, .ref 1826), (1, .int s), (2, .int p)] [.int 0] _ _
        refine G_ps 2 (pc' := 14) (l' := [(0, .ref 1826), (1, .int s), (2, .int p)]) (st' := [.ref 1826]) rfl ?_
        refine G_cv (i := 563) (j := 235) (b := 1826) (M' := mt_235) (xs := []) (rest := []) rfl rfl rfl rfl (s8_1826 c0) (Nat.le_of_ble_eq_true rfl) (Nat.le_of_ble_eq_true rfl) ?_ (fun _ _ _ _ h9 => h9)
        show am_G at_P at_cl at_ty _ mt_235 0 [(0, .ref 1826)] [] _ _
        refine G_ps 1 (pc' := 1) (l' := [(0, .ref 1826)]) (st' := [.ref 1826]) rfl ?_
        refine G_get (i := 414) (ci := 13) (k := 77) (v := .int 0) rfl rfl (s8_1826 c0) rfl ?_
        show am_G at_P at_cl at_ty _ mt_235 4 [(0, .ref 1826)] [.int 0] _ _
        refine G_ps 3 (pc' := 12) (l' := [(0, .ref 1826)]) (st' := [.int 1]) rfl ?_
        refine G_ret rfl rfl rfl ?_
        show am_G at_P at_cl at_ty _ mt_237 17 [(0, .ref 1826), (1, .int s), (2, .int p)] [.int 1] _ _
        refine G_ps 3 (pc' := 32) (l' := [(0, .ref 1826), (1, .int s), (2, .int p)]) (st' := [.int (-103)]) rfl ?_
        refine G_ret rfl rfl rfl ?_
        exact ⟨by simp [F_place, *], rfl, by simp, by simp⟩
      · rw [if_neg hc3]
        refine G_ps 2 (pc' := 18) (l' := [(0, .int s), (1, .int p)]) (st' := [.int 1]) rfl ?_
        refine G_ret rfl rfl rfl ?_
        show am_G at_P at_cl at_ty _ mt_237 5 [(0, .ref 1826), (1, .int s), (2, .int p)] [.int 1] _ _
        refine G_ps 3 (pc' := 32) (l' := [(0, .ref 1826), (1, .int s), (2, .int p)]) (st' := [.int (-102)]) rfl ?_
        refine G_ret rfl rfl rfl ?_
        exact ⟨by simp [F_place, *], rfl, by simp, by simp⟩
theorem x_law (c0 : am_C) (l k s p : Int32) : am_G at_P at_cl at_ty 5 mt_13 0 [(0, .ref 1), (1, .int l), (2, .int k), (3, .int s), (4, .int p)] [] (c0, s8) (fun r S c n => r = some (.int (F_unk l)) ∧ S = (c0, s8) ∧ c = 0 ∧ n = 0) := by
  refine G_ps 1 (pc' := 1) (l' := [(0, .ref 1), (1, .int l), (2, .int k), (3, .int s), (4, .int p)]) (st' := [.ref 1]) rfl ?_
  refine G_get (i := 19) (ci := 0) (k := 1) (v := .ref 7) rfl rfl (s8_1 c0) rfl ?_
  show am_G at_P at_cl at_ty _ mt_13 4 [(0, .ref 1), (1, .int l), (2, .int k), (3, .int s), (4, .int p)] [.ref 7] _ _
  refine G_ps 1 (pc' := 5) (l' := [(0, .ref 1), (1, .int l), (2, .int k), (3, .int s), (4, .int p)]) (st' := [.int l, .ref 7]) rfl ?_
  refine G_cv (i := 144) (j := 35) (b := 7) (M' := mt_35) (xs := [.int l]) (rest := []) rfl rfl rfl rfl (s8_7 c0) (Nat.le_of_ble_eq_true rfl) (Nat.le_of_ble_eq_true rfl) ?_ (fun _ _ _ _ h9 => h9)
  show am_G at_P at_cl at_ty _ mt_35 0 [(0, .ref 7), (1, .int l)] [] _ _
  refine G_ps 2 (pc' := if l < 0 then 25 else 4) (l' := [(0, .ref 7), (1, .int l)]) (st' := []) rfl ?_
  by_cases hc1 : l < 0
  · rw [if_pos hc1]
    refine G_ps 1 (pc' := 26) (l' := [(0, .ref 7), (1, .int l)]) (st' := [.int 0]) rfl ?_
    refine G_ret rfl rfl rfl ?_
    show am_G at_P at_cl at_ty _ mt_13 8 [(0, .ref 1), (1, .int l), (2, .int k), (3, .int s), (4, .int p)] [.int 0] _ _
    refine G_ps 2 (pc' := 13) (l' := [(0, .ref 1), (1, .int l), (2, .int k), (3, .int s), (4, .int p)]) (st' := [.int (-101)]) rfl ?_
    refine G_ret rfl rfl rfl ?_
    exact ⟨by simp [F_unk, *], rfl, by simp, by simp⟩
  · rw [if_neg hc1]
    refine G_ps 2 (pc' := 6) (l' := [(0, .ref 7), (1, .int l)]) (st' := [.ref 7, .int l]) rfl ?_
    refine G_get (i := 36) (ci := 2) (k := 6) (v := .int 0) rfl rfl (s8_7 c0) rfl ?_
    show am_G at_P at_cl at_ty _ mt_35 9 [(0, .ref 7), (1, .int l)] [.int 0, .int l] _ _
    refine G_ps 1 (pc' := if 0 ≤ l then 25 else 12) (l' := [(0, .ref 7), (1, .int l)]) (st' := []) rfl ?_
    by_cases hc2 : 0 ≤ l
    · rw [if_pos hc2]
      refine G_ps 1 (pc' := 26) (l' := [(0, .ref 7), (1, .int l)]) (st' := [.int 0]) rfl ?_
      refine G_ret rfl rfl rfl ?_
      show am_G at_P at_cl at_ty _ mt_13 8 [(0, .ref 1), (1, .int l), (2, .int k), (3, .int s), (4, .int p)] [.int 0] _ _
      refine G_ps 2 (pc' := 13) (l' := [(0, .ref 1), (1, .int l), (2, .int k), (3, .int s), (4, .int p)]) (st' := [.int (-101)]) rfl ?_
      refine G_ret rfl rfl rfl ?_
      exact ⟨by simp [F_unk, *], rfl, by simp, by simp⟩
    · rw [if_neg hc2]
      exfalso
      simp only [Int32.lt_iff_toInt_lt, Int32.le_iff_toInt_le, show (0 : Int32).toInt = 0 by decide] at hc1 hc2
      omega
theorem m_law (c0 : am_C) (l k s p : Int32) : am_G at_P at_cl at_ty 5 mt_243 0 [(0, .ref 1826), (1, .int l), (2, .int k), (3, .int s), (4, .int p)] [] (c0, s8) (fun r S c n => r = some (.int (F_unk l)) ∧ S = (c0, s8) ∧ c = 0 ∧ n = 0) := by
  refine G_ps 2 (pc' := if l < 0 then 12 else 4) (l' := [(0, .ref 1826), (1, .int l), (2, .int k), (3, .int s), (4, .int p)]) (st' := []) rfl ?_
  by_cases hc1 : l < 0
  · rw [if_pos hc1]
    refine G_ps 2 (pc' := 53) (l' := [(0, .ref 1826), (1, .int l), (2, .int k), (3, .int s), (4, .int p)]) (st' := [.int (-101)]) rfl ?_
    refine G_ret rfl rfl rfl ?_
    exact ⟨by simp [F_unk, *], rfl, by simp, by simp⟩
  · rw [if_neg hc1]
    refine G_ps 2 (pc' := 6) (l' := [(0, .ref 1826), (1, .int l), (2, .int k), (3, .int s), (4, .int p)]) (st' := [.ref 1826, .int l]) rfl ?_
    refine G_get (i := 387) (ci := 13) (k := 19) (v := .int 0) rfl rfl (s8_1826 c0) rfl ?_
    show am_G at_P at_cl at_ty _ mt_243 9 [(0, .ref 1826), (1, .int l), (2, .int k), (3, .int s), (4, .int p)] [.int 0, .int l] _ _
    refine G_ps 1 (pc' := if l < 0 then 17 else 12) (l' := [(0, .ref 1826), (1, .int l), (2, .int k), (3, .int s), (4, .int p)]) (st' := []) rfl ?_
    by_cases hc2 : l < 0
    · rw [if_pos hc2]
      exfalso
      simp only [Int32.lt_iff_toInt_lt, Int32.le_iff_toInt_le, show (0 : Int32).toInt = 0 by decide] at hc1 hc2
      omega
    · rw [if_neg hc2]
      refine G_ps 2 (pc' := 53) (l' := [(0, .ref 1826), (1, .int l), (2, .int k), (3, .int s), (4, .int p)]) (st' := [.int (-101)]) rfl ?_
      refine G_ret rfl rfl rfl ?_
      exact ⟨by simp [F_unk, *], rfl, by simp, by simp⟩
theorem x_hypothesis (c0 : am_C) (k a s p : Int32) : am_G at_P at_cl at_ty 5 mt_14 0 [(0, .ref 1), (1, .int k), (2, .int a), (3, .int s), (4, .int p)] [] (c0, s8) (fun r S c n => r = some (.int (F_place s p)) ∧ S = (c0, s8) ∧ c = 0 ∧ n = 0) := by
  refine G_ps 3 (pc' := 4) (l' := [(0, .ref 1), (1, .int k), (2, .int a), (3, .int s), (4, .int p)]) (st' := [.int p, .int s, .ref 1]) rfl ?_
  refine G_cv (i := 202) (j := 24) (b := 1) (M' := mt_24) (xs := [.int p, .int s]) (rest := []) rfl rfl rfl rfl (s8_1 c0) (Nat.le_of_ble_eq_true rfl) (Nat.le_of_ble_eq_true rfl) ?_ (fun _ _ _ _ h9 => h9)
  show am_G at_P at_cl at_ty _ mt_24 0 [(0, .ref 1), (1, .int s), (2, .int p)] [] _ _
  refine G_ps 2 (pc' := if s < 0 then 13 else 4) (l' := [(0, .ref 1), (1, .int s), (2, .int p)]) (st' := []) rfl ?_
  by_cases hc1 : s < 0
  · rw [if_pos hc1]
    refine G_ps 1 (pc' := 15) (l' := [(0, .ref 1), (1, .int s), (2, .int p)]) (st' := [.int (-102)]) rfl ?_
    refine G_ret rfl rfl rfl ?_
    show am_G at_P at_cl at_ty _ mt_14 7 [(0, .ref 1), (1, .int k), (2, .int a), (3, .int s), (4, .int p)] [.int (-102)] _ _
    refine G_ps 4 (pc' := 16) (l' := [(5, .int (-102)), (0, .ref 1), (1, .int k), (2, .int a), (3, .int s), (4, .int p)]) (st' := [.int (-102)]) rfl ?_
    refine G_ret rfl rfl rfl ?_
    exact ⟨by simp [F_place, *], rfl, by simp, by simp⟩
  · rw [if_neg hc1]
    refine G_ps 3 (pc' := if 1 < s then 13 else 9) (l' := [(0, .ref 1), (1, .int s), (2, .int p)]) (st' := []) rfl ?_
    by_cases hc2 : 1 < s
    · rw [if_pos hc2]
      refine G_ps 1 (pc' := 15) (l' := [(0, .ref 1), (1, .int s), (2, .int p)]) (st' := [.int (-102)]) rfl ?_
      refine G_ret rfl rfl rfl ?_
      show am_G at_P at_cl at_ty _ mt_14 7 [(0, .ref 1), (1, .int k), (2, .int a), (3, .int s), (4, .int p)] [.int (-102)] _ _
      refine G_ps 4 (pc' := 16) (l' := [(5, .int (-102)), (0, .ref 1), (1, .int k), (2, .int a), (3, .int s), (4, .int p)]) (st' := [.int (-102)]) rfl ?_
      refine G_ret rfl rfl rfl ?_
      exact ⟨by simp [F_place, *], rfl, by simp, by simp⟩
    · rw [if_neg hc2]
      refine G_ps 2 (pc' := if 0 ≤ p then 16 else 13) (l' := [(0, .ref 1), (1, .int s), (2, .int p)]) (st' := []) rfl ?_
      by_cases hc3 : 0 ≤ p
      · rw [if_pos hc3]
        refine G_ps 1 (pc' := 17) (l' := [(0, .ref 1), (1, .int s), (2, .int p)]) (st' := [.ref 1]) rfl ?_
        refine G_get (i := 60) (ci := 0) (k := 6) (v := .ref 406) rfl rfl (s8_1 c0) rfl ?_
        show am_G at_P at_cl at_ty _ mt_24 20 [(0, .ref 1), (1, .int s), (2, .int p)] [.ref 406] _ _
        refine G_get (i := 96) (ci := 10) (k := 2) (v := .ref 407) rfl rfl (s8_406 c0) rfl ?_
        show am_G at_P at_cl at_ty _ mt_24 23 [(0, .ref 1), (1, .int s), (2, .int p)] [.ref 407] _ _
        refine G_get (i := 129) (ci := 11) (k := 2) (v := .int 0) rfl rfl (s8_407 c0) rfl ?_
        show am_G at_P at_cl at_ty _ mt_24 26 [(0, .ref 1), (1, .int s), (2, .int p)] [.int 0] _ _
        refine G_ps 2 (pc' := 35) (l' := [(0, .ref 1), (1, .int s), (2, .int p)]) (st' := [.int (-103)]) rfl ?_
        refine G_ret rfl rfl rfl ?_
        show am_G at_P at_cl at_ty _ mt_14 7 [(0, .ref 1), (1, .int k), (2, .int a), (3, .int s), (4, .int p)] [.int (-103)] _ _
        refine G_ps 4 (pc' := 16) (l' := [(5, .int (-103)), (0, .ref 1), (1, .int k), (2, .int a), (3, .int s), (4, .int p)]) (st' := [.int (-103)]) rfl ?_
        refine G_ret rfl rfl rfl ?_
        exact ⟨by simp [F_place, *], rfl, by simp, by simp⟩
      · rw [if_neg hc3]
        refine G_ps 1 (pc' := 15) (l' := [(0, .ref 1), (1, .int s), (2, .int p)]) (st' := [.int (-102)]) rfl ?_
        refine G_ret rfl rfl rfl ?_
        show am_G at_P at_cl at_ty _ mt_14 7 [(0, .ref 1), (1, .int k), (2, .int a), (3, .int s), (4, .int p)] [.int (-102)] _ _
        refine G_ps 4 (pc' := 16) (l' := [(5, .int (-102)), (0, .ref 1), (1, .int k), (2, .int a), (3, .int s), (4, .int p)]) (st' := [.int (-102)]) rfl ?_
        refine G_ret rfl rfl rfl ?_
        exact ⟨by simp [F_place, *], rfl, by simp, by simp⟩
theorem m_hypothesis (c0 : am_C) (k a s p : Int32) : am_G at_P at_cl at_ty 5 mt_245 0 [(0, .ref 1826), (1, .int k), (2, .int a), (3, .int s), (4, .int p)] [] (c0, s8) (fun r S c n => r = some (.int (F_place s p)) ∧ S = (c0, s8) ∧ c = 0 ∧ n = 0) := by
  refine G_ps 2 (pc' := 3) (l' := [(0, .ref 1826), (1, .int k), (2, .int a), (3, .int s), (4, .int p)]) (st' := [.int p, .int s]) rfl ?_
  refine G_cs (i := 559) (j := 236) (M' := mt_236) (xs := [.int p, .int s]) (rest := []) rfl rfl rfl rfl rfl (Nat.le_of_ble_eq_true rfl) (Nat.le_of_ble_eq_true rfl) ?_ (fun _ _ _ _ h9 => h9)
  show am_G at_P at_cl at_ty _ mt_236 0 [(0, .int s), (1, .int p)] [] _ _
  refine G_ps 2 (pc' := if s < 0 then 13 else 4) (l' := [(0, .int s), (1, .int p)]) (st' := []) rfl ?_
  by_cases hc1 : s < 0
  · rw [if_pos hc1]
    refine G_ps 2 (pc' := 18) (l' := [(0, .int s), (1, .int p)]) (st' := [.int 1]) rfl ?_
    refine G_ret rfl rfl rfl ?_
    show am_G at_P at_cl at_ty _ mt_245 6 [(0, .ref 1826), (1, .int k), (2, .int a), (3, .int s), (4, .int p)] [.int 1] _ _
    refine G_ps 3 (pc' := 36) (l' := [(0, .ref 1826), (1, .int k), (2, .int a), (3, .int s), (4, .int p)]) (st' := [.int (-102)]) rfl ?_
    refine G_ret rfl rfl rfl ?_
    exact ⟨by simp [F_place, *], rfl, by simp, by simp⟩
  · rw [if_neg hc1]
    refine G_ps 3 (pc' := if 1 < s then 13 else 9) (l' := [(0, .int s), (1, .int p)]) (st' := []) rfl ?_
    by_cases hc2 : 1 < s
    · rw [if_pos hc2]
      refine G_ps 2 (pc' := 18) (l' := [(0, .int s), (1, .int p)]) (st' := [.int 1]) rfl ?_
      refine G_ret rfl rfl rfl ?_
      show am_G at_P at_cl at_ty _ mt_245 6 [(0, .ref 1826), (1, .int k), (2, .int a), (3, .int s), (4, .int p)] [.int 1] _ _
      refine G_ps 3 (pc' := 36) (l' := [(0, .ref 1826), (1, .int k), (2, .int a), (3, .int s), (4, .int p)]) (st' := [.int (-102)]) rfl ?_
      refine G_ret rfl rfl rfl ?_
      exact ⟨by simp [F_place, *], rfl, by simp, by simp⟩
    · rw [if_neg hc2]
      refine G_ps 2 (pc' := if 0 ≤ p then 17 else 13) (l' := [(0, .int s), (1, .int p)]) (st' := []) rfl ?_
      by_cases hc3 : 0 ≤ p
      · rw [if_pos hc3]
        refine G_ps 1 (pc' := 18) (l' := [(0, .int s), (1, .int p)]) (st' := [.int 0]) rfl ?_
        refine G_ret rfl rfl rfl ?_
        show am_G at_P at_cl at_ty _ mt_245 6 [(0, .ref 1826), (1, .int k), (2, .int a), (3, .int s), (4, .int p)] [.int 0] _ _
        refine G_ps 2 (pc' := 15) (l' := [(0, .ref 1826), (1, .int k), (2, .int a), (3, .int s), (4, .int p)]) (st' := [.ref 1826]) rfl ?_
        refine G_cv (i := 563) (j := 235) (b := 1826) (M' := mt_235) (xs := []) (rest := []) rfl rfl rfl rfl (s8_1826 c0) (Nat.le_of_ble_eq_true rfl) (Nat.le_of_ble_eq_true rfl) ?_ (fun _ _ _ _ h9 => h9)
        show am_G at_P at_cl at_ty _ mt_235 0 [(0, .ref 1826)] [] _ _
        refine G_ps 1 (pc' := 1) (l' := [(0, .ref 1826)]) (st' := [.ref 1826]) rfl ?_
        refine G_get (i := 414) (ci := 13) (k := 77) (v := .int 0) rfl rfl (s8_1826 c0) rfl ?_
        show am_G at_P at_cl at_ty _ mt_235 4 [(0, .ref 1826)] [.int 0] _ _
        refine G_ps 3 (pc' := 12) (l' := [(0, .ref 1826)]) (st' := [.int 1]) rfl ?_
        refine G_ret rfl rfl rfl ?_
        show am_G at_P at_cl at_ty _ mt_245 18 [(0, .ref 1826), (1, .int k), (2, .int a), (3, .int s), (4, .int p)] [.int 1] _ _
        refine G_ps 3 (pc' := 36) (l' := [(0, .ref 1826), (1, .int k), (2, .int a), (3, .int s), (4, .int p)]) (st' := [.int (-103)]) rfl ?_
        refine G_ret rfl rfl rfl ?_
        exact ⟨by simp [F_place, *], rfl, by simp, by simp⟩
      · rw [if_neg hc3]
        refine G_ps 2 (pc' := 18) (l' := [(0, .int s), (1, .int p)]) (st' := [.int 1]) rfl ?_
        refine G_ret rfl rfl rfl ?_
        show am_G at_P at_cl at_ty _ mt_245 6 [(0, .ref 1826), (1, .int k), (2, .int a), (3, .int s), (4, .int p)] [.int 1] _ _
        refine G_ps 3 (pc' := 36) (l' := [(0, .ref 1826), (1, .int k), (2, .int a), (3, .int s), (4, .int p)]) (st' := [.int (-102)]) rfl ?_
        refine G_ret rfl rfl rfl ?_
        exact ⟨by simp [F_place, *], rfl, by simp, by simp⟩
theorem x_induction (c0 : am_C) (v : Int32) : am_G at_P at_cl at_ty 5 mt_15 0 [(0, .ref 1), (1, .int v)] [] (c0, s8) (fun r S c n => r = some (.int (F_st v)) ∧ S = (c0, s8) ∧ c = 0 ∧ n = 0) := by
  refine G_ps 1 (pc' := 1) (l' := [(0, .ref 1), (1, .int v)]) (st' := [.ref 1]) rfl ?_
  refine G_get (i := 60) (ci := 0) (k := 6) (v := .ref 406) rfl rfl (s8_1 c0) rfl ?_
  show am_G at_P at_cl at_ty _ mt_15 4 [(0, .ref 1), (1, .int v)] [.ref 406] _ _
  refine G_get (i := 96) (ci := 10) (k := 2) (v := .ref 407) rfl rfl (s8_406 c0) rfl ?_
  show am_G at_P at_cl at_ty _ mt_15 7 [(0, .ref 1), (1, .int v)] [.ref 407] _ _
  refine G_get (i := 129) (ci := 11) (k := 2) (v := .int 0) rfl rfl (s8_407 c0) rfl ?_
  show am_G at_P at_cl at_ty _ mt_15 10 [(0, .ref 1), (1, .int v)] [.int 0] _ _
  refine G_ps 2 (pc' := 26) (l' := [(0, .ref 1), (1, .int v)]) (st' := [.int (-103)]) rfl ?_
  refine G_ret rfl rfl rfl ?_
  exact ⟨by simp [F_st, *], rfl, by simp, by simp⟩
theorem m_induction (c0 : am_C) (v : Int32) : am_G at_P at_cl at_ty 5 mt_252 0 [(0, .ref 1826), (1, .int v)] [] (c0, s8) (fun r S c n => r = some (.int (F_st v)) ∧ S = (c0, s8) ∧ c = 0 ∧ n = 0) := by
  refine G_ps 1 (pc' := 1) (l' := [(0, .ref 1826), (1, .int v)]) (st' := [.ref 1826]) rfl ?_
  refine G_cv (i := 563) (j := 235) (b := 1826) (M' := mt_235) (xs := []) (rest := []) rfl rfl rfl rfl (s8_1826 c0) (Nat.le_of_ble_eq_true rfl) (Nat.le_of_ble_eq_true rfl) ?_ (fun _ _ _ _ h9 => h9)
  show am_G at_P at_cl at_ty _ mt_235 0 [(0, .ref 1826)] [] _ _
  refine G_ps 1 (pc' := 1) (l' := [(0, .ref 1826)]) (st' := [.ref 1826]) rfl ?_
  refine G_get (i := 414) (ci := 13) (k := 77) (v := .int 0) rfl rfl (s8_1826 c0) rfl ?_
  show am_G at_P at_cl at_ty _ mt_235 4 [(0, .ref 1826)] [.int 0] _ _
  refine G_ps 3 (pc' := 12) (l' := [(0, .ref 1826)]) (st' := [.int 1]) rfl ?_
  refine G_ret rfl rfl rfl ?_
  show am_G at_P at_cl at_ty _ mt_252 4 [(0, .ref 1826), (1, .int v)] [.int 1] _ _
  refine G_ps 3 (pc' := 68) (l' := [(0, .ref 1826), (1, .int v)]) (st' := [.int (-103)]) rfl ?_
  refine G_ret rfl rfl rfl ?_
  exact ⟨by simp [F_st, *], rfl, by simp, by simp⟩
theorem x_cases (c0 : am_C) (s p : Int32) : am_G at_P at_cl at_ty 5 mt_16 0 [(0, .ref 1), (1, .int s), (2, .int p)] [] (c0, s8) (fun r S c n => r = some (.int (F_place s p)) ∧ S = (c0, s8) ∧ c = 0 ∧ n = 0) := by
  refine G_ps 3 (pc' := 3) (l' := [(0, .ref 1), (1, .int s), (2, .int p)]) (st' := [.int p, .int s, .ref 1]) rfl ?_
  refine G_cv (i := 202) (j := 24) (b := 1) (M' := mt_24) (xs := [.int p, .int s]) (rest := []) rfl rfl rfl rfl (s8_1 c0) (Nat.le_of_ble_eq_true rfl) (Nat.le_of_ble_eq_true rfl) ?_ (fun _ _ _ _ h9 => h9)
  show am_G at_P at_cl at_ty _ mt_24 0 [(0, .ref 1), (1, .int s), (2, .int p)] [] _ _
  refine G_ps 2 (pc' := if s < 0 then 13 else 4) (l' := [(0, .ref 1), (1, .int s), (2, .int p)]) (st' := []) rfl ?_
  by_cases hc1 : s < 0
  · rw [if_pos hc1]
    refine G_ps 1 (pc' := 15) (l' := [(0, .ref 1), (1, .int s), (2, .int p)]) (st' := [.int (-102)]) rfl ?_
    refine G_ret rfl rfl rfl ?_
    show am_G at_P at_cl at_ty _ mt_16 6 [(0, .ref 1), (1, .int s), (2, .int p)] [.int (-102)] _ _
    refine G_ps 5 (pc' := 32) (l' := [(3, .int (-102)), (0, .ref 1), (1, .int s), (2, .int p)]) (st' := [.int (-102)]) rfl ?_
    refine G_ret rfl rfl rfl ?_
    exact ⟨by simp [F_place, *], rfl, by simp, by simp⟩
  · rw [if_neg hc1]
    refine G_ps 3 (pc' := if 1 < s then 13 else 9) (l' := [(0, .ref 1), (1, .int s), (2, .int p)]) (st' := []) rfl ?_
    by_cases hc2 : 1 < s
    · rw [if_pos hc2]
      refine G_ps 1 (pc' := 15) (l' := [(0, .ref 1), (1, .int s), (2, .int p)]) (st' := [.int (-102)]) rfl ?_
      refine G_ret rfl rfl rfl ?_
      show am_G at_P at_cl at_ty _ mt_16 6 [(0, .ref 1), (1, .int s), (2, .int p)] [.int (-102)] _ _
      refine G_ps 5 (pc' := 32) (l' := [(3, .int (-102)), (0, .ref 1), (1, .int s), (2, .int p)]) (st' := [.int (-102)]) rfl ?_
      refine G_ret rfl rfl rfl ?_
      exact ⟨by simp [F_place, *], rfl, by simp, by simp⟩
    · rw [if_neg hc2]
      refine G_ps 2 (pc' := if 0 ≤ p then 16 else 13) (l' := [(0, .ref 1), (1, .int s), (2, .int p)]) (st' := []) rfl ?_
      by_cases hc3 : 0 ≤ p
      · rw [if_pos hc3]
        refine G_ps 1 (pc' := 17) (l' := [(0, .ref 1), (1, .int s), (2, .int p)]) (st' := [.ref 1]) rfl ?_
        refine G_get (i := 60) (ci := 0) (k := 6) (v := .ref 406) rfl rfl (s8_1 c0) rfl ?_
        show am_G at_P at_cl at_ty _ mt_24 20 [(0, .ref 1), (1, .int s), (2, .int p)] [.ref 406] _ _
        refine G_get (i := 96) (ci := 10) (k := 2) (v := .ref 407) rfl rfl (s8_406 c0) rfl ?_
        show am_G at_P at_cl at_ty _ mt_24 23 [(0, .ref 1), (1, .int s), (2, .int p)] [.ref 407] _ _
        refine G_get (i := 129) (ci := 11) (k := 2) (v := .int 0) rfl rfl (s8_407 c0) rfl ?_
        show am_G at_P at_cl at_ty _ mt_24 26 [(0, .ref 1), (1, .int s), (2, .int p)] [.int 0] _ _
        refine G_ps 2 (pc' := 35) (l' := [(0, .ref 1), (1, .int s), (2, .int p)]) (st' := [.int (-103)]) rfl ?_
        refine G_ret rfl rfl rfl ?_
        show am_G at_P at_cl at_ty _ mt_16 6 [(0, .ref 1), (1, .int s), (2, .int p)] [.int (-103)] _ _
        refine G_ps 5 (pc' := 32) (l' := [(3, .int (-103)), (0, .ref 1), (1, .int s), (2, .int p)]) (st' := [.int (-103)]) rfl ?_
        refine G_ret rfl rfl rfl ?_
        exact ⟨by simp [F_place, *], rfl, by simp, by simp⟩
      · rw [if_neg hc3]
        refine G_ps 1 (pc' := 15) (l' := [(0, .ref 1), (1, .int s), (2, .int p)]) (st' := [.int (-102)]) rfl ?_
        refine G_ret rfl rfl rfl ?_
        show am_G at_P at_cl at_ty _ mt_16 6 [(0, .ref 1), (1, .int s), (2, .int p)] [.int (-102)] _ _
        refine G_ps 5 (pc' := 32) (l' := [(3, .int (-102)), (0, .ref 1), (1, .int s), (2, .int p)]) (st' := [.int (-102)]) rfl ?_
        refine G_ret rfl rfl rfl ?_
        exact ⟨by simp [F_place, *], rfl, by simp, by simp⟩
theorem m_cases (c0 : am_C) (s p : Int32) : am_G at_P at_cl at_ty 5 mt_255 0 [(0, .ref 1826), (1, .int s), (2, .int p)] [] (c0, s8) (fun r S c n => r = some (.int (F_place s p)) ∧ S = (c0, s8) ∧ c = 0 ∧ n = 0) := by
  refine G_ps 2 (pc' := 2) (l' := [(0, .ref 1826), (1, .int s), (2, .int p)]) (st' := [.int p, .int s]) rfl ?_
  refine G_cs (i := 559) (j := 236) (M' := mt_236) (xs := [.int p, .int s]) (rest := []) rfl rfl rfl rfl rfl (Nat.le_of_ble_eq_true rfl) (Nat.le_of_ble_eq_true rfl) ?_ (fun _ _ _ _ h9 => h9)
  show am_G at_P at_cl at_ty _ mt_236 0 [(0, .int s), (1, .int p)] [] _ _
  refine G_ps 2 (pc' := if s < 0 then 13 else 4) (l' := [(0, .int s), (1, .int p)]) (st' := []) rfl ?_
  by_cases hc1 : s < 0
  · rw [if_pos hc1]
    refine G_ps 2 (pc' := 18) (l' := [(0, .int s), (1, .int p)]) (st' := [.int 1]) rfl ?_
    refine G_ret rfl rfl rfl ?_
    show am_G at_P at_cl at_ty _ mt_255 5 [(0, .ref 1826), (1, .int s), (2, .int p)] [.int 1] _ _
    refine G_ps 3 (pc' := 32) (l' := [(0, .ref 1826), (1, .int s), (2, .int p)]) (st' := [.int (-102)]) rfl ?_
    refine G_ret rfl rfl rfl ?_
    exact ⟨by simp [F_place, *], rfl, by simp, by simp⟩
  · rw [if_neg hc1]
    refine G_ps 3 (pc' := if 1 < s then 13 else 9) (l' := [(0, .int s), (1, .int p)]) (st' := []) rfl ?_
    by_cases hc2 : 1 < s
    · rw [if_pos hc2]
      refine G_ps 2 (pc' := 18) (l' := [(0, .int s), (1, .int p)]) (st' := [.int 1]) rfl ?_
      refine G_ret rfl rfl rfl ?_
      show am_G at_P at_cl at_ty _ mt_255 5 [(0, .ref 1826), (1, .int s), (2, .int p)] [.int 1] _ _
      refine G_ps 3 (pc' := 32) (l' := [(0, .ref 1826), (1, .int s), (2, .int p)]) (st' := [.int (-102)]) rfl ?_
      refine G_ret rfl rfl rfl ?_
      exact ⟨by simp [F_place, *], rfl, by simp, by simp⟩
    · rw [if_neg hc2]
      refine G_ps 2 (pc' := if 0 ≤ p then 17 else 13) (l' := [(0, .int s), (1, .int p)]) (st' := []) rfl ?_
      by_cases hc3 : 0 ≤ p
      · rw [if_pos hc3]
        refine G_ps 1 (pc' := 18) (l' := [(0, .int s), (1, .int p)]) (st' := [.int 0]) rfl ?_
        refine G_ret rfl rfl rfl ?_
        show am_G at_P at_cl at_ty _ mt_255 5 [(0, .ref 1826), (1, .int s), (2, .int p)] [.int 0] _ _
        refine G_ps 2 (pc' := 14) (l' := [(0, .ref 1826), (1, .int s), (2, .int p)]) (st' := [.ref 1826]) rfl ?_
        refine G_cv (i := 563) (j := 235) (b := 1826) (M' := mt_235) (xs := []) (rest := []) rfl rfl rfl rfl (s8_1826 c0) (Nat.le_of_ble_eq_true rfl) (Nat.le_of_ble_eq_true rfl) ?_ (fun _ _ _ _ h9 => h9)
        show am_G at_P at_cl at_ty _ mt_235 0 [(0, .ref 1826)] [] _ _
        refine G_ps 1 (pc' := 1) (l' := [(0, .ref 1826)]) (st' := [.ref 1826]) rfl ?_
        refine G_get (i := 414) (ci := 13) (k := 77) (v := .int 0) rfl rfl (s8_1826 c0) rfl ?_
        show am_G at_P at_cl at_ty _ mt_235 4 [(0, .ref 1826)] [.int 0] _ _
        refine G_ps 3 (pc' := 12) (l' := [(0, .ref 1826)]) (st' := [.int 1]) rfl ?_
        refine G_ret rfl rfl rfl ?_
        show am_G at_P at_cl at_ty _ mt_255 17 [(0, .ref 1826), (1, .int s), (2, .int p)] [.int 1] _ _
        refine G_ps 3 (pc' := 32) (l' := [(0, .ref 1826), (1, .int s), (2, .int p)]) (st' := [.int (-103)]) rfl ?_
        refine G_ret rfl rfl rfl ?_
        exact ⟨by simp [F_place, *], rfl, by simp, by simp⟩
      · rw [if_neg hc3]
        refine G_ps 2 (pc' := 18) (l' := [(0, .int s), (1, .int p)]) (st' := [.int 1]) rfl ?_
        refine G_ret rfl rfl rfl ?_
        show am_G at_P at_cl at_ty _ mt_255 5 [(0, .ref 1826), (1, .int s), (2, .int p)] [.int 1] _ _
        refine G_ps 3 (pc' := 32) (l' := [(0, .ref 1826), (1, .int s), (2, .int p)]) (st' := [.int (-102)]) rfl ?_
        refine G_ret rfl rfl rfl ?_
        exact ⟨by simp [F_place, *], rfl, by simp, by simp⟩
theorem x_same (c0 : am_C) : am_G at_P at_cl at_ty 5 mt_17 0 [(0, .ref 1)] [] (c0, s8) (fun r S c n => r = some (.int (F_state)) ∧ S = (c0, s8) ∧ c = 0 ∧ n = 0) := by
  refine G_ps 1 (pc' := 1) (l' := [(0, .ref 1)]) (st' := [.ref 1]) rfl ?_
  refine G_get (i := 60) (ci := 0) (k := 6) (v := .ref 406) rfl rfl (s8_1 c0) rfl ?_
  show am_G at_P at_cl at_ty _ mt_17 4 [(0, .ref 1)] [.ref 406] _ _
  refine G_get (i := 96) (ci := 10) (k := 2) (v := .ref 407) rfl rfl (s8_406 c0) rfl ?_
  show am_G at_P at_cl at_ty _ mt_17 7 [(0, .ref 1)] [.ref 407] _ _
  refine G_get (i := 129) (ci := 11) (k := 2) (v := .int 0) rfl rfl (s8_407 c0) rfl ?_
  show am_G at_P at_cl at_ty _ mt_17 10 [(0, .ref 1)] [.int 0] _ _
  refine G_ps 2 (pc' := 25) (l' := [(0, .ref 1)]) (st' := [.int (-103)]) rfl ?_
  refine G_ret rfl rfl rfl ?_
  exact ⟨by simp [F_state, *], rfl, by simp, by simp⟩
theorem m_same (c0 : am_C) : am_G at_P at_cl at_ty 5 mt_261 0 [(0, .ref 1826)] [] (c0, s8) (fun r S c n => r = some (.int (F_state)) ∧ S = (c0, s8) ∧ c = 0 ∧ n = 0) := by
  refine G_ps 1 (pc' := 1) (l' := [(0, .ref 1826)]) (st' := [.ref 1826]) rfl ?_
  refine G_cv (i := 563) (j := 235) (b := 1826) (M' := mt_235) (xs := []) (rest := []) rfl rfl rfl rfl (s8_1826 c0) (Nat.le_of_ble_eq_true rfl) (Nat.le_of_ble_eq_true rfl) ?_ (fun _ _ _ _ h9 => h9)
  show am_G at_P at_cl at_ty _ mt_235 0 [(0, .ref 1826)] [] _ _
  refine G_ps 1 (pc' := 1) (l' := [(0, .ref 1826)]) (st' := [.ref 1826]) rfl ?_
  refine G_get (i := 414) (ci := 13) (k := 77) (v := .int 0) rfl rfl (s8_1826 c0) rfl ?_
  show am_G at_P at_cl at_ty _ mt_235 4 [(0, .ref 1826)] [.int 0] _ _
  refine G_ps 3 (pc' := 12) (l' := [(0, .ref 1826)]) (st' := [.int 1]) rfl ?_
  refine G_ret rfl rfl rfl ?_
  show am_G at_P at_cl at_ty _ mt_261 4 [(0, .ref 1826)] [.int 1] _ _
  refine G_ps 2 (pc' := 9) (l' := [(0, .ref 1826)]) (st' := [.int (-103)]) rfl ?_
  refine G_ret rfl rfl rfl ?_
  exact ⟨by simp [F_state, *], rfl, by simp, by simp⟩
theorem x_parts (c0 : am_C) : am_G at_P at_cl at_ty 5 mt_18 0 [(0, .ref 1)] [] (c0, s8) (fun r S c n => r = some (.int (F_state)) ∧ S = (c0, s8) ∧ c = 0 ∧ n = 0) := by
  refine G_ps 1 (pc' := 1) (l' := [(0, .ref 1)]) (st' := [.ref 1]) rfl ?_
  refine G_get (i := 60) (ci := 0) (k := 6) (v := .ref 406) rfl rfl (s8_1 c0) rfl ?_
  show am_G at_P at_cl at_ty _ mt_18 4 [(0, .ref 1)] [.ref 406] _ _
  refine G_get (i := 96) (ci := 10) (k := 2) (v := .ref 407) rfl rfl (s8_406 c0) rfl ?_
  show am_G at_P at_cl at_ty _ mt_18 7 [(0, .ref 1)] [.ref 407] _ _
  refine G_get (i := 129) (ci := 11) (k := 2) (v := .int 0) rfl rfl (s8_407 c0) rfl ?_
  show am_G at_P at_cl at_ty _ mt_18 10 [(0, .ref 1)] [.int 0] _ _
  refine G_ps 2 (pc' := 25) (l' := [(0, .ref 1)]) (st' := [.int (-103)]) rfl ?_
  refine G_ret rfl rfl rfl ?_
  exact ⟨by simp [F_state, *], rfl, by simp, by simp⟩
theorem m_parts (c0 : am_C) : am_G at_P at_cl at_ty 5 mt_262 0 [(0, .ref 1826)] [] (c0, s8) (fun r S c n => r = some (.int (F_state)) ∧ S = (c0, s8) ∧ c = 0 ∧ n = 0) := by
  refine G_ps 1 (pc' := 1) (l' := [(0, .ref 1826)]) (st' := [.ref 1826]) rfl ?_
  refine G_cv (i := 563) (j := 235) (b := 1826) (M' := mt_235) (xs := []) (rest := []) rfl rfl rfl rfl (s8_1826 c0) (Nat.le_of_ble_eq_true rfl) (Nat.le_of_ble_eq_true rfl) ?_ (fun _ _ _ _ h9 => h9)
  show am_G at_P at_cl at_ty _ mt_235 0 [(0, .ref 1826)] [] _ _
  refine G_ps 1 (pc' := 1) (l' := [(0, .ref 1826)]) (st' := [.ref 1826]) rfl ?_
  refine G_get (i := 414) (ci := 13) (k := 77) (v := .int 0) rfl rfl (s8_1826 c0) rfl ?_
  show am_G at_P at_cl at_ty _ mt_235 4 [(0, .ref 1826)] [.int 0] _ _
  refine G_ps 3 (pc' := 12) (l' := [(0, .ref 1826)]) (st' := [.int 1]) rfl ?_
  refine G_ret rfl rfl rfl ?_
  show am_G at_P at_cl at_ty _ mt_262 4 [(0, .ref 1826)] [.int 1] _ _
  refine G_ps 2 (pc' := 9) (l' := [(0, .ref 1826)]) (st' := [.int (-103)]) rfl ?_
  refine G_ret rfl rfl rfl ?_
  exact ⟨by simp [F_state, *], rfl, by simp, by simp⟩
theorem x_search (c0 : am_C) (q : Int32) : am_G at_P at_cl at_ty 5 mt_19 0 [(0, .ref 1), (1, .int q)] [] (c0, s8) (fun r S c n => r = some (.int (F_srch q)) ∧ S = (c0, s8) ∧ c = 0 ∧ n = 0) := by
  refine G_ps 3 (pc' := if q < 1 then 12 else 5) (l' := [(0, .ref 1), (1, .int q)]) (st' := []) rfl ?_
  by_cases hc1 : q < 1
  · rw [if_pos hc1]
    refine G_ps 1 (pc' := 14) (l' := [(0, .ref 1), (1, .int q)]) (st' := [.int (-102)]) rfl ?_
    refine G_ret rfl rfl rfl ?_
    exact ⟨by simp [F_srch, *], rfl, by simp, by simp⟩
  · rw [if_neg hc1]
    refine G_ps 3 (pc' := if q ≤ 500 then 15 else 12) (l' := [(0, .ref 1), (1, .int q)]) (st' := []) rfl ?_
    by_cases hc2 : q ≤ 500
    · rw [if_pos hc2]
      refine G_ps 1 (pc' := 16) (l' := [(0, .ref 1), (1, .int q)]) (st' := [.ref 1]) rfl ?_
      refine G_get (i := 60) (ci := 0) (k := 6) (v := .ref 406) rfl rfl (s8_1 c0) rfl ?_
      show am_G at_P at_cl at_ty _ mt_19 19 [(0, .ref 1), (1, .int q)] [.ref 406] _ _
      refine G_get (i := 96) (ci := 10) (k := 2) (v := .ref 407) rfl rfl (s8_406 c0) rfl ?_
      show am_G at_P at_cl at_ty _ mt_19 22 [(0, .ref 1), (1, .int q)] [.ref 407] _ _
      refine G_get (i := 129) (ci := 11) (k := 2) (v := .int 0) rfl rfl (s8_407 c0) rfl ?_
      show am_G at_P at_cl at_ty _ mt_19 25 [(0, .ref 1), (1, .int q)] [.int 0] _ _
      refine G_ps 2 (pc' := 30) (l' := [(0, .ref 1), (1, .int q)]) (st' := [.int (-103)]) rfl ?_
      refine G_ret rfl rfl rfl ?_
      exact ⟨by simp [F_srch, *], rfl, by simp, by simp⟩
    · rw [if_neg hc2]
      refine G_ps 1 (pc' := 14) (l' := [(0, .ref 1), (1, .int q)]) (st' := [.int (-102)]) rfl ?_
      refine G_ret rfl rfl rfl ?_
      exact ⟨by simp [F_srch, *], rfl, by simp, by simp⟩
theorem m_search (c0 : am_C) (q : Int32) : am_G at_P at_cl at_ty 5 mt_266 0 [(0, .ref 1826), (1, .int q)] [] (c0, s8) (fun r S c n => r = some (.int (F_srch q)) ∧ S = (c0, s8) ∧ c = 0 ∧ n = 0) := by
  refine G_ps 3 (pc' := if q < 1 then 12 else 5) (l' := [(0, .ref 1826), (1, .int q)]) (st' := []) rfl ?_
  by_cases hc1 : q < 1
  · rw [if_pos hc1]
    refine G_ps 1 (pc' := 14) (l' := [(0, .ref 1826), (1, .int q)]) (st' := [.int (-102)]) rfl ?_
    refine G_ret rfl rfl rfl ?_
    exact ⟨by simp [F_srch, *], rfl, by simp, by simp⟩
  · rw [if_neg hc1]
    refine G_ps 3 (pc' := if q ≤ 500 then 15 else 12) (l' := [(0, .ref 1826), (1, .int q)]) (st' := []) rfl ?_
    by_cases hc2 : q ≤ 500
    · rw [if_pos hc2]
      refine G_ps 1 (pc' := 16) (l' := [(0, .ref 1826), (1, .int q)]) (st' := [.ref 1826]) rfl ?_
      refine G_cv (i := 563) (j := 235) (b := 1826) (M' := mt_235) (xs := []) (rest := []) rfl rfl rfl rfl (s8_1826 c0) (Nat.le_of_ble_eq_true rfl) (Nat.le_of_ble_eq_true rfl) ?_ (fun _ _ _ _ h9 => h9)
      show am_G at_P at_cl at_ty _ mt_235 0 [(0, .ref 1826)] [] _ _
      refine G_ps 1 (pc' := 1) (l' := [(0, .ref 1826)]) (st' := [.ref 1826]) rfl ?_
      refine G_get (i := 414) (ci := 13) (k := 77) (v := .int 0) rfl rfl (s8_1826 c0) rfl ?_
      show am_G at_P at_cl at_ty _ mt_235 4 [(0, .ref 1826)] [.int 0] _ _
      refine G_ps 3 (pc' := 12) (l' := [(0, .ref 1826)]) (st' := [.int 1]) rfl ?_
      refine G_ret rfl rfl rfl ?_
      show am_G at_P at_cl at_ty _ mt_266 19 [(0, .ref 1826), (1, .int q)] [.int 1] _ _
      refine G_ps 2 (pc' := 24) (l' := [(0, .ref 1826), (1, .int q)]) (st' := [.int (-103)]) rfl ?_
      refine G_ret rfl rfl rfl ?_
      exact ⟨by simp [F_srch, *], rfl, by simp, by simp⟩
    · rw [if_neg hc2]
      refine G_ps 1 (pc' := 14) (l' := [(0, .ref 1826), (1, .int q)]) (st' := [.int (-102)]) rfl ?_
      refine G_ret rfl rfl rfl ?_
      exact ⟨by simp [F_srch, *], rfl, by simp, by simp⟩
theorem x_show (c0 : am_C) (k s : Int32) : am_G at_P at_cl at_ty 5 mt_20 0 [(0, .ref 1), (1, .int k), (2, .int s)] [] (c0, s8) (fun r S c n => r = some (.int (F_st k)) ∧ S = (c0, s8) ∧ c = 0 ∧ n = 0) := by
  refine G_ps 1 (pc' := 1) (l' := [(0, .ref 1), (1, .int k), (2, .int s)]) (st' := [.ref 1]) rfl ?_
  refine G_get (i := 60) (ci := 0) (k := 6) (v := .ref 406) rfl rfl (s8_1 c0) rfl ?_
  show am_G at_P at_cl at_ty _ mt_20 4 [(0, .ref 1), (1, .int k), (2, .int s)] [.ref 406] _ _
  refine G_get (i := 96) (ci := 10) (k := 2) (v := .ref 407) rfl rfl (s8_406 c0) rfl ?_
  show am_G at_P at_cl at_ty _ mt_20 7 [(0, .ref 1), (1, .int k), (2, .int s)] [.ref 407] _ _
  refine G_ps 2 (pc' := 9) (l' := [(3, .ref 407), (0, .ref 1), (1, .int k), (2, .int s)]) (st' := [.ref 407]) rfl ?_
  refine G_get (i := 129) (ci := 11) (k := 2) (v := .int 0) rfl rfl (s8_407 c0) rfl ?_
  show am_G at_P at_cl at_ty _ mt_20 12 [(3, .ref 407), (0, .ref 1), (1, .int k), (2, .int s)] [.int 0] _ _
  refine G_ps 2 (pc' := 17) (l' := [(3, .ref 407), (0, .ref 1), (1, .int k), (2, .int s)]) (st' := [.int (-103)]) rfl ?_
  refine G_ret rfl rfl rfl ?_
  exact ⟨by simp [F_st, *], rfl, by simp, by simp⟩
theorem m_show (c0 : am_C) (k s : Int32) : am_G at_P at_cl at_ty 5 mt_270 0 [(0, .ref 1826), (1, .int k), (2, .int s)] [] (c0, s8) (fun r S c n => r = some (.int (F_st k)) ∧ S = (c0, s8) ∧ c = 0 ∧ n = 0) := by
  refine G_ps 1 (pc' := 1) (l' := [(0, .ref 1826), (1, .int k), (2, .int s)]) (st' := [.ref 1826]) rfl ?_
  refine G_cv (i := 563) (j := 235) (b := 1826) (M' := mt_235) (xs := []) (rest := []) rfl rfl rfl rfl (s8_1826 c0) (Nat.le_of_ble_eq_true rfl) (Nat.le_of_ble_eq_true rfl) ?_ (fun _ _ _ _ h9 => h9)
  show am_G at_P at_cl at_ty _ mt_235 0 [(0, .ref 1826)] [] _ _
  refine G_ps 1 (pc' := 1) (l' := [(0, .ref 1826)]) (st' := [.ref 1826]) rfl ?_
  refine G_get (i := 414) (ci := 13) (k := 77) (v := .int 0) rfl rfl (s8_1826 c0) rfl ?_
  show am_G at_P at_cl at_ty _ mt_235 4 [(0, .ref 1826)] [.int 0] _ _
  refine G_ps 3 (pc' := 12) (l' := [(0, .ref 1826)]) (st' := [.int 1]) rfl ?_
  refine G_ret rfl rfl rfl ?_
  show am_G at_P at_cl at_ty _ mt_270 4 [(0, .ref 1826), (1, .int k), (2, .int s)] [.int 1] _ _
  refine G_ps 2 (pc' := 9) (l' := [(0, .ref 1826), (1, .int k), (2, .int s)]) (st' := [.int (-103)]) rfl ?_
  refine G_ret rfl rfl rfl ?_
  exact ⟨by simp [F_st, *], rfl, by simp, by simp⟩
theorem x_showHypothesis (c0 : am_C) (k s : Int32) : am_G at_P at_cl at_ty 5 mt_21 0 [(0, .ref 1), (1, .int k), (2, .int s)] [] (c0, s8) (fun r S c n => r = some (.int (F_st k)) ∧ S = (c0, s8) ∧ c = 0 ∧ n = 0) := by
  refine G_ps 1 (pc' := 1) (l' := [(0, .ref 1), (1, .int k), (2, .int s)]) (st' := [.ref 1]) rfl ?_
  refine G_get (i := 60) (ci := 0) (k := 6) (v := .ref 406) rfl rfl (s8_1 c0) rfl ?_
  show am_G at_P at_cl at_ty _ mt_21 4 [(0, .ref 1), (1, .int k), (2, .int s)] [.ref 406] _ _
  refine G_get (i := 96) (ci := 10) (k := 2) (v := .ref 407) rfl rfl (s8_406 c0) rfl ?_
  show am_G at_P at_cl at_ty _ mt_21 7 [(0, .ref 1), (1, .int k), (2, .int s)] [.ref 407] _ _
  refine G_get (i := 129) (ci := 11) (k := 2) (v := .int 0) rfl rfl (s8_407 c0) rfl ?_
  show am_G at_P at_cl at_ty _ mt_21 10 [(0, .ref 1), (1, .int k), (2, .int s)] [.int 0] _ _
  refine G_ps 2 (pc' := 15) (l' := [(0, .ref 1), (1, .int k), (2, .int s)]) (st' := [.int (-103)]) rfl ?_
  refine G_ret rfl rfl rfl ?_
  exact ⟨by simp [F_st, *], rfl, by simp, by simp⟩
theorem m_showHypothesis (c0 : am_C) (k s : Int32) : am_G at_P at_cl at_ty 5 mt_271 0 [(0, .ref 1826), (1, .int k), (2, .int s)] [] (c0, s8) (fun r S c n => r = some (.int (F_st k)) ∧ S = (c0, s8) ∧ c = 0 ∧ n = 0) := by
  refine G_ps 1 (pc' := 1) (l' := [(0, .ref 1826), (1, .int k), (2, .int s)]) (st' := [.ref 1826]) rfl ?_
  refine G_cv (i := 563) (j := 235) (b := 1826) (M' := mt_235) (xs := []) (rest := []) rfl rfl rfl rfl (s8_1826 c0) (Nat.le_of_ble_eq_true rfl) (Nat.le_of_ble_eq_true rfl) ?_ (fun _ _ _ _ h9 => h9)
  show am_G at_P at_cl at_ty _ mt_235 0 [(0, .ref 1826)] [] _ _
  refine G_ps 1 (pc' := 1) (l' := [(0, .ref 1826)]) (st' := [.ref 1826]) rfl ?_
  refine G_get (i := 414) (ci := 13) (k := 77) (v := .int 0) rfl rfl (s8_1826 c0) rfl ?_
  show am_G at_P at_cl at_ty _ mt_235 4 [(0, .ref 1826)] [.int 0] _ _
  refine G_ps 3 (pc' := 12) (l' := [(0, .ref 1826)]) (st' := [.int 1]) rfl ?_
  refine G_ret rfl rfl rfl ?_
  show am_G at_P at_cl at_ty _ mt_271 4 [(0, .ref 1826), (1, .int k), (2, .int s)] [.int 1] _ _
  refine G_ps 2 (pc' := 9) (l' := [(0, .ref 1826), (1, .int k), (2, .int s)]) (st' := [.int (-103)]) rfl ?_
  refine G_ret rfl rfl rfl ?_
  exact ⟨by simp [F_st, *], rfl, by simp, by simp⟩
theorem x_showLaw (c0 : am_C) (l s : Int32) : am_G at_P at_cl at_ty 5 mt_22 0 [(0, .ref 1), (1, .int l), (2, .int s)] [] (c0, s8) (fun r S c n => r = some (.int (F_unk l)) ∧ S = (c0, s8) ∧ c = 0 ∧ n = 0) := by
  refine G_ps 1 (pc' := 1) (l' := [(0, .ref 1), (1, .int l), (2, .int s)]) (st' := [.ref 1]) rfl ?_
  refine G_get (i := 19) (ci := 0) (k := 1) (v := .ref 7) rfl rfl (s8_1 c0) rfl ?_
  show am_G at_P at_cl at_ty _ mt_22 4 [(0, .ref 1), (1, .int l), (2, .int s)] [.ref 7] _ _
  refine G_ps 1 (pc' := 5) (l' := [(0, .ref 1), (1, .int l), (2, .int s)]) (st' := [.int l, .ref 7]) rfl ?_
  refine G_cv (i := 144) (j := 35) (b := 7) (M' := mt_35) (xs := [.int l]) (rest := []) rfl rfl rfl rfl (s8_7 c0) (Nat.le_of_ble_eq_true rfl) (Nat.le_of_ble_eq_true rfl) ?_ (fun _ _ _ _ h9 => h9)
  show am_G at_P at_cl at_ty _ mt_35 0 [(0, .ref 7), (1, .int l)] [] _ _
  refine G_ps 2 (pc' := if l < 0 then 25 else 4) (l' := [(0, .ref 7), (1, .int l)]) (st' := []) rfl ?_
  by_cases hc1 : l < 0
  · rw [if_pos hc1]
    refine G_ps 1 (pc' := 26) (l' := [(0, .ref 7), (1, .int l)]) (st' := [.int 0]) rfl ?_
    refine G_ret rfl rfl rfl ?_
    show am_G at_P at_cl at_ty _ mt_22 8 [(0, .ref 1), (1, .int l), (2, .int s)] [.int 0] _ _
    refine G_ps 2 (pc' := 13) (l' := [(0, .ref 1), (1, .int l), (2, .int s)]) (st' := [.int (-101)]) rfl ?_
    refine G_ret rfl rfl rfl ?_
    exact ⟨by simp [F_unk, *], rfl, by simp, by simp⟩
  · rw [if_neg hc1]
    refine G_ps 2 (pc' := 6) (l' := [(0, .ref 7), (1, .int l)]) (st' := [.ref 7, .int l]) rfl ?_
    refine G_get (i := 36) (ci := 2) (k := 6) (v := .int 0) rfl rfl (s8_7 c0) rfl ?_
    show am_G at_P at_cl at_ty _ mt_35 9 [(0, .ref 7), (1, .int l)] [.int 0, .int l] _ _
    refine G_ps 1 (pc' := if 0 ≤ l then 25 else 12) (l' := [(0, .ref 7), (1, .int l)]) (st' := []) rfl ?_
    by_cases hc2 : 0 ≤ l
    · rw [if_pos hc2]
      refine G_ps 1 (pc' := 26) (l' := [(0, .ref 7), (1, .int l)]) (st' := [.int 0]) rfl ?_
      refine G_ret rfl rfl rfl ?_
      show am_G at_P at_cl at_ty _ mt_22 8 [(0, .ref 1), (1, .int l), (2, .int s)] [.int 0] _ _
      refine G_ps 2 (pc' := 13) (l' := [(0, .ref 1), (1, .int l), (2, .int s)]) (st' := [.int (-101)]) rfl ?_
      refine G_ret rfl rfl rfl ?_
      exact ⟨by simp [F_unk, *], rfl, by simp, by simp⟩
    · rw [if_neg hc2]
      exfalso
      simp only [Int32.lt_iff_toInt_lt, Int32.le_iff_toInt_le, show (0 : Int32).toInt = 0 by decide] at hc1 hc2
      omega
theorem m_showLaw (c0 : am_C) (l s : Int32) : am_G at_P at_cl at_ty 5 mt_272 0 [(0, .ref 1826), (1, .int l), (2, .int s)] [] (c0, s8) (fun r S c n => r = some (.int (F_unk l)) ∧ S = (c0, s8) ∧ c = 0 ∧ n = 0) := by
  refine G_ps 2 (pc' := if l < 0 then 12 else 4) (l' := [(0, .ref 1826), (1, .int l), (2, .int s)]) (st' := []) rfl ?_
  by_cases hc1 : l < 0
  · rw [if_pos hc1]
    refine G_ps 1 (pc' := 14) (l' := [(0, .ref 1826), (1, .int l), (2, .int s)]) (st' := [.int (-101)]) rfl ?_
    refine G_ret rfl rfl rfl ?_
    exact ⟨by simp [F_unk, *], rfl, by simp, by simp⟩
  · rw [if_neg hc1]
    refine G_ps 2 (pc' := 6) (l' := [(0, .ref 1826), (1, .int l), (2, .int s)]) (st' := [.ref 1826, .int l]) rfl ?_
    refine G_get (i := 387) (ci := 13) (k := 19) (v := .int 0) rfl rfl (s8_1826 c0) rfl ?_
    show am_G at_P at_cl at_ty _ mt_272 9 [(0, .ref 1826), (1, .int l), (2, .int s)] [.int 0, .int l] _ _
    refine G_ps 1 (pc' := if l < 0 then 15 else 12) (l' := [(0, .ref 1826), (1, .int l), (2, .int s)]) (st' := []) rfl ?_
    by_cases hc2 : l < 0
    · rw [if_pos hc2]
      exfalso
      simp only [Int32.lt_iff_toInt_lt, Int32.le_iff_toInt_le, show (0 : Int32).toInt = 0 by decide] at hc1 hc2
      omega
    · rw [if_neg hc2]
      refine G_ps 1 (pc' := 14) (l' := [(0, .ref 1826), (1, .int l), (2, .int s)]) (st' := [.int (-101)]) rfl ?_
      refine G_ret rfl rfl rfl ?_
      exact ⟨by simp [F_unk, *], rfl, by simp, by simp⟩
end
