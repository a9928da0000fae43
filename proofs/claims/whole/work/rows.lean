section
/-! THE SMALL MACHINE: bytecode over a store of numbered cells. A reference is the number of a cell. Everything later is said of its runs. -/
/-- what a cell holds: an array (type of its places, how many, what they hold at first, what was laid since, the newest first) or an object (number of its class, its fields) -/
abbrev am_E : Type := (FieldType × Nat × Value × List (Nat × Value)) ⊕ (Nat × List Value)
/-- a cell: how many slots it counts; what it holds, if that is known -/
abbrev am_C : Type := Nat × Option am_E
/-- a store: the cell of number 0 (the script), how many others there are, these (1, 2 ..), the newest first -/
abbrev am_S : Type := am_C × Nat × List am_C
def am_nth (S : am_S) : Nat → Option am_C
  | 0 => some S.1
  | k + 1 => if k < S.2.1 then S.2.2[S.2.1 - 1 - k]? else none
def am_set (S : am_S) (a : Nat) (x : am_C) : am_S := (S.1, S.2.1, S.2.2.set (S.2.1 - a) x)
def am_add (S : am_S) (x : am_C) : am_S := (S.1, S.2.1 + 1, x :: S.2.2)
def am_len (S : am_S) : Nat := S.2.1 + 1
theorem am_nth_lt {S : am_S} {k : Nat} {x : am_C} (h : am_nth S (k + 1) = some x) : k < S.2.1 ∧ S.2.2[S.2.1 - 1 - k]? = some x := by
  have h : (if k < S.2.1 then S.2.2[S.2.1 - 1 - k]? else none) = some x := h
  by_cases e : k < S.2.1
  · rw [if_pos e] at h
    exact ⟨e, h⟩
  · rw [if_neg e] at h
    cases h
theorem am_nth_set {S : am_S} {k : Nat} {x0 : am_C} (x : am_C) (h : am_nth S (k + 1) = some x0) (j : Nat) : am_nth (am_set S (k + 1) x) (j + 1) = if j = k then some x else am_nth S (j + 1) := by
  obtain ⟨h1, h2⟩ := am_nth_lt h
  have h3 : S.2.1 - 1 - k < S.2.2.length := (List.getElem?_eq_some_iff.mp h2).1
  show (if j < S.2.1 then (S.2.2.set (S.2.1 - (k + 1)) x)[S.2.1 - 1 - j]? else none) = if j = k then some x else (if j < S.2.1 then S.2.2[S.2.1 - 1 - j]? else none)
  have e : S.2.1 - (k + 1) = S.2.1 - 1 - k := by omega
  rw [e]
  by_cases hj : j < S.2.1
  · rw [if_pos hj, if_pos hj]
    by_cases hk : j = k
    · subst hk
      rw [if_pos rfl, List.getElem?_set_self h3]
    · rw [if_neg hk, List.getElem?_set_ne (by omega)]
  · rw [if_neg hj, if_neg hj, if_neg (by omega)]
theorem am_nth_add (S : am_S) (x : am_C) (j : Nat) : am_nth (am_add S x) (j + 1) = if j = S.2.1 then some x else am_nth S (j + 1) := by
  show (if j < S.2.1 + 1 then (x :: S.2.2)[S.2.1 + 1 - 1 - j]? else none) = if j = S.2.1 then some x else (if j < S.2.1 then S.2.2[S.2.1 - 1 - j]? else none)
  by_cases h : j = S.2.1
  · subst h
    rw [if_pos (Nat.lt_succ_self _), if_pos rfl, show S.2.1 + 1 - 1 - S.2.1 = 0 by omega]
    rfl
  · rw [if_neg h]
    by_cases h2 : j < S.2.1
    · rw [if_pos (by omega), if_pos h2, show S.2.1 + 1 - 1 - j = (S.2.1 - 1 - j) + 1 by omega]
      rfl
    · rw [if_neg (by omega), if_neg h2]
/-- the locals that are known -/
abbrev am_L : Type := List (Nat × Value)
/-- what a method's entries name: fields read (entry, class, place), fields written, classes made (entry, class), classes whose arrays are made (entry, name), numbers (entry, value), methods called (entry, which) -/
abbrev am_T : Type := (List (Nat × Nat × Nat)) × (List (Nat × Nat × Nat)) × (List (Nat × Nat)) × (List (Nat × String)) × (List (Nat × Value)) × (List (Nat × Nat))
/-- a method: its name, code, locals, answer's type, table, instructions, how many parameters, its class -/
abbrev am_M : Type := MethodName × ByteArray × Nat × Option FieldType × am_T × (List (Nat × Instr × Nat)) × Nat × Nat
def am_find {α : Type} (k : Nat) : List (Nat × α) → Option α
  | [] => none
  | q :: l => bif Nat.beq q.1 k then some q.2 else am_find k l
theorem am_find_cons {α : Type} (k : Nat) (q : Nat × α) (l : List (Nat × α)) : am_find k (q :: l) = if q.1 = k then some q.2 else am_find k l := by
  show (bif Nat.beq q.1 k then some q.2 else am_find k l) = _
  by_cases e : q.1 = k
  · have h : Nat.beq q.1 k = true := by
      rw [e]
      exact Nat.beq_refl k
    rw [if_pos e, h]
    rfl
  · rw [if_neg e]
    have h : Nat.beq q.1 k = false := by
      cases h : Nat.beq q.1 k
      · rfl
      · exact absurd (Nat.eq_of_beq_eq_true h) e
    rw [h]
    rfl
theorem am_find_mem {α : Type} {k : Nat} {v : α} : ∀ {l : List (Nat × α)}, am_find k l = some v → (k, v) ∈ l
  | [], h => by simp [am_find] at h
  | q :: l, h => by
    rw [am_find_cons] at h
    by_cases e : q.1 = k
    · rw [if_pos e] at h
      cases h
      rw [← e]
      exact List.mem_cons_self
    · rw [if_neg e] at h
      exact List.mem_cons_of_mem _ (am_find_mem h)
/-- a local is laid -/
def am_st1 (i : Nat) (v : Value) (l : am_L) : am_L := (i, v) :: l.filter (fun q => !(q.1 == i) && !(q.1 + 1 == i && q.2.category == 2))
def am_st2 (i : Nat) (v : Value) (l : am_L) : am_L := (i, v) :: l.filter (fun q => !(q.1 == i) && (!(q.1 == i + 1) && !(q.1 + 1 == i && q.2.category == 2)))
def am_tgt (pc : Nat) (off : Int) : Option Nat := match (pc : Int) + off with
  | .ofNat t => some t
  | .negSucc _ => none
theorem am_tgt_of {pc t : Nat} {off : Int} (h : am_tgt pc off = some t) : (pc : Int) + off = (t : Int) := by
  unfold am_tgt at h
  split at h
  · rename_i t' e
    cases h
    exact e
  · cases h
/-- what an array holds -/
def am_fn (d : Value) (u : List (Nat × Value)) : Nat → Value := fun j => match am_find j u with
  | some v => v
  | none => d
theorem am_fn_nil (d : Value) : am_fn d [] = fun _ => d := rfl
theorem am_fn_cons (d : Value) (k : Nat) (v : Value) (u : List (Nat × Value)) : am_fn d ((k, v) :: u) = updV (am_fn d u) k v := by
  funext j
  unfold am_fn updV
  rw [am_find_cons]
  by_cases h : j = k
  · rw [if_pos h.symm, if_pos h]
  · rw [if_neg (fun q => h q.symm), if_neg h]
/-- an array's place is laid. The cell of number 0 (the script) is never written -/
def am_seta (S : am_S) (a : Nat) (i : Int32) (ty : FieldType) (v : Value) : Option am_S := match a, am_nth S a with
  | 0, _ => none
  | a + 1, some (z, some (.inl (t, n, d, u))) => if t = ty ∧ ¬ (i < 0 ∨ n ≤ i.toNatClampNeg) then some (am_set S (a + 1) (z, some (.inl (t, n, d, (i.toNatClampNeg, v) :: u)))) else none
  | _, _ => none
def am_geta (S : am_S) (a : Nat) (i : Int32) (ty : FieldType) : Option Value := match am_nth S a with
  | some (_, some (.inl (t, n, d, u))) => if t = ty ∧ ¬ (i < 0 ∨ n ≤ i.toNatClampNeg) then some (am_fn d u i.toNatClampNeg) else none
  | _ => none
end
section
/-! the machine's steps that touch no store, and what they are on the JVM's machine -/
/-- a reference's number becomes its address -/
def am_cv (ad : Nat → Nat) : Value → Value
  | .ref k => .ref (ad k)
  | v => v
theorem am_cv_cat (ad : Nat → Nat) (v : Value) : (am_cv ad v).category = v.category := by cases v <;> rfl
def am_cl (ad : Nat → Nat) (l : am_L) : am_L := l.map (fun q => (q.1, am_cv ad q.2))
def am_geti (i : Nat) (l : am_L) : Option Int32 := match am_find i l with
  | some (.int x) => some x
  | _ => none
def am_getl (i : Nat) (l : am_L) : Option Int64 := match am_find i l with
  | some (.long x) => some x
  | _ => none
def am_geta' (i : Nat) (l : am_L) : Option Nat := match am_find i l with
  | some (.ref x) => some x
  | _ => none
theorem am_cl_mem {ad : Nat → Nat} {l : am_L} {i : Nat} {v : Value} (h : am_find i l = some v) : (i, am_cv ad v) ∈ am_cl ad l := List.mem_map.mpr ⟨(i, v), am_find_mem h, rfl⟩
theorem am_geti_of {ad : Nat → Nat} {ls : Array Slot} {nL i : Nat} {l : am_L} {x : Int32} (hl : lv_has ls nL (am_cl ad l)) (h : am_geti i l = some x) : ls[i]? = some (.val (.int x)) := by
  unfold am_geti at h
  split at h
  · rename_i e
    cases h
    exact hl.2.2 _ (am_cl_mem e)
  · cases h
theorem am_getl_of {ad : Nat → Nat} {ls : Array Slot} {nL i : Nat} {l : am_L} {x : Int64} (hl : lv_has ls nL (am_cl ad l)) (h : am_getl i l = some x) : ls[i]? = some (.val (.long x)) := by
  unfold am_getl at h
  split at h
  · rename_i e
    cases h
    exact hl.2.2 _ (am_cl_mem e)
  · cases h
theorem am_geta'_of {ad : Nat → Nat} {ls : Array Slot} {nL i : Nat} {l : am_L} {x : Nat} (hl : lv_has ls nL (am_cl ad l)) (h : am_geta' i l = some x) : ls[i]? = some (.val (.ref (ad x))) := by
  unfold am_geta' at h
  split at h
  · rename_i e
    cases h
    exact hl.2.2 _ (am_cl_mem e)
  · cases h
theorem am_geti_at {ad : Nat → Nat} {i : Nat} {l : am_L} {x : Int32} (h : am_geti i l = some x) : ∃ j : Nat, (am_cl ad l)[j]? = some (i, .int x) := by
  unfold am_geti at h
  split at h
  · rename_i e
    cases h
    exact List.getElem?_of_mem (am_cl_mem (ad := ad) e)
  · cases h
theorem am_st1_cv (ad : Nat → Nat) (i : Nat) (v : Value) (l : am_L) : (i, am_cv ad v) :: (am_cl ad l).filter (fun q => !(q.1 == i) && !(q.1 + 1 == i && q.2.category == 2)) = am_cl ad (am_st1 i v l) := by
  unfold am_st1 am_cl
  rw [List.map_cons, List.filter_map]
  congr 2
  apply List.filter_congr
  intro q _
  simp [Function.comp, am_cv_cat]
theorem am_st2_cv (ad : Nat → Nat) (i : Nat) (v : Value) (l : am_L) : (i, am_cv ad v) :: (am_cl ad l).filter (fun q => !(q.1 == i) && (!(q.1 == i + 1) && !(q.1 + 1 == i && q.2.category == 2))) = am_cl ad (am_st2 i v l) := by
  unfold am_st2 am_cl
  rw [List.map_cons, List.filter_map]
  congr 2
  apply List.filter_congr
  intro q _
  simp [Function.comp, am_cv_cat]
def am_pure (nL : Nat) (ins : Instr) (len pc : Nat) (l : am_L) (st : List Value) : Option (Nat × am_L × List Value) := match ins, len, st with
  | .iconst n, 1, st => some (pc + 1, l, .int (Int32.ofInt n) :: st)
  | .bipush n, 2, st => some (pc + 2, l, .int (Int8.ofInt n).toInt32 :: st)
  | .sipush n, 3, st => some (pc + 3, l, .int (Int16.ofInt n).toInt32 :: st)
  | .lconst n, 1, st => some (pc + 1, l, .long (Int64.ofNat n.val) :: st)
  | .iload_n i, 1, st => (am_geti i.val l).map fun x => (pc + 1, l, .int x :: st)
  | .iload i, 2, st => (am_geti i l).map fun x => (pc + 2, l, .int x :: st)
  | .lload_n i, 1, st => (am_getl i.val l).map fun x => (pc + 1, l, .long x :: st)
  | .lload i, 2, st => (am_getl i l).map fun x => (pc + 2, l, .long x :: st)
  | .aload_n i, 1, st => (am_geta' i.val l).map fun x => (pc + 1, l, .ref x :: st)
  | .aload i, 2, st => (am_geta' i l).map fun x => (pc + 2, l, .ref x :: st)
  | .istore_n i, 1, .int x :: st => if i.val < nL then some (pc + 1, am_st1 i.val (.int x) l, st) else none
  | .istore i, 2, .int x :: st => if i < nL then some (pc + 2, am_st1 i (.int x) l, st) else none
  | .astore_n i, 1, .ref x :: st => if i.val < nL then some (pc + 1, am_st1 i.val (.ref x) l, st) else none
  | .astore i, 2, .ref x :: st => if i < nL then some (pc + 2, am_st1 i (.ref x) l, st) else none
  | .lstore_n i, 1, .long x :: st => if i.val + 1 < nL then some (pc + 1, am_st2 i.val (.long x) l, st) else none
  | .lstore i, 2, .long x :: st => if i + 1 < nL then some (pc + 2, am_st2 i (.long x) l, st) else none
  | .iinc i n, 3, st => if i < nL then (am_geti i l).map fun x => (pc + 3, am_st1 i (.int (x + Int32.ofInt n)) l, st) else none
  | .iadd, 1, .int y :: .int x :: st => some (pc + 1, l, .int (x + y) :: st)
  | .isub, 1, .int y :: .int x :: st => some (pc + 1, l, .int (x - y) :: st)
  | .imul, 1, .int y :: .int x :: st => some (pc + 1, l, .int (x * y) :: st)
  | .iand, 1, .int y :: .int x :: st => some (pc + 1, l, .int (x &&& y) :: st)
  | .ior, 1, .int y :: .int x :: st => some (pc + 1, l, .int (x ||| y) :: st)
  | .ixor, 1, .int y :: .int x :: st => some (pc + 1, l, .int (x ^^^ y) :: st)
  | .ishl, 1, .int y :: .int x :: st => some (pc + 1, l, .int (x <<< (y &&& 31)) :: st)
  | .ishr, 1, .int y :: .int x :: st => some (pc + 1, l, .int (x >>> (y &&& 31)) :: st)
  | .idiv, 1, .int y :: .int x :: st => if y = 0 then none else some (pc + 1, l, .int (x / y) :: st)
  | .irem, 1, .int y :: .int x :: st => if y = 0 then none else some (pc + 1, l, .int (x - x / y * y) :: st)
  | .iushr, 1, .int y :: .int x :: st => some (pc + 1, l, .int (x.toUInt32 >>> (y.toUInt32 &&& Int32.toUInt32 31)).toInt32 :: st)
  | .ladd, 1, .long y :: .long x :: st => some (pc + 1, l, .long (x + y) :: st)
  | .lsub, 1, .long y :: .long x :: st => some (pc + 1, l, .long (x - y) :: st)
  | .lmul, 1, .long y :: .long x :: st => some (pc + 1, l, .long (x * y) :: st)
  | .land, 1, .long y :: .long x :: st => some (pc + 1, l, .long (x &&& y) :: st)
  | .lor, 1, .long y :: .long x :: st => some (pc + 1, l, .long (x ||| y) :: st)
  | .lxor, 1, .long y :: .long x :: st => some (pc + 1, l, .long (x ^^^ y) :: st)
  | .lshl, 1, .int y :: .long x :: st => some (pc + 1, l, .long (x <<< (y.toInt64 &&& 63)) :: st)
  | .lshr, 1, .int y :: .long x :: st => some (pc + 1, l, .long (x >>> (y.toInt64 &&& 63)) :: st)
  | .lushr, 1, .int y :: .long x :: st => some (pc + 1, l, .long ((x.toUInt64 >>> (y.toInt64.toUInt64 &&& Int64.toUInt64 63)).toInt64) :: st)
  | .lcmp, 1, .long y :: .long x :: st => some (pc + 1, l, .int (lg_cmp x y) :: st)
  | .i2l, 1, .int x :: st => some (pc + 1, l, .long x.toInt64 :: st)
  | .l2i, 1, .long x :: st => some (pc + 1, l, .int x.toInt32 :: st)
  | .i2b, 1, .int x :: st => some (pc + 1, l, .int x.toInt8.toInt32 :: st)
  | .dup, 1, v :: st => if v.category = 1 then some (pc + 1, l, v :: v :: st) else none
  | .pop, 1, v :: st => if v.category = 1 then some (pc + 1, l, st) else none
  | .dup2, 1, v :: w :: st => if v.category = 1 ∧ w.category = 1 then some (pc + 1, l, v :: w :: v :: w :: st) else none
  | .ifCond .ne off, 3, .int x :: st => (am_tgt pc off).map fun t => (if x = 0 then pc + 3 else t, l, st)
  | .if_icmp .ne off, 3, .int y :: .int x :: st => (am_tgt pc off).map fun t => (if x = y then pc + 3 else t, l, st)
  | .ifCond .eq off, 3, .int x :: st => (am_tgt pc off).map fun t => (if x = 0 then t else pc + 3, l, st)
  | .ifCond .lt off, 3, .int x :: st => (am_tgt pc off).map fun t => (if x < 0 then t else pc + 3, l, st)
  | .ifCond .ge off, 3, .int x :: st => (am_tgt pc off).map fun t => (if 0 ≤ x then t else pc + 3, l, st)
  | .ifCond .gt off, 3, .int x :: st => (am_tgt pc off).map fun t => (if 0 < x then t else pc + 3, l, st)
  | .ifCond .le off, 3, .int x :: st => (am_tgt pc off).map fun t => (if x ≤ 0 then t else pc + 3, l, st)
  | .if_icmp .eq off, 3, .int y :: .int x :: st => (am_tgt pc off).map fun t => (if x = y then t else pc + 3, l, st)
  | .if_icmp .lt off, 3, .int y :: .int x :: st => (am_tgt pc off).map fun t => (if x < y then t else pc + 3, l, st)
  | .if_icmp .ge off, 3, .int y :: .int x :: st => (am_tgt pc off).map fun t => (if y ≤ x then t else pc + 3, l, st)
  | .if_icmp .gt off, 3, .int y :: .int x :: st => (am_tgt pc off).map fun t => (if y < x then t else pc + 3, l, st)
  | .if_icmp .le off, 3, .int y :: .int x :: st => (am_tgt pc off).map fun t => (if x ≤ y then t else pc + 3, l, st)
  | .goto off, 3, st => (am_tgt pc off).map fun t => (t, l, st)
  | .tableswitch dflt lo hi offs, _, .int x :: st => if x.toInt < lo ∨ hi < x.toInt then (am_tgt pc dflt).map fun t => (t, l, st) else match offs.toList[(x.toInt - lo).toNat]? with | some off => (am_tgt pc off).map fun t => (t, l, st) | none => none
  | .lookupswitch dflt ps, _, .int x :: st => if (ps.toList.zip (ps.toList.drop 1)).all (fun (a, next) => a.1 < next.1) = true then (am_tgt pc (Op.lookupswitch.offset ps.toList dflt x.toInt)).map fun t => (t, l, st) else none
  | _, _, _ => none
section AMP
variable {p : Program} {l0 : Launch} {e : Env} {R : Room} {s : State} {m : MethodId} {args : Array Value} {below : List Frame} {meth : Method} {c : Code} {H : Heap} {locs : List Loc} {cells slots : Nat} {Q : State → Prop}
set_option maxHeartbeats 4000000 in
set_option maxRecDepth 100000 in
theorem am_pure_ok {ad : Nat → Nat} {cc : ByteArray} (hx : p.tables.exec = Jvm.exec) (hb : c.code = cc) {nL : Nat} {ins : Instr} {len pc : Nat} {l : am_L} {st : List Value} {pc' : Nat} {l' : am_L} {st' : List Value} (hd : decode cc pc = .ok (ins, len)) (h : am_pure nL ins len pc l st = some (pc', l', st')) {ls : Array Slot} (hl : lv_has ls nL (am_cl ad l))
    (k : ∀ ls' : Array Slot, lv_has ls' nL (am_cl ad l') → W p l0 e R s m args below meth c H locs cells slots Q (F0 m pc' ls' (st'.map (am_cv ad)))) : W p l0 e R s m args below meth c H locs cells slots Q (F0 m pc ls (st.map (am_cv ad))) := by
  unfold am_pure at h
  split at h
  · cases h; exact lv_iconst hx hb hd rfl (k _ hl)
  · cases h; exact lv_bipush hx hb hd rfl (k _ hl)
  · cases h; exact lv_sipush hx hb hd rfl (k _ hl)
  · cases h; exact lv_lconst hx hb hd rfl (k _ hl)
  · obtain ⟨x, hg, e⟩ := Option.map_eq_some_iff.mp h; cases e; exact lv_iload_n hx hb hd rfl (am_geti_of hl hg) (k _ hl)
  · obtain ⟨x, hg, e⟩ := Option.map_eq_some_iff.mp h; cases e; exact lv_iload hx hb hd (am_geti_of hl hg) (k _ hl)
  · obtain ⟨x, hg, e⟩ := Option.map_eq_some_iff.mp h; cases e; exact lv_lload_n hx hb hd rfl (am_getl_of hl hg) (k _ hl)
  · obtain ⟨x, hg, e⟩ := Option.map_eq_some_iff.mp h; cases e; exact lv_lload hx hb hd (am_getl_of hl hg) (k _ hl)
  · obtain ⟨x, hg, e⟩ := Option.map_eq_some_iff.mp h; cases e; exact lv_aload_n hx hb hd rfl (am_geta'_of hl hg) (k _ hl)
  · obtain ⟨x, hg, e⟩ := Option.map_eq_some_iff.mp h; cases e; exact lv_aload hx hb hd (am_geta'_of hl hg) (k _ hl)
  · split at h
    · rename_i hn; cases h; exact lv_istore_n hx hb hd rfl hl hn (am_st1_cv ad _ (.int _) _) (fun ls h2 => k _ h2)
    · cases h
  · split at h
    · rename_i hn; cases h; exact lv_istore hx hb hd hl hn (am_st1_cv ad _ (.int _) _) (fun ls h2 => k _ h2)
    · cases h
  · split at h
    · rename_i hn; cases h; exact lv_astore_n hx hb hd rfl hl hn (am_st1_cv ad _ (.ref _) _) (fun ls h2 => k _ h2)
    · cases h
  · split at h
    · rename_i hn; cases h; exact lv_astore hx hb hd hl hn (am_st1_cv ad _ (.ref _) _) (fun ls h2 => k _ h2)
    · cases h
  · split at h
    · rename_i hn; cases h; exact lv_lstore_n hx hb hd rfl hl hn (am_st2_cv ad _ (.long _) _) (fun ls h2 => k _ h2)
    · cases h
  · split at h
    · rename_i hn; cases h; exact lv_lstore hx hb hd hl hn (am_st2_cv ad _ (.long _) _) (fun ls h2 => k _ h2)
    · cases h
  · split at h
    · rename_i hn; obtain ⟨x, hg, e⟩ := Option.map_eq_some_iff.mp h; cases e; obtain ⟨j, hj⟩ := am_geti_at (ad := ad) hg; exact lv_iinc hx hb hd hl hj rfl hn (am_st1_cv ad _ (.int _) _) (fun ls h2 => k _ h2)
    · cases h
  · cases h; exact lv_iadd hx hb hd (k _ hl)
  · cases h; exact lv_isub hx hb hd (k _ hl)
  · cases h; exact lv_imul hx hb hd (k _ hl)
  · cases h; exact lv_iand hx hb hd (k _ hl)
  · cases h; exact lv_ior hx hb hd (k _ hl)
  · cases h; exact lv_ixor hx hb hd (k _ hl)
  · cases h; exact lv_ishl hx hb hd (k _ hl)
  · cases h; exact lv_ishr hx hb hd (k _ hl)
  · split at h
    · cases h
    · rename_i hn; cases h; exact lv_idiv hx hb hd hn (k _ hl)
  · split at h
    · cases h
    · rename_i hn; cases h; exact lv_irem hx hb hd hn (k _ hl)
  · cases h; exact lv_iushr hx hb hd rfl (k _ hl)
  · cases h; exact lv_ladd hx hb hd (k _ hl)
  · cases h; exact lv_lsub hx hb hd (k _ hl)
  · cases h; exact lv_lmul hx hb hd (k _ hl)
  · cases h; exact lv_land hx hb hd (k _ hl)
  · cases h; exact lv_lor hx hb hd (k _ hl)
  · cases h; exact lv_lxor hx hb hd (k _ hl)
  · cases h; exact lv_lshl hx hb hd rfl (k _ hl)
  · cases h; exact lv_lshr hx hb hd rfl (k _ hl)
  · cases h; exact lv_lushr hx hb hd rfl (k _ hl)
  · cases h; exact W.lcmp hx hb hd (k _ hl)
  · cases h; exact lv_i2l hx hb hd rfl (k _ hl)
  · cases h; exact lv_l2i hx hb hd rfl (k _ hl)
  · cases h; exact lv_i2b hx hb hd rfl (k _ hl)
  · split at h
    · rename_i hv; cases h; exact lv_dup hx hb hd ((am_cv_cat ad _).trans hv) (k _ hl)
    · cases h
  · split at h
    · rename_i hv; cases h; exact lv_pop hx hb hd ((am_cv_cat ad _).trans hv) (k _ hl)
    · cases h
  · split at h
    · rename_i hv; cases h; exact lv_dup2_11 hx hb hd ((am_cv_cat ad _).trans hv.1) ((am_cv_cat ad _).trans hv.2) (k _ hl)
    · cases h
  · obtain ⟨t, ht, e⟩ := Option.map_eq_some_iff.mp h; cases e; exact lv_if_ne hx hb hd (am_tgt_of ht) (fun cc9 => by have k9 := k _ hl; rw [if_neg cc9] at k9; exact k9) (fun cc9 => by have k9 := k _ hl; rw [if_pos cc9] at k9; exact k9)
  · obtain ⟨t, ht, e⟩ := Option.map_eq_some_iff.mp h; cases e; exact lv_icmp_ne hx hb hd (am_tgt_of ht) (fun cc9 => by have k9 := k _ hl; rw [if_neg cc9] at k9; exact k9) (fun cc9 => by have k9 := k _ hl; rw [if_pos cc9] at k9; exact k9)
  · obtain ⟨t, ht, e⟩ := Option.map_eq_some_iff.mp h; cases e; exact lv_if_eq hx hb hd (am_tgt_of ht) (fun cc9 => by have k9 := k _ hl; rw [if_pos cc9] at k9; exact k9) (fun cc9 => by have k9 := k _ hl; rw [if_neg cc9] at k9; exact k9)
  · obtain ⟨t, ht, e⟩ := Option.map_eq_some_iff.mp h; cases e; exact lv_if_lt hx hb hd (am_tgt_of ht) (fun cc9 => by have k9 := k _ hl; rw [if_pos cc9] at k9; exact k9) (fun cc9 => by have k9 := k _ hl; rw [if_neg cc9] at k9; exact k9)
  · obtain ⟨t, ht, e⟩ := Option.map_eq_some_iff.mp h; cases e; exact lv_if_ge hx hb hd (am_tgt_of ht) (fun cc9 => by have k9 := k _ hl; rw [if_pos cc9] at k9; exact k9) (fun cc9 => by have k9 := k _ hl; rw [if_neg cc9] at k9; exact k9)
  · obtain ⟨t, ht, e⟩ := Option.map_eq_some_iff.mp h; cases e; exact lv_if_gt hx hb hd (am_tgt_of ht) (fun cc9 => by have k9 := k _ hl; rw [if_pos cc9] at k9; exact k9) (fun cc9 => by have k9 := k _ hl; rw [if_neg cc9] at k9; exact k9)
  · obtain ⟨t, ht, e⟩ := Option.map_eq_some_iff.mp h; cases e; exact lv_if_le hx hb hd (am_tgt_of ht) (fun cc9 => by have k9 := k _ hl; rw [if_pos cc9] at k9; exact k9) (fun cc9 => by have k9 := k _ hl; rw [if_neg cc9] at k9; exact k9)
  · obtain ⟨t, ht, e⟩ := Option.map_eq_some_iff.mp h; cases e; exact lv_icmp_eq hx hb hd (am_tgt_of ht) (fun cc9 => by have k9 := k _ hl; rw [if_pos cc9] at k9; exact k9) (fun cc9 => by have k9 := k _ hl; rw [if_neg cc9] at k9; exact k9)
  · obtain ⟨t, ht, e⟩ := Option.map_eq_some_iff.mp h; cases e; exact lv_icmp_lt hx hb hd (am_tgt_of ht) (fun cc9 => by have k9 := k _ hl; rw [if_pos cc9] at k9; exact k9) (fun cc9 => by have k9 := k _ hl; rw [if_neg cc9] at k9; exact k9)
  · obtain ⟨t, ht, e⟩ := Option.map_eq_some_iff.mp h; cases e; exact lv_icmp_ge hx hb hd (am_tgt_of ht) (fun cc9 => by have k9 := k _ hl; rw [if_pos cc9] at k9; exact k9) (fun cc9 => by have k9 := k _ hl; rw [if_neg cc9] at k9; exact k9)
  · obtain ⟨t, ht, e⟩ := Option.map_eq_some_iff.mp h; cases e; exact lv_icmp_gt hx hb hd (am_tgt_of ht) (fun cc9 => by have k9 := k _ hl; rw [if_pos cc9] at k9; exact k9) (fun cc9 => by have k9 := k _ hl; rw [if_neg cc9] at k9; exact k9)
  · obtain ⟨t, ht, e⟩ := Option.map_eq_some_iff.mp h; cases e; exact lv_icmp_le hx hb hd (am_tgt_of ht) (fun cc9 => by have k9 := k _ hl; rw [if_pos cc9] at k9; exact k9) (fun cc9 => by have k9 := k _ hl; rw [if_neg cc9] at k9; exact k9)
  · obtain ⟨t, ht, e⟩ := Option.map_eq_some_iff.mp h; cases e; exact lv_goto hx hb hd (am_tgt_of ht) (k _ hl)
  · split at h
    · rename_i hc; obtain ⟨t, ht, e⟩ := Option.map_eq_some_iff.mp h; cases e; exact lv_tableOut hx hb hd hc (am_tgt_of ht) (k _ hl)
    · rename_i hc
      split at h
      · rename_i off ho; obtain ⟨t, ht, e⟩ := Option.map_eq_some_iff.mp h; cases e; exact lv_tableIn hx hb hd (fun q => hc (Or.inl q)) (fun q => hc (Or.inr q)) (by rw [← Array.getElem?_toList]; exact ho) (am_tgt_of ht) (k _ hl)
      · cases h
  · split at h
    · rename_i hc; obtain ⟨t, ht, e⟩ := Option.map_eq_some_iff.mp h; cases e; exact lv_lookup hx hb hd hc rfl (am_tgt_of ht) (k _ hl)
    · cases h
  · cases h
end AMP
end
section
/-! THE STORE ON THE JVM's HEAP: cell 0 is the law's script (at b), cell k + 1 is the k-th cell made since the heap Hb -/
def am_ad (b base : Nat) : Nat → Nat
  | 0 => b
  | k + 1 => base + k
theorem am_ad_inj {b base : Nat} (hb : b < base) : ∀ {i j : Nat}, am_ad b base i = am_ad b base j → i = j
  | 0, 0, _ => rfl
  | 0, j + 1, h => by
    have h : b = base + j := h
    omega
  | i + 1, 0, h => by
    have h : base + i = b := h
    omega
  | i + 1, j + 1, h => by
    have h : base + i = base + j := h
    omega
/-- what a cell is on the heap -/
def am_at (D : va_G) (cl : List vw_C) (ad : Nat → Nat) (s : State) (a : Nat) (x : am_E) (H : Heap) : Prop := match x with
  | .inl (ty, n, d, u) => ∃ cA : ClassId, (ArrOfT s cA ty ∧ va_RA s cA ty) ∧ H[a]? = some (arrV cA n (fun j => am_cv ad (am_fn d u j)))
  | .inr (ci, fs) => ∃ r : vw_C, cl[ci]? = some r ∧ fs.length = r.2.2 ∧ t_OB a (D.1 ci) r.2.2 (D.2 ci) H (fun k => am_cv ad (vp_V fs k))
theorem am_at.kept {D : va_G} {cl : List vw_C} {ad : Nat → Nat} {s : State} {a : Nat} {x : am_E} {H H1 : Heap} (h : am_at D cl ad s a x H) (e : H1[a]? = H[a]?) : am_at D cl ad s a x H1 := by
  cases x with
  | inl q =>
    obtain ⟨ty, n, d, u⟩ := q
    obtain ⟨cA, h1, h2⟩ := h
    exact ⟨cA, h1, by rw [e]; exact h2⟩
  | inr q =>
    obtain ⟨ci, fs⟩ := q
    obtain ⟨r, h1, h2, h3⟩ := h
    exact ⟨r, h1, h2, h3.kept e⟩
theorem am_at.moved {D : va_G} {cl : List vw_C} {ad : Nat → Nat} {s t : State} {a : Nat} {x : am_E} {H : Heap} (hvm : s.vm.Alike t.vm) (h : am_at D cl ad s a x H) : am_at D cl ad t a x H := by
  cases x with
  | inl q =>
    obtain ⟨ty, n, d, u⟩ := q
    obtain ⟨cA, h1, h2⟩ := h
    exact ⟨cA, ⟨arrOfT_moved hvm h1.1, h1.2.moved hvm⟩, h2⟩
  | inr q =>
    obtain ⟨ci, fs⟩ := q
    exact h
/-- the store S on the heap H: what was there stays; the script; the cells made -/
def am_R (D : va_G) (cl : List vw_C) (b : Nat) (Hb : Heap) (S : am_S) (s : State) (H : Heap) : Prop :=
  b < Hb.size ∧ H.size = Hb.size + S.2.1 ∧ (∀ q : Nat, q < Hb.size → H[q]? = Hb[q]?) ∧
  (∃ (L : Nat) (xs : Nat → Int32), (S.1 = (0, none) ∨ ∃ u, S.1 = (L, some (.inl (.int, L, .int 0, u))) ∧ ∀ j, j < L → am_fn (.int 0) u j = .int (xs j)) ∧ va_X b L xs s H) ∧
  ∀ (k z : Nat) (x : am_E), am_nth S (k + 1) = some (z, some x) → am_at D cl (am_ad b Hb.size) s (Hb.size + k) x H
theorem am_R.moved {D : va_G} {cl : List vw_C} {b : Nat} {Hb : Heap} {S : am_S} {s t : State} {H : Heap} (hvm : s.vm.Alike t.vm) (h : am_R D cl b Hb S s H) : am_R D cl b Hb S t H := by
  obtain ⟨h1, h2, h3, ⟨L, xs, h4, h5⟩, h6⟩ := h
  exact ⟨h1, h2, h3, ⟨L, xs, h4, h5.moved hvm⟩, fun k z x hk => (h6 k z x hk).moved hvm⟩
/-- an array is read -/
theorem am_R.arr {D : va_G} {cl : List vw_C} {b : Nat} {Hb : Heap} {S : am_S} {s : State} {H : Heap} (h : am_R D cl b Hb S s H) {k z n : Nat} {ty : FieldType} {d : Value} {u : List (Nat × Value)} (hk : am_nth S k = some (z, some (.inl (ty, n, d, u)))) :
    ∃ cell : Cell, H[am_ad b Hb.size k]? = some cell ∧ s.isArrayOf cell ty ∧ cell.vm ≠ .unknown ∧ cell.slots.size = n ∧ ∀ j : Nat, j < n → cell.slots[j]? = some (am_cv (am_ad b Hb.size) (am_fn d u j)) := by
  obtain ⟨h1, h2, h3, ⟨L, xs, h4, scr, q1, q2, q3, q4, q5⟩, h6⟩ := h
  cases k with
  | zero =>
    have hk : some S.1 = some (z, some (.inl (ty, n, d, u))) := hk
    rcases h4 with h4 | ⟨u', h4, h7⟩
    · rw [h4] at hk
      cases hk
    · rw [h4] at hk
      cases hk
      exact ⟨scr, q1, q2, q3, q4, fun j hj => by rw [q5 j hj, h7 j hj]; rfl⟩
  | succ k =>
    obtain ⟨cA, ⟨e1, -⟩, e2⟩ := h6 k z _ hk
    exact ⟨_, e2, e1 n _, (fun q => by cases q), arrV_size _ _ _, (fun j hj => arrV_read _ _ hj)⟩
/-- one cell that was made is written -/
theorem am_R.put {D : va_G} {cl : List vw_C} {b : Nat} {Hb : Heap} {S : am_S} {s : State} {H H1 : Heap} (h : am_R D cl b Hb S s H) {k z : Nat} {x0 x : am_E} (hk : am_nth S (k + 1) = some (z, some x0)) (hx : am_at D cl (am_ad b Hb.size) s (Hb.size + k) x H1) (hz : H1.size = H.size) (ho : ∀ q : Nat, q ≠ Hb.size + k → H1[q]? = H[q]?) :
    am_R D cl b Hb (am_set S (k + 1) (z, some x)) s H1 := by
  obtain ⟨h1, h2, h3, ⟨L, xs, h4, h5⟩, h6⟩ := h
  refine ⟨h1, by rw [hz]; exact h2, fun q hq => (ho q (by omega)).trans (h3 q hq), ⟨L, xs, h4, h5.kept (ho b (by omega))⟩, fun j z' y hj => ?_⟩
  rw [am_nth_set _ hk] at hj
  by_cases e : j = k
  · subst e
    rw [if_pos rfl] at hj
    cases hj
    exact hx
  · rw [if_neg e] at hj
    exact (h6 j z' y hj).kept (ho _ (by omega))
/-- a cell is made -/
theorem am_R.new {D : va_G} {cl : List vw_C} {b : Nat} {Hb : Heap} {S : am_S} {s : State} {H H1 : Heap} (h : am_R D cl b Hb S s H) {z : Nat} {x : Option am_E} (hx : ∀ y, x = some y → am_at D cl (am_ad b Hb.size) s H.size y H1) (hz : H1.size = H.size + 1) (ho : ∀ q : Nat, q < H.size → H1[q]? = H[q]?) :
    am_R D cl b Hb (am_add S (z, x)) s H1 ∧ am_ad b Hb.size (am_len S) = H.size := by
  obtain ⟨h1, h2, h3, ⟨L, xs, h4, h5⟩, h6⟩ := h
  refine ⟨⟨h1, by show H1.size = Hb.size + (S.2.1 + 1); omega, fun q hq => (ho q (by omega)).trans (h3 q hq), ⟨L, xs, h4, h5.kept (ho b (by omega))⟩, fun j z' y hj => ?_⟩, ?_⟩
  · rw [am_nth_add] at hj
    by_cases e : j = S.2.1
    · rw [if_pos e] at hj
      cases hj
      have e3 : Hb.size + j = H.size := by omega
      rw [e3]
      exact hx _ rfl
    · rw [if_neg e] at hj
      have := (am_nth_lt hj).1
      exact (h6 j z' y hj).kept (ho _ (by omega))
  · show Hb.size + S.2.1 = H.size
    omega
theorem am_vpV_cv (ad : Nat → Nat) (fs : List Value) (k : Nat) (v : Value) (h : fs[k]? = some v) : am_cv ad (vp_V fs k) = am_cv ad v := by
  have : vp_V fs k = v := by
    unfold vp_V
    rw [List.getD_eq_getElem?_getD, h]
    rfl
  rw [this]
end
section
/-! the machine's steps that read or write the store -/
def am_getf (S : am_S) (a ci k : Nat) : Option Value := match am_nth S a with
  | some (_, some (.inr (cj, fs))) => if cj = ci then fs[k]? else none
  | _ => none
/-- what may be laid into a field of a type -/
def am_okv : FieldType → Value → Bool
  | .int, .int _ => true
  | .boolean, .int x => x == 0 || x == 1
  | .long, .long _ => true
  | .object _, .ref _ => true
  | .array _, .ref _ => true
  | _, _ => false
theorem am_okv_of {ad : Nat → Nat} {ty : FieldType} {v : Value} (h : am_okv ty v = true) : narrow ty (am_cv ad v) = am_cv ad v ∧ fits ty (am_cv ad v) = true := by
  unfold am_okv at h
  split at h
  · exact ⟨rfl, rfl⟩
  · rename_i x
    simp only [Bool.or_eq_true, beq_iff_eq] at h
    rcases h with h | h
    · subst h
      show narrow .boolean (.int 0) = .int 0 ∧ fits .boolean (.int 0) = true
      decide
    · subst h
      show narrow .boolean (.int 1) = .int 1 ∧ fits .boolean (.int 1) = true
      decide
  · exact ⟨rfl, rfl⟩
  · exact ⟨rfl, rfl⟩
  · exact ⟨rfl, rfl⟩
  · cases h
theorem am_updV_cv (ad : Nat → Nat) {fs : List Value} {k : Nat} (hk : k < fs.length) (v : Value) (j : Nat) : updV (fun q => am_cv ad (vp_V fs q)) k (am_cv ad v) j = am_cv ad (vp_V (fs.set k v) j) := by
  rw [← vp_updV_set hk v j]
  by_cases h : j = k
  · subst h
    simp [updV]
  · simp [updV, h]
/-- an object in the store -/
theorem am_R.obj {D : va_G} {cl : List vw_C} {b : Nat} {Hb : Heap} {S : am_S} {s : State} {H : Heap} (h : am_R D cl b Hb S s H) {a z ci : Nat} {fs : List Value} (ha : am_nth S a = some (z, some (.inr (ci, fs)))) :
    ∃ (j : Nat) (r : vw_C), a = j + 1 ∧ am_nth S (j + 1) = some (z, some (.inr (ci, fs))) ∧ cl[ci]? = some r ∧ fs.length = r.2.2 ∧ t_OB (Hb.size + j) (D.1 ci) r.2.2 (D.2 ci) H (fun k => am_cv (am_ad b Hb.size) (vp_V fs k)) := by
  obtain ⟨h1, h2, h3, ⟨L, xs, h4, h5⟩, h6⟩ := h
  cases a with
  | zero =>
    have ha : some S.1 = some (z, some (.inr (ci, fs))) := ha
    rcases h4 with h4 | ⟨u', h4, h7⟩
    · rw [h4] at ha
      cases ha
    · rw [h4] at ha
      cases ha
  | succ j =>
    obtain ⟨r, e1, e2, e3⟩ := h6 j z _ ha
    exact ⟨j, r, rfl, ha, e1, e2, e3⟩
/-- what the tables say of a class: its words are there; its fields' types; its fields' names differ -/
def am_Cls (Ts : List Cond) (cl : List vw_C) (tyL : List (List FieldType)) : Prop := ∀ (ci : Nat) (r : vw_C), cl[ci]? = some r → (∀ w ∈ u_ws r.1 r.2.1 r.2.2, w ∈ Ts) ∧ (∃ tys : List FieldType, tyL[ci]? = some tys ∧ tys.length = r.2.2 ∧ ∀ k, k < r.2.2 → parseFieldDescriptor (r.2.1 k).2.2.1 = some (tys.getD k .int)) ∧ (∀ a, a < r.2.2 → ∀ b, b < r.2.2 → a ≠ b → (r.2.1 a).2.1 ≠ (r.2.1 b).2.1) ∧ Cond.instantiable r.1 r.2.2 ∈ Ts ∧ Cond.initialized r.1 ∈ Ts
section AMH
variable {p : Program} {l0 : Launch} {e : Env} {R : Room} {s : State} {m : MethodId} {args : Array Value} {below : List Frame} {meth : Method} {c : Code} {H : Heap} {locs : List Loc} {cells slots : Nat} {Q : State → Prop}
variable {cc : ByteArray} {pc : Nat} {ls : Array Slot} {rest : List Value} {D : va_G} {cl : List vw_C} {tyL : List (List FieldType)} {b : Nat} {Hb : Heap} {S : am_S} {own : String} {Ts : List Cond}
set_option maxHeartbeats 1000000 in
theorem am_get_ok (hx : p.tables.exec = Jvm.exec) (hb : c.code = cc) (hts : ∀ w ∈ Ts, w.before args s = true) (hC : am_Cls Ts cl tyL) (hown : s.vm.findClass own = some m.cls) (hK : va_K D cl [] s) (hR : am_R D cl b Hb S s H) {r : vw_C} {i ci k a : Nat} (hc : cl[ci]? = some r) (hk : k < r.2.2) (hlink : Cond.fieldLink own i (r.2.1 k).1 (r.2.1 k).2.1 (r.2.1 k).2.2.1 ∈ Ts) {v : Value} (hv : am_getf S a ci k = some v) (hd : decode cc pc = .ok (.getfield i, 3))
    (kk : W p l0 e R s m args below meth c H locs cells slots Q (F0 m (pc + 3) ls (am_cv (am_ad b Hb.size) v :: rest))) : W p l0 e R s m args below meth c H locs cells slots Q (F0 m pc ls (.ref (am_ad b Hb.size a) :: rest)) := by
  unfold am_getf at hv
  split at hv
  · rename_i z cj fs hS
    split at hv
    · rename_i hci
      subst hci
      obtain ⟨j, r', rfl, hS2, h1, h2, cell, q1, q2, q3, q4⟩ := hR.obj hS
      have hr : r' = r := Option.some.inj (h1.symm.trans hc)
      subst hr
      obtain ⟨hin, -⟩ := hC _ _ hc
      obtain ⟨hSl, hfc, kC, hkC, hkind⟩ := hK.1 _ _ hc
      obtain ⟨cf, kf, fi, f, hi, hsl⟩ := hSl k hk
      refine W.getf hx hb hown (hts _ hlink) hi (u_facts hfc hkC (u_lays hts hin hk) hi).1 q1 (by rw [q3]; exact fun h => by cases h) (v := am_cv (am_ad b Hb.size) v) ?_ rfl rfl hd kk
      rw [hsl, q4 k hk]
      exact congrArg some (am_vpV_cv _ _ _ _ hv)
    · cases hv
  · cases hv
set_option maxHeartbeats 1000000 in
theorem am_put_ok (hx : p.tables.exec = Jvm.exec) (hb : c.code = cc) (hts : ∀ w ∈ Ts, w.before args s = true) (hC : am_Cls Ts cl tyL) (hown : s.vm.findClass own = some m.cls) (hK : va_K D cl [] s) (hR : am_R D cl b Hb S s H) (hL : ∀ q ∈ locs, Hb.size ≤ q.base) {r : vw_C} {i ci k a : Nat} {tys : List FieldType} (hc : cl[ci]? = some r) (hk : k < r.2.2) (hty : tyL[ci]? = some tys) (hlink : Cond.fieldLink own i (r.2.1 k).1 (r.2.1 k).2.1 (r.2.1 k).2.2.1 ∈ Ts) (hfin : (r.2.1 k).2.2.2 = false ∨ (meth.name = "<init>" ∧ (r.2.1 k).1 = own)) {v : Value} (hv : am_okv (tys.getD k .int) v = true) {z : Nat} {fs : List Value} (hS : am_nth S a = some (z, some (.inr (ci, fs)))) (hd : decode cc pc = .ok (.putfield i, 3))
    (kk : ∀ (H1 : Heap) (locs1 : List Loc), am_R D cl b Hb (am_set S a (z, some (.inr (ci, fs.set k v)))) s H1 → (∀ q ∈ locs1, Hb.size ≤ q.base) → W p l0 e R s m args below meth c H1 locs1 cells slots Q (F0 m (pc + 3) ls rest)) : W p l0 e R s m args below meth c H locs cells slots Q (F0 m pc ls (am_cv (am_ad b Hb.size) v :: .ref (am_ad b Hb.size a) :: rest)) := by
  obtain ⟨j, r', rfl, hS2, h1, h2, cell, q1, q2, q3, q4⟩ := hR.obj hS
  have hr : r' = r := Option.some.inj (h1.symm.trans hc)
  subst hr
  obtain ⟨hin, ⟨tys', hty', htl, htd⟩, hnm, -⟩ := hC _ _ hc
  have ht : tys' = tys := Option.some.inj (hty'.symm.trans hty)
  subst ht
  have hap := va_apart (own := own) (ty := fun k => tys'.getD k .int) hts hin htd hnm hK hc
  obtain ⟨hSl, hfc, kC, hkC, hkind⟩ := hK.1 _ _ hc
  obtain ⟨cf, kf, fi, f, hi, hsl⟩ := hSl k hk
  have hst := (u_facts hfc hkC (u_lays hts hin hk) hi).1
  obtain ⟨hn, hfit⟩ := am_okv_of (ad := am_ad b Hb.size) hv
  have hlt : f.slot < cell.slots.size := by rw [hsl]; exact k2_hasslot (q4 k hk)
  have go : ∀ H' : Heap, H'[Hb.size + j]? = some (cell.setSlot f.slot (am_cv (am_ad b Hb.size) v)) → H'.size = H.size → (∀ q, q ≠ Hb.size + j → H'[q]? = H[q]?) → W p l0 e R s m args below meth c H' (locs ++ [⟨Hb.size + j, f.slot⟩]) cells slots Q (F0 m (pc + 3) ls rest) := by
    intro H' e1 e2 e3
    refine kk H' _ (hR.put hS2 ⟨r', hc, by rw [List.length_set]; exact h2, ?_⟩ e2 e3) ?_
    · refine ⟨_, e1, q2, q3, fun k' hk' => ?_⟩
      rw [hsl]
      have h9 := t_set q4 hap hk (am_cv (am_ad b Hb.size) v) k' hk'
      rw [h9, am_updV_cv (am_ad b Hb.size) (show k < fs.length by rw [h2]; exact hk) v k']
    · intro q hq
      rcases List.mem_append.mp hq with h | h
      · exact hL q h
      · rw [List.mem_singleton.mp h]
        exact Nat.le_add_right _ _
  rcases hfin with hfin | ⟨hin2, hdecl⟩
  · by_cases hF : (r'.2.1 k).2.2.2 = true
    · rw [hF] at hfin; cases hfin
    · have hlay := hts _ (hin _ (u_in_lay hk))
      unfold u_lay at hlay
      rw [if_neg hF] at hlay
      have h6 := u_store hfc hkC hkind hlay hi (htd k hk) hn hfit
      exact W.putK hx hb (f := f) ⟨hown, hts _ hlink, ⟨_, _, _, hi⟩, hst⟩ (by rw [q2]; exact h6) q1 q3 hlt rfl rfl hd go
  · by_cases hF : (r'.2.1 k).2.2.2 = true
    · have hlay := hts _ (hin _ (u_in_lay hk))
      unfold u_lay at hlay
      rw [if_pos hF] at hlay
      have hcf : m.cls = cf := by
        obtain ⟨_, _, c', _, _, _, -, -, hf', -, -, -, hown2, -⟩ := Cond.laysFinal_spec hlay
        have e1 : c' = cf := by have := hi.symm.trans hf'; simp at this; exact this.1.symm
        rw [hdecl] at hown2
        rw [← e1]; exact Option.some.inj (hown.symm.trans hown2)
      have h6 := u_fits hfc hkC hkind (Or.inr hlay) hi (htd k hk) hn hfit
      exact W.putFinK hx hb hown (hts _ hlink) hi hst hcf hin2 (by rw [q2]; exact h6) q1 q3 hlt rfl rfl hd go
    · have hlay := hts _ (hin _ (u_in_lay hk))
      unfold u_lay at hlay
      rw [if_neg hF] at hlay
      have h6 := u_store hfc hkC hkind hlay hi (htd k hk) hn hfit
      exact W.putK hx hb (f := f) ⟨hown, hts _ hlink, ⟨_, _, _, hi⟩, hst⟩ (by rw [q2]; exact h6) q1 q3 hlt rfl rfl hd go
end AMH
end
section
/-! cells that are made; arrays -/
theorem am_cv_def (ad : Nat → Nat) (ty : FieldType) : am_cv ad (defaultValue ty) = defaultValue ty := by cases ty <;> rfl
theorem am_updA_cv (ad : Nat → Nat) (f : Nat → Value) (k : Nat) (v : Value) : updV (fun j => am_cv ad (f j)) k (am_cv ad v) = fun j => am_cv ad (updV f k v j) := by
  funext j
  by_cases h : j = k
  · simp [updV, h]
  · simp [updV, h]
theorem am_arr_fits {n : Nat} {i : Int32} {cell : Cell} (h : ¬ (i < 0 ∨ n ≤ i.toNatClampNeg)) (hn : cell.slots.size = n) : ¬ (i < 0 ∨ cell.slots.size ≤ i.toNatClampNeg) := by rw [hn]; exact h
section AMN
variable {p : Program} {l0 : Launch} {e : Env} {R : Room} {s : State} {m : MethodId} {args : Array Value} {below : List Frame} {meth : Method} {c : Code} {H : Heap} {locs : List Loc} {cells slots : Nat} {Q : State → Prop}
variable {cc : ByteArray} {pc : Nat} {ls : Array Slot} {rest : List Value} {D : va_G} {cl : List vw_C} {tyL : List (List FieldType)} {b : Nat} {Hb : Heap} {S : am_S} {own : String} {Ts : List Cond}
set_option maxHeartbeats 1000000 in
theorem am_new_ok (hx : p.tables.exec = Jvm.exec) (hb : c.code = cc) (hts : ∀ w ∈ Ts, w.before args s = true) (hC : am_Cls Ts cl tyL) (hown : s.vm.findClass own = some m.cls) (hK : va_K D cl [] s) (hR : am_R D cl b Hb S s H) {r : vw_C} {i ci : Nat} {tys : List FieldType} (hc : cl[ci]? = some r) (hty : tyL[ci]? = some tys) (hlink : Cond.classLink own i r.1 ∈ Ts) (hcells : cells + 1 ≤ R.cells) (hslots : slots + tys.length ≤ R.slots) (hd : decode cc pc = .ok (.new i, 3))
    (kk : ∀ H1 : Heap, am_R D cl b Hb (am_add S (tys.length, some (.inr (ci, tys.map defaultValue)))) s H1 → W p l0 e R s m args below meth c H1 locs (cells + 1) (slots + tys.length) Q (F0 m (pc + 3) ls (.ref (am_ad b Hb.size (am_len S)) :: rest))) : W p l0 e R s m args below meth c H locs cells slots Q (F0 m pc ls rest) := by
  obtain ⟨hin, ⟨tys', hty', htl, htd⟩, hnm, hins, hini⟩ := hC _ _ hc
  have ht : tys' = tys := Option.some.inj (hty'.symm.trans hty)
  subst ht
  have hKn := hK.1 ci _ hc
  rw [htl] at kk hslots
  refine W.newcK hx hb hown (hts _ hlink) (hts _ hins) (hts _ hini) rfl hd hcells hslots hKn.2.1 rfl fun H1 kC hkC e1 z1 o1 => ?_
  obtain ⟨h1, h2⟩ := hR.new (z := r.2.2) (x := some (.inr (ci, tys'.map defaultValue))) (H1 := H1) (fun y hy => by
    cases hy
    refine ⟨r, hc, by rw [List.length_map]; exact htl, (u_born (fun k => tys'.getD k .int) hts hin hKn hkC e1 htd).to fun k hk => ?_⟩
    have hk' : k < tys'.length := by omega
    show defaultValue (tys'.getD k .int) = am_cv _ (vp_V (tys'.map defaultValue) k)
    rw [am_vpV_cv _ _ k (defaultValue (tys'.getD k .int)) (by simp [hk']), am_cv_def]) z1 o1
  have h3 := kk H1 h1
  rw [h2] at h3
  exact h3
set_option maxHeartbeats 1000000 in
theorem am_newa_ok (hx : p.tables.exec = Jvm.exec) (hb : c.code = cc) (hts : ∀ w ∈ Ts, w.before args s = true) (hR : am_R D cl b Hb S s H) {at' : ArrayType} (hlink : Cond.arrayClass (newarray.typeOf at') ∈ Ts) {n : Int32} (hn : ¬ n < 0) (hbytes : n.toNatClampNeg * componentBytes (newarray.typeOf at') ≤ 536870912) (hcells : cells + 1 ≤ R.cells) (hslots : slots + n.toNatClampNeg ≤ R.slots) (hd : decode cc pc = .ok (.newarray at', 2))
    (kk : ∀ H1 : Heap, am_R D cl b Hb (am_add S (n.toNatClampNeg, some (.inl (newarray.typeOf at', n.toNatClampNeg, defaultValue (newarray.typeOf at'), [])))) s H1 → W p l0 e R s m args below meth c H1 locs (cells + 1) (slots + n.toNatClampNeg) Q (F0 m (pc + 2) ls (.ref (am_ad b Hb.size (am_len S)) :: rest))) : W p l0 e R s m args below meth c H locs cells slots Q (F0 m pc ls (.int n :: rest)) := by
  refine va_newaK hx hb (hts _ hlink) rfl hd rfl hn rfl hbytes hcells hslots rfl fun H1 cA e1 z1 o1 hAr hNm => ?_
  obtain ⟨h1, h2⟩ := hR.new (z := n.toNatClampNeg) (x := some (.inl (newarray.typeOf at', n.toNatClampNeg, defaultValue (newarray.typeOf at'), []))) (H1 := H1) (fun y hy => by
    cases hy
    refine ⟨cA, ⟨hAr, by cases at' <;> exact hNm⟩, ?_⟩
    rw [e1]
    congr 2
    funext j
    exact (am_cv_def _ _).symm) z1 o1
  have h3 := kk H1 h1
  rw [h2] at h3
  exact h3
set_option maxHeartbeats 1000000 in
theorem am_newq_ok (hx : p.tables.exec = Jvm.exec) (hb : c.code = cc) (hts : ∀ w ∈ Ts, w.before args s = true) (hown : s.vm.findClass own = some m.cls) (hR : am_R D cl b Hb S s H) {C : String} {i : Nat} (hlink : Cond.classLink own i C ∈ Ts) (hover : va_AO C s) {n : Int32} (hn : ¬ n < 0) (hbytes : n.toNatClampNeg * 4 ≤ 536870912) (hcells : cells + 1 ≤ R.cells) (hslots : slots + n.toNatClampNeg ≤ R.slots) (hd : decode cc pc = .ok (.anewarray i, 3))
    (kk : ∀ H1 : Heap, am_R D cl b Hb (am_add S (n.toNatClampNeg, some (.inl (.object C, n.toNatClampNeg, .null, [])))) s H1 → W p l0 e R s m args below meth c H1 locs (cells + 1) (slots + n.toNatClampNeg) Q (F0 m (pc + 3) ls (.ref (am_ad b Hb.size (am_len S)) :: rest))) : W p l0 e R s m args below meth c H locs cells slots Q (F0 m pc ls (.int n :: rest)) := by
  refine W.anew hx hb hown (hts _ hlink) (va_AO.use hover) rfl hd rfl hn hbytes hcells hslots fun cA kA comp f1 f2 f3 f4 => ?_
  generalize hH1 : H.push ({ cls := cA, slots := Array.replicate n.toNatClampNeg .null, vm := .none } : Cell) = H1
  have z1 : H1.size = H.size + 1 := by rw [← hH1, Array.size_push]
  have e1 : H1[H.size]? = some (arrV cA n.toNatClampNeg (fun _ => .null)) := by rw [← hH1, Array.getElem?_push_size, ← arrV_new]
  have o1 : ∀ q : Nat, q < H.size → H1[q]? = H[q]? := fun q hq => by rw [← hH1, Array.getElem?_push, if_neg (Nat.ne_of_lt hq)]
  have hAr : ArrOfT s cA (.object C) := fun N z => ⟨(fun k h => by cases h), kA, f2, comp, f3⟩
  obtain ⟨h1, h2⟩ := hR.new (z := n.toNatClampNeg) (x := some (.inl (.object C, n.toNatClampNeg, .null, []))) (H1 := H1) (fun y hy => by
    cases hy
    exact ⟨cA, ⟨hAr, kA, comp, f2, f3, f4, f1⟩, e1⟩) z1 o1
  have h3 := kk H1 h1
  rw [h2] at h3
  exact h3
/-- what am_geta gives is on the heap -/
theorem am_geta_cell (hR : am_R D cl b Hb S s H) {a : Nat} {i : Int32} {ty : FieldType} {v : Value} (h : am_geta S a i ty = some v) : ∃ cell : Cell, H[am_ad b Hb.size a]? = some cell ∧ s.isArrayOf cell ty ∧ cell.vm ≠ .unknown ∧ ¬ (i < 0 ∨ cell.slots.size ≤ i.toNatClampNeg) ∧ cell.slots[i.toNatClampNeg]? = some (am_cv (am_ad b Hb.size) v) := by
  unfold am_geta at h
  split at h
  · rename_i z t n dv u hS
    split at h
    · rename_i hc
      obtain ⟨rfl, hc⟩ := hc
      cases h
      obtain ⟨cell, q1, q2, q3, q4, q5⟩ := hR.arr hS
      exact ⟨cell, q1, q2, q3, am_arr_fits hc q4, q5 _ (Nat.not_le.mp fun q => hc (Or.inr q))⟩
    · cases h
  · cases h
theorem am_iald_ok (hx : p.tables.exec = Jvm.exec) (hb : c.code = cc) (hR : am_R D cl b Hb S s H) {a : Nat} {i : Int32} {v : Value} (h : am_geta S a i .int = some v) (hd : decode cc pc = .ok (.iaload, 1)) (kk : W p l0 e R s m args below meth c H locs cells slots Q (F0 m (pc + 1) ls (am_cv (am_ad b Hb.size) v :: rest))) : W p l0 e R s m args below meth c H locs cells slots Q (F0 m pc ls (.int i :: .ref (am_ad b Hb.size a) :: rest)) := by
  obtain ⟨cell, q1, q2, q3, q4, q5⟩ := am_geta_cell hR h
  exact W.iald hx hb q1 q2 q3 q4 q5 rfl rfl hd kk
theorem am_lald_ok (hx : p.tables.exec = Jvm.exec) (hb : c.code = cc) (hR : am_R D cl b Hb S s H) {a : Nat} {i : Int32} {v : Value} (h : am_geta S a i .long = some v) (hd : decode cc pc = .ok (.laload, 1)) (kk : W p l0 e R s m args below meth c H locs cells slots Q (F0 m (pc + 1) ls (am_cv (am_ad b Hb.size) v :: rest))) : W p l0 e R s m args below meth c H locs cells slots Q (F0 m pc ls (.int i :: .ref (am_ad b Hb.size a) :: rest)) := by
  obtain ⟨cell, q1, q2, q3, q4, q5⟩ := am_geta_cell hR h
  exact W.lald hx hb q1 q2 q3 q4 q5 rfl rfl hd kk
theorem am_bald_ok (hx : p.tables.exec = Jvm.exec) (hb : c.code = cc) (hR : am_R D cl b Hb S s H) {a : Nat} {i : Int32} {v : Value} (h : am_geta S a i .byte = some v) (hd : decode cc pc = .ok (.baload, 1)) (kk : W p l0 e R s m args below meth c H locs cells slots Q (F0 m (pc + 1) ls (am_cv (am_ad b Hb.size) v :: rest))) : W p l0 e R s m args below meth c H locs cells slots Q (F0 m pc ls (.int i :: .ref (am_ad b Hb.size a) :: rest)) := by
  obtain ⟨cell, q1, q2, q3, q4, q5⟩ := am_geta_cell hR h
  exact W.bald hx hb q1 q2 q3 q4 q5 rfl rfl hd kk
theorem am_zald_ok (hx : p.tables.exec = Jvm.exec) (hb : c.code = cc) (hR : am_R D cl b Hb S s H) {a : Nat} {i : Int32} {v : Value} (h : am_geta S a i .boolean = some v) (hd : decode cc pc = .ok (.baload, 1)) (kk : W p l0 e R s m args below meth c H locs cells slots Q (F0 m (pc + 1) ls (am_cv (am_ad b Hb.size) v :: rest))) : W p l0 e R s m args below meth c H locs cells slots Q (F0 m pc ls (.int i :: .ref (am_ad b Hb.size a) :: rest)) := by
  obtain ⟨cell, q1, q2, q3, q4, q5⟩ := am_geta_cell hR h
  exact W.zald hx hb q1 q2 q3 q4 q5 rfl rfl hd kk
theorem am_aald_ok (hx : p.tables.exec = Jvm.exec) (hb : c.code = cc) (hR : am_R D cl b Hb S s H) {a : Nat} {i : Int32} {C : String} {v : Value} (h : am_geta S a i (.object C) = some v) (hd : decode cc pc = .ok (.aaload, 1)) (kk : W p l0 e R s m args below meth c H locs cells slots Q (F0 m (pc + 1) ls (am_cv (am_ad b Hb.size) v :: rest))) : W p l0 e R s m args below meth c H locs cells slots Q (F0 m pc ls (.int i :: .ref (am_ad b Hb.size a) :: rest)) := by
  obtain ⟨cell, q1, q2, q3, q4, q5⟩ := am_geta_cell hR h
  exact W.aald hx hb q1 q2 rfl q3 q4 q5 rfl rfl hd kk
theorem am_alen_ok (hx : p.tables.exec = Jvm.exec) (hb : c.code = cc) (hR : am_R D cl b Hb S s H) {a z n : Nat} {ty : FieldType} {dv : Value} {u : List (Nat × Value)} (hS : am_nth S a = some (z, some (.inl (ty, n, dv, u)))) (hd : decode cc pc = .ok (.arraylength, 1)) (kk : W p l0 e R s m args below meth c H locs cells slots Q (F0 m (pc + 1) ls (.int (Int32.ofNat n) :: rest))) : W p l0 e R s m args below meth c H locs cells slots Q (F0 m pc ls (.ref (am_ad b Hb.size a) :: rest)) := by
  obtain ⟨cell, q1, q2, q3, q4, q5⟩ := hR.arr hS
  exact W.alen hx hb q1 q2 (by rw [q4]) rfl rfl hd kk
theorem am_locs_put {locs : List Loc} {Hb : Heap} {j k : Nat} (hL : ∀ q ∈ locs, Hb.size ≤ q.base) : ∀ q ∈ locs ++ [(⟨Hb.size + j, k⟩ : Loc)], Hb.size ≤ q.base := by
  intro q hq
  rcases List.mem_append.mp hq with h | h
  · exact hL q h
  · rw [List.mem_singleton.mp h]
    exact Nat.le_add_right _ _
/-- an array's place is written: what is left of it -/
theorem am_arr_put {H1 : Heap} (hR : am_R D cl b Hb S s H) {j z n : Nat} {ty : FieldType} {dv : Value} {u : List (Nat × Value)} {cA : ClassId} {k : Nat} {v : Value} (hS : am_nth S (j + 1) = some (z, some (.inl (ty, n, dv, u)))) (hA : ArrOfT s cA ty ∧ va_RA s cA ty) (e1 : H1[Hb.size + j]? = some ((arrV cA n (fun q => am_cv (am_ad b Hb.size) (am_fn dv u q))).setSlot k (am_cv (am_ad b Hb.size) v))) (z1 : H1.size = H.size) (o1 : ∀ q, q ≠ Hb.size + j → H1[q]? = H[q]?) : am_R D cl b Hb (am_set S (j + 1) (z, some (.inl (ty, n, dv, (k, v) :: u)))) s H1 := by
  refine hR.put hS ⟨cA, hA, ?_⟩ z1 o1
  rw [e1, arrV_store, am_updA_cv, am_fn_cons]
end AMN
end
section
/-! arrays are written; System.arraycopy of ints -/
theorem am_seta_of {S S' : am_S} {a : Nat} {i : Int32} {ty : FieldType} {v : Value} (h : am_seta S a i ty v = some S') : ∃ (j z n : Nat) (dv : Value) (u : List (Nat × Value)), a = j + 1 ∧ am_nth S (j + 1) = some (z, some (.inl (ty, n, dv, u))) ∧ ¬ (i < 0 ∨ n ≤ i.toNatClampNeg) ∧ S' = am_set S (j + 1) (z, some (.inl (ty, n, dv, (i.toNatClampNeg, v) :: u))) := by
  unfold am_seta at h
  split at h
  · cases h
  · rename_i a' z t n dv u hS
    split at h
    · rename_i hc
      obtain ⟨rfl, hc⟩ := hc
      cases h
      exact ⟨a', z, n, dv, u, rfl, hS, hc, rfl⟩
    · cases h
  · cases h
theorem am_R.made {D : va_G} {cl : List vw_C} {b : Nat} {Hb : Heap} {S : am_S} {s : State} {H : Heap} (h : am_R D cl b Hb S s H) {j z n : Nat} {ty : FieldType} {dv : Value} {u : List (Nat × Value)} (hS : am_nth S (j + 1) = some (z, some (.inl (ty, n, dv, u)))) : ∃ cA : ClassId, (ArrOfT s cA ty ∧ va_RA s cA ty) ∧ H[Hb.size + j]? = some (arrV cA n (fun q => am_cv (am_ad b Hb.size) (am_fn dv u q))) := h.2.2.2.2 j z _ hS
/-- n places of f from sp on, laid from dp on -/
def am_cpy (f : Nat → Value) (sp dp n : Nat) (u : List (Nat × Value)) : List (Nat × Value) := (List.range n).map (fun q => (dp + q, f (sp + q))) ++ u
theorem am_find_app {α : Type} (k : Nat) : ∀ (a b : List (Nat × α)), am_find k (a ++ b) = match am_find k a with | some v => some v | none => am_find k b
  | [], b => rfl
  | q :: a, b => by
    rw [List.cons_append, am_find_cons, am_find_cons]
    by_cases h : q.1 = k
    · rw [if_pos h, if_pos h]
    · rw [if_neg h, if_neg h]
      exact am_find_app k a b
theorem am_find_rng (f : Nat → Value) (k : Nat) : ∀ (l : List Nat) (sp dp : Nat), l.Nodup → am_find k (l.map (fun q => (dp + q, f (sp + q)))) = if dp ≤ k ∧ (k - dp) ∈ l then some (f (sp + (k - dp))) else none
  | [], sp, dp, _ => by
    rw [if_neg (fun h => by cases h.2)]
    rfl
  | q :: l, sp, dp, hn => by
    have hn := List.nodup_cons.mp hn
    rw [List.map_cons, am_find_cons, am_find_rng f k l sp dp hn.2]
    show (if dp + q = k then some (f (sp + q)) else _) = _
    by_cases h : dp + q = k
    · have e : k - dp = q := by omega
      rw [if_pos h, if_pos ⟨by omega, by rw [e]; exact List.mem_cons_self⟩, e]
    · rw [if_neg h]
      by_cases h2 : dp ≤ k ∧ (k - dp) ∈ l
      · rw [if_pos h2, if_pos ⟨h2.1, List.mem_cons_of_mem _ h2.2⟩]
      · rw [if_neg h2, if_neg (fun h3 => by
          rcases List.mem_cons.mp h3.2 with q1 | q1
          · omega
          · exact h2 ⟨h3.1, q1⟩)]
theorem am_cpy_fn (f : Nat → Value) (sp dp n : Nat) (dg : Value) (ug : List (Nat × Value)) : am_fn dg (am_cpy f sp dp n ug) = va_cpy f (am_fn dg ug) sp dp n := by
  funext k
  unfold am_cpy va_cpy
  show (match am_find k ((List.range n).map (fun q => (dp + q, f (sp + q))) ++ ug) with | some v => v | none => dg) = _
  rw [am_find_app, am_find_rng f k _ sp dp List.nodup_range]
  by_cases h : dp ≤ k ∧ k < dp + n
  · rw [if_pos ⟨h.1, List.mem_range.mpr (by omega)⟩, if_pos h]
  · rw [if_neg (fun q => h ⟨q.1, by have := List.mem_range.mp q.2; omega⟩), if_neg h]
    rfl
section AMA
variable {p : Program} {l0 : Launch} {e : Env} {R : Room} {s : State} {m : MethodId} {args : Array Value} {below : List Frame} {meth : Method} {c : Code} {H : Heap} {locs : List Loc} {cells slots : Nat} {Q : State → Prop}
variable {cc : ByteArray} {pc : Nat} {ls : Array Slot} {rest : List Value} {D : va_G} {cl : List vw_C} {tyL : List (List FieldType)} {b : Nat} {Hb : Heap} {S : am_S} {own : String} {Ts : List Cond}

theorem am_iast_ok (hx : p.tables.exec = Jvm.exec) (hb : c.code = cc) (hR : am_R D cl b Hb S s H) (hL : ∀ q ∈ locs, Hb.size ≤ q.base) {a : Nat} {i : Int32} {x : Int32} {S' : am_S} (h : am_seta S a i .int (.int x) = some S') (hd : decode cc pc = .ok (.iastore, 1)) (kk : ∀ (H1 : Heap) (locs1 : List Loc), am_R D cl b Hb S' s H1 → (∀ q ∈ locs1, Hb.size ≤ q.base) → W p l0 e R s m args below meth c H1 locs1 cells slots Q (F0 m (pc + 1) ls rest)) : W p l0 e R s m args below meth c H locs cells slots Q (F0 m pc ls (.int x :: .int i :: .ref (am_ad b Hb.size a) :: rest)) := by
  obtain ⟨j, z, n, dv, u, rfl, hS, hc, rfl⟩ := am_seta_of h
  obtain ⟨cA, hA, hcell⟩ := hR.made hS
  exact W.iast hx hb hcell (hA.1 n _) (fun q => by cases q) (am_arr_fits hc (arrV_size _ _ _)) rfl rfl hd fun H1 e1 z1 o1 => kk H1 _ (am_arr_put hR hS hA e1 z1 o1) (am_locs_put hL)
theorem am_last_ok (hx : p.tables.exec = Jvm.exec) (hb : c.code = cc) (hR : am_R D cl b Hb S s H) (hL : ∀ q ∈ locs, Hb.size ≤ q.base) {a : Nat} {i : Int32} {x : Int64} {S' : am_S} (h : am_seta S a i .long (.long x) = some S') (hd : decode cc pc = .ok (.lastore, 1)) (kk : ∀ (H1 : Heap) (locs1 : List Loc), am_R D cl b Hb S' s H1 → (∀ q ∈ locs1, Hb.size ≤ q.base) → W p l0 e R s m args below meth c H1 locs1 cells slots Q (F0 m (pc + 1) ls rest)) : W p l0 e R s m args below meth c H locs cells slots Q (F0 m pc ls (.long x :: .int i :: .ref (am_ad b Hb.size a) :: rest)) := by
  obtain ⟨j, z, n, dv, u, rfl, hS, hc, rfl⟩ := am_seta_of h
  obtain ⟨cA, hA, hcell⟩ := hR.made hS
  exact W.last hx hb hcell (hA.1 n _) (fun q => by cases q) (am_arr_fits hc (arrV_size _ _ _)) rfl rfl hd fun H1 e1 z1 o1 => kk H1 _ (am_arr_put hR hS hA e1 z1 o1) (am_locs_put hL)
theorem am_bast_ok (hx : p.tables.exec = Jvm.exec) (hb : c.code = cc) (hR : am_R D cl b Hb S s H) (hL : ∀ q ∈ locs, Hb.size ≤ q.base) {a : Nat} {i : Int32} {x : Int32} {S' : am_S} (h : am_seta S a i .byte (narrow .byte (.int x)) = some S') (hd : decode cc pc = .ok (.bastore, 1)) (kk : ∀ (H1 : Heap) (locs1 : List Loc), am_R D cl b Hb S' s H1 → (∀ q ∈ locs1, Hb.size ≤ q.base) → W p l0 e R s m args below meth c H1 locs1 cells slots Q (F0 m (pc + 1) ls rest)) : W p l0 e R s m args below meth c H locs cells slots Q (F0 m pc ls (.int x :: .int i :: .ref (am_ad b Hb.size a) :: rest)) := by
  obtain ⟨j, z, n, dv, u, rfl, hS, hc, rfl⟩ := am_seta_of h
  obtain ⟨cA, hA, hcell⟩ := hR.made hS
  exact W.bast hx hb hcell (hA.1 n _) (fun q => by cases q) (am_arr_fits hc (arrV_size _ _ _)) rfl rfl hd fun H1 e1 z1 o1 => kk H1 _ (am_arr_put hR hS hA e1 z1 o1) (am_locs_put hL)
theorem am_zast_ok (hx : p.tables.exec = Jvm.exec) (hb : c.code = cc) (hR : am_R D cl b Hb S s H) (hL : ∀ q ∈ locs, Hb.size ≤ q.base) {a : Nat} {i : Int32} {x : Int32} {S' : am_S} (h : am_seta S a i .boolean (narrow .boolean (.int x)) = some S') (hd : decode cc pc = .ok (.bastore, 1)) (kk : ∀ (H1 : Heap) (locs1 : List Loc), am_R D cl b Hb S' s H1 → (∀ q ∈ locs1, Hb.size ≤ q.base) → W p l0 e R s m args below meth c H1 locs1 cells slots Q (F0 m (pc + 1) ls rest)) : W p l0 e R s m args below meth c H locs cells slots Q (F0 m pc ls (.int x :: .int i :: .ref (am_ad b Hb.size a) :: rest)) := by
  obtain ⟨j, z, n, dv, u, rfl, hS, hc, rfl⟩ := am_seta_of h
  obtain ⟨cA, hA, hcell⟩ := hR.made hS
  exact W.zast hx hb hcell (hA.1 n _) (fun q => by cases q) (am_arr_fits hc (arrV_size _ _ _)) rfl rfl hd fun H1 e1 z1 o1 => kk H1 _ (am_arr_put hR hS hA e1 z1 o1) (am_locs_put hL)
/-- a reference to an object of the array's class is laid -/
theorem am_aast_ok (hx : p.tables.exec = Jvm.exec) (hb : c.code = cc) (hK : va_K D cl [] s) (hR : am_R D cl b Hb S s H) (hL : ∀ q ∈ locs, Hb.size ≤ q.base) {a v zv ci : Nat} {vs : List Value} {r : vw_C} {i : Int32} {S' : am_S} (hv : am_nth S v = some (zv, some (.inr (ci, vs)))) (hc : cl[ci]? = some r) (h : am_seta S a i (.object r.1) (.ref v) = some S') (hd : decode cc pc = .ok (.aastore, 1)) (kk : ∀ (H1 : Heap) (locs1 : List Loc), am_R D cl b Hb S' s H1 → (∀ q ∈ locs1, Hb.size ≤ q.base) → W p l0 e R s m args below meth c H1 locs1 cells slots Q (F0 m (pc + 1) ls rest)) : W p l0 e R s m args below meth c H locs cells slots Q (F0 m pc ls (.ref (am_ad b Hb.size v) :: .int i :: .ref (am_ad b Hb.size a) :: rest)) := by
  obtain ⟨j, z, n, dv, u, rfl, hS, hin, rfl⟩ := am_seta_of h
  obtain ⟨cA, hA, hcell⟩ := hR.made hS
  obtain ⟨jv, r', rfl, hv2, h1, h2, cellV, g1, g2, g3, -⟩ := hR.obj hv
  have hr : r' = r := Option.some.inj (h1.symm.trans hc)
  subst hr
  have hcls := (hK.1 ci r' hc).2
  obtain ⟨kA, comp, k1, k2, k3, -⟩ := hA.2
  have hcomp : comp = D.1 ci := Option.some.inj (k3.symm.trans hcls.1)
  subst hcomp
  obtain ⟨kC, hkC, -⟩ := hcls.2
  have hlt : i.toNatClampNeg < n := Nat.not_le.mp fun q => hin (Or.inr q)
  refine W.aast hx hb hcell (fun q h => by cases h) (fun h => by cases h) k1 k2 rfl hkC ⟨fun q => hin (Or.inl q), by show _ < (arrV _ _ _).slots.size; rw [arrV_size]; exact hlt⟩ g1 (fun q h => by rw [g3] at h; cases h) (by rw [g2]; exact hkC) (by rw [g2]; exact va_assign hcls) rfl rfl hd fun H1 e1 z1 o1 => ?_
  exact kk H1 _ (am_arr_put (v := .ref (jv + 1)) hR hS hA e1 z1 o1) (am_locs_put hL)
set_option maxHeartbeats 2000000 in
/-- System.arraycopy between two int arrays that were made (or one) -/
theorem am_copy_ok (hx : p.tables.exec = Jvm.exec) (hb : c.code = cc) (hts : ∀ w ∈ Ts, w.before args s = true) (hml : c.maxLocals = ls.size) (hown : s.vm.findClass own = some m.cls) {i : Nat} (hlink : Cond.methodLink own i arraycopyName ∈ Ts) (hnat : Cond.native arraycopyName ∈ Ts) (hstat : Cond.static arraycopyName ∈ Ts) (hini : Cond.initialized "java/lang/System" ∈ Ts) (hR : am_R D cl b Hb S s H) (hL : ∀ q ∈ locs, Hb.size ≤ q.base) {j0 j1 z0 z1 n0 n1 : Nat} {df dg : Value} {uf ug : List (Nat × Value)} (h0 : am_nth S (j0 + 1) = some (z0, some (.inl (.int, n0, df, uf)))) (h1 : am_nth S (j1 + 1) = some (z1, some (.inl (.int, n1, dg, ug)))) {sp dp n : Int32} (hsp : ¬ sp < 0) (hdp : ¬ dp < 0) (hn : ¬ n < 0) (hs : sp.toNatClampNeg + n.toNatClampNeg ≤ n0) (hd1 : dp.toNatClampNeg + n.toNatClampNeg ≤ n1) (hf : ∀ q, q < n.toNatClampNeg → ∃ x : Int32, am_fn df uf (sp.toNatClampNeg + q) = .int x) (hframes : 1 ≤ R.frames) (hlocals : (rest.map fun v => v.category).sum + (nativeFrameWords "java/lang/System" "arraycopy" 5 + 11) ≤ R.locals) (hdg : decode cc pc = .ok (.invokestatic i, 3))
    (kk : ∀ (H1 : Heap) (locs1 : List Loc), am_R D cl b Hb (am_set S (j1 + 1) (z1, some (.inl (.int, n1, dg, am_cpy (am_fn df uf) sp.toNatClampNeg dp.toNatClampNeg n.toNatClampNeg ug)))) s H1 → (∀ q ∈ locs1, Hb.size ≤ q.base) → W p l0 e R s m args below meth c H1 locs1 cells slots Q (F0 m (pc + 3) ls rest)) : W p l0 e R s m args below meth c H locs cells slots Q (F0 m pc ls (.int n :: .int dp :: .ref (Hb.size + j1) :: .int sp :: .ref (Hb.size + j0) :: rest)) := by
  have nn : ∀ z : Int32, ¬ z < 0 → z.toInt = (z.toNatClampNeg : Int) := by
    intro z hz
    have hz0 : (0 : Int) ≤ z.toInt := by
      have := Int32.not_lt.mp hz
      simpa using Int32.le_iff_toInt_le.mp this
    show z.toInt = ((z.toInt.toNat : Nat) : Int)
    omega
  obtain ⟨c0, hA0, hc0⟩ := hR.made h0
  obtain ⟨c1, hA1, hc1⟩ := hR.made h1
  intro T hT X
  obtain ⟨-, k0, hk0, cm0, hkk0⟩ := hA0.1 n0 (fun q => am_cv (am_ad b Hb.size) (am_fn df uf q))
  obtain ⟨-, k1, hk1, cm1, hkk1⟩ := hA1.1 n1 (fun q => am_cv (am_ad b Hb.size) (am_fn dg ug q))
  obtain ⟨vm', X', step⟩ := X.arraycopy hx hown (hts _ hlink) (hts _ hnat) (hts _ hstat) (hts _ hini) (src := Hb.size + j0) (dst := Hb.size + j1) (cs := arrV c0 n0 (fun q => am_cv (am_ad b Hb.size) (am_fn df uf q))) (cd := arrV c1 n1 (fun q => am_cv (am_ad b Hb.size) (am_fn dg ug q))) (srcPos := sp) (destPos := dp) (n := n) (by rw [hT]; exact hc0) (by rw [hT]; exact hc1)
    (fun _ h => by cases h) (fun _ h => by cases h) (fun h => by cases h) (fun h => by cases h) hk0 hk1 hkk0 hkk1 (by decide) hsp hdp hn
    (by rw [nn sp hsp, nn n hn, arrV_size]; omega)
    (by rw [nn dp hdp, nn n hn, arrV_size]; omega)
    (fun vm₁ _ q hq => by
      obtain ⟨x, hx9⟩ := hf q hq
      have e : (arrV c0 n0 (fun q => am_cv (am_ad b Hb.size) (am_fn df uf q))).slots.getD (sp.toNatClampNeg + q) .null = .int x := by
        rw [Array.getD_eq_getD_getElem?, arrV_read _ _ (by omega), hx9]
        rfl
      refine ⟨?_, ?_⟩
      · rw [e]
        rfl
      · rw [e]
        exact trivial)
    (g := F0 m pc ls (.int n :: .int dp :: .ref (Hb.size + j1) :: .int sp :: .ref (Hb.size + j0) :: rest)) rfl (by rw [hml]) (rest := rest) rfl (by rw [hb]; exact hdg) hframes (by show 2 * 0 + _ + _ ≤ _; omega)
  have e1 : copied (arrV c0 n0 (fun q => am_cv (am_ad b Hb.size) (am_fn df uf q))) (arrV c1 n1 (fun q => am_cv (am_ad b Hb.size) (am_fn dg ug q))) sp dp n = arrV c1 n1 (fun q => am_cv (am_ad b Hb.size) (va_cpy (am_fn df uf) (am_fn dg ug) sp.toNatClampNeg dp.toNatClampNeg n.toNatClampNeg q)) := va_copied (fun z => am_cv (am_ad b Hb.size) z) c0 c1 (am_fn df uf) (am_fn dg ug) hs
  rw [e1] at X' step
  have hl : Hb.size + j1 < H.size := (Array.getElem?_eq_some_iff.mp hc1).1
  generalize hnew : arrV c1 n1 (fun q => am_cv (am_ad b Hb.size) (va_cpy (am_fn df uf) (am_fn dg ug) sp.toNatClampNeg dp.toNatClampNeg n.toNatClampNeg q)) = new at X' step
  have hheap : ((T.setVm vm').setCell (Hb.size + j1) new).heap = H.setIfInBounds (Hb.size + j1) new := by rw [← hT]; rfl
  have oq : ∀ q : Nat, q ≠ Hb.size + j1 → (H.setIfInBounds (Hb.size + j1) new)[q]? = H[q]? := fun q hq => by simp [Array.getElem?_setIfInBounds, Ne.symm hq]
  obtain ⟨t, a1, b1⟩ := kk _ _ (hR.put h1 (x := .inl (.int, n1, dg, am_cpy (am_fn df uf) sp.toNatClampNeg dp.toNatClampNeg n.toNatClampNeg ug)) ⟨c1, hA1, show (H.setIfInBounds (Hb.size + j1) new)[Hb.size + j1]? = some _ by rw [am_cpy_fn, hnew]; simp [Array.getElem?_setIfInBounds, hl]⟩ (by simp) oq) (fun q hq => by
      rcases List.mem_append.mp hq with h | h
      · exact hL q h
      · obtain ⟨z, -, hz⟩ := List.mem_map.mp h
        rw [← hz]
        exact Nat.le_add_right _ _) _ hheap X'
  exact ⟨t, step t a1, b1⟩
end AMA
end
section
/-! all steps on the store, in one -/
def am_heap (cl : List vw_C) (tyL : List (List FieldType)) (T : am_T) (ins : Instr) (len pc : Nat) (st : List Value) (S : am_S) : Option (Nat × List Value × am_S × Nat × Nat) := match ins, len, st with
  | .getfield i, 3, .ref a :: st => match am_find i T.1 with
    | some (ci, k) => (am_getf S a ci k).map fun v => (pc + 3, v :: st, S, 0, 0)
    | none => none
  | .putfield i, 3, v :: .ref a :: st => match am_find i T.2.1 with
    | some (ci, k) => (match am_nth S a with
      | some (z, some (.inr (cj, fs))) => (match tyL[ci]? with
        | some tys => if cj = ci ∧ am_okv (tys.getD k .int) v = true then some (pc + 3, st, am_set S a (z, some (.inr (cj, fs.set k v))), 0, 0) else none
        | none => none)
      | _ => none)
    | none => none
  | .new i, 3, st => match am_find i T.2.2.1 with
    | some ci => (tyL[ci]?).map fun tys => (pc + 3, .ref (am_len S) :: st, am_add S (tys.length, some (.inr (ci, tys.map defaultValue))), 1, tys.length)
    | none => none
  | .newarray t, 2, .int n :: st => if n < 0 ∨ 536870912 < n.toNatClampNeg * componentBytes (newarray.typeOf t) then none else if t = .int ∨ t = .long ∨ t = .byte ∨ t = .boolean then some (pc + 2, .ref (am_len S) :: st, am_add S (n.toNatClampNeg, some (.inl (newarray.typeOf t, n.toNatClampNeg, defaultValue (newarray.typeOf t), []))), 1, n.toNatClampNeg) else none
  | .anewarray i, 3, .int n :: st => match am_find i T.2.2.2.1 with
    | some C => if n < 0 ∨ 536870912 < n.toNatClampNeg * 4 then none else some (pc + 3, .ref (am_len S) :: st, am_add S (n.toNatClampNeg, some (.inl (.object C, n.toNatClampNeg, .null, []))), 1, n.toNatClampNeg)
    | none => none
  | .iaload, 1, .int i :: .ref a :: st => (am_geta S a i .int).map fun v => (pc + 1, v :: st, S, 0, 0)
  | .laload, 1, .int i :: .ref a :: st => (am_geta S a i .long).map fun v => (pc + 1, v :: st, S, 0, 0)
  | .baload, 1, .int i :: .ref a :: st => match am_geta S a i .byte with
    | some v => some (pc + 1, v :: st, S, 0, 0)
    | none => (am_geta S a i .boolean).map fun v => (pc + 1, v :: st, S, 0, 0)
  | .aaload, 1, .int i :: .ref a :: st => match am_nth S a with
    | some (_, some (.inl (.object C, _, _, _))) => (am_geta S a i (.object C)).map fun v => (pc + 1, v :: st, S, 0, 0)
    | _ => none
  | .arraylength, 1, .ref a :: st => match am_nth S a with
    | some (_, some (.inl (_, n, _, _))) => some (pc + 1, .int (Int32.ofNat n) :: st, S, 0, 0)
    | _ => none
  | .iastore, 1, .int x :: .int i :: .ref a :: st => (am_seta S a i .int (.int x)).map fun S' => (pc + 1, st, S', 0, 0)
  | .lastore, 1, .long x :: .int i :: .ref a :: st => (am_seta S a i .long (.long x)).map fun S' => (pc + 1, st, S', 0, 0)
  | .bastore, 1, .int x :: .int i :: .ref a :: st => match am_seta S a i .byte (narrow .byte (.int x)) with
    | some S' => some (pc + 1, st, S', 0, 0)
    | none => (am_seta S a i .boolean (narrow .boolean (.int x))).map fun S' => (pc + 1, st, S', 0, 0)
  | .aastore, 1, .ref v :: .int i :: .ref a :: st => match am_nth S v with
    | some (_, some (.inr (ci, _))) => (match cl[ci]? with
      | some r => (am_seta S a i (.object r.1) (.ref v)).map fun S' => (pc + 1, st, S', 0, 0)
      | none => none)
    | _ => none
  | .ldc i, 2, st => match am_find i T.2.2.2.2.1 with
    | some (.int x) => some (pc + 2, .int x :: st, S, 0, 0)
    | _ => none
  | .ldc2_w i, 3, st => match am_find i T.2.2.2.2.1 with
    | some (.long x) => some (pc + 3, .long x :: st, S, 0, 0)
    | _ => none
  | _, _, _ => none
/-- a number of the class file -/
def am_cst (own : String) (i : Nat) (v : Value) : Cond := match v with
  | .int x => .constant own i x
  | .long x => .constantLong own i x
  | _ => .constant own i 0
/-- what the tables say of a method's entries (but its calls) -/
def am_Tok (Ts : List Cond) (cl : List vw_C) (AO : List String) (own name : String) (T : am_T) : Prop :=
  (∀ q ∈ T.1, ∃ r : vw_C, cl[q.2.1]? = some r ∧ q.2.2 < r.2.2 ∧ Cond.fieldLink own q.1 (r.2.1 q.2.2).1 (r.2.1 q.2.2).2.1 (r.2.1 q.2.2).2.2.1 ∈ Ts) ∧
  (∀ q ∈ T.2.1, ∃ r : vw_C, cl[q.2.1]? = some r ∧ q.2.2 < r.2.2 ∧ Cond.fieldLink own q.1 (r.2.1 q.2.2).1 (r.2.1 q.2.2).2.1 (r.2.1 q.2.2).2.2.1 ∈ Ts ∧ ((r.2.1 q.2.2).2.2.2 = false ∨ (name = "<init>" ∧ (r.2.1 q.2.2).1 = own))) ∧
  (∀ q ∈ T.2.2.1, ∃ r : vw_C, cl[q.2]? = some r ∧ Cond.classLink own q.1 r.1 ∈ Ts) ∧
  (∀ q ∈ T.2.2.2.1, Cond.classLink own q.1 q.2 ∈ Ts ∧ q.2 ∈ AO) ∧
  (∀ q ∈ T.2.2.2.2.1, am_cst own q.1 q.2 ∈ Ts)
section AMG
variable {p : Program} {l0 : Launch} {e : Env} {R : Room} {s : State} {m : MethodId} {args : Array Value} {below : List Frame} {meth : Method} {c : Code} {H : Heap} {locs : List Loc} {cells slots : Nat} {Q : State → Prop}
variable {cc : ByteArray} {pc : Nat} {ls : Array Slot} {D : va_G} {cl : List vw_C} {tyL : List (List FieldType)} {b : Nat} {Hb : Heap} {S : am_S} {own name : String} {Ts : List Cond} {AO : List String} {T : am_T}
set_option maxHeartbeats 4000000 in
set_option maxRecDepth 100000 in
theorem am_heap_ok (hx : p.tables.exec = Jvm.exec) (hb : c.code = cc) (hts : ∀ w ∈ Ts, w.before args s = true) (hC : am_Cls Ts cl tyL) (hown : s.vm.findClass own = some m.cls) (hnm : meth.name = name) (hT : am_Tok Ts cl AO own name T) (hAr : ∀ t : ArrayType, (t = .int ∨ t = .long ∨ t = .byte ∨ t = .boolean) → Cond.arrayClass (newarray.typeOf t) ∈ Ts) (hO : ∀ C ∈ AO, va_AO C s) (hK : va_K D cl [] s) (hR : am_R D cl b Hb S s H) (hL : ∀ q ∈ locs, Hb.size ≤ q.base) {ins : Instr} {len pc' dc ds : Nat} {st st' : List Value} {S' : am_S} (hd : decode cc pc = .ok (ins, len)) (h : am_heap cl tyL T ins len pc st S = some (pc', st', S', dc, ds)) (hcs : cells + dc ≤ R.cells) (hss : slots + ds ≤ R.slots)
    (kk : ∀ (H1 : Heap) (locs1 : List Loc), am_R D cl b Hb S' s H1 → (∀ q ∈ locs1, Hb.size ≤ q.base) → W p l0 e R s m args below meth c H1 locs1 (cells + dc) (slots + ds) Q (F0 m pc' ls (st'.map (am_cv (am_ad b Hb.size))))) : W p l0 e R s m args below meth c H locs cells slots Q (F0 m pc ls (st.map (am_cv (am_ad b Hb.size)))) := by
  unfold am_heap at h
  split at h
  · split at h
    · rename_i ci k hi
      obtain ⟨v, hv, e9⟩ := Option.map_eq_some_iff.mp h; cases e9
      obtain ⟨r, h1, h2, h3⟩ := hT.1 _ (am_find_mem hi)
      exact am_get_ok hx hb hts hC hown hK hR h1 h2 h3 hv hd (kk _ _ hR hL)
    · cases h
  · split at h
    · rename_i ci k hi
      split at h
      · rename_i z cj fs hS
        split at h
        · rename_i tys hty
          split at h
          · rename_i hc
            obtain ⟨rfl, hok⟩ := hc
            cases h
            obtain ⟨r, h1, h2, h3, h4⟩ := hT.2.1 _ (am_find_mem hi)
            exact am_put_ok hx hb hts hC hown hK hR hL h1 h2 hty h3 (h4.imp id (fun q => ⟨hnm.trans q.1, q.2⟩)) hok hS hd kk
          · cases h
        · cases h
      · cases h
    · cases h
  · split at h
    · rename_i ci hi
      obtain ⟨tys, hty, e9⟩ := Option.map_eq_some_iff.mp h; cases e9
      obtain ⟨r, h1, h2⟩ := hT.2.2.1 _ (am_find_mem hi)
      exact am_new_ok hx hb hts hC hown hK hR h1 hty h2 hcs hss hd (fun H1 q => kk _ _ q hL)
    · cases h
  · split at h
    · cases h
    · rename_i hc
      split at h
      · rename_i ht
        cases h
        exact am_newa_ok hx hb hts hR (hAr _ ht) (fun q => hc (Or.inl q)) (Nat.not_lt.mp fun q => hc (Or.inr q)) hcs hss hd (fun H1 q => kk _ _ q hL)
      · cases h
  · split at h
    · rename_i C hi
      split at h
      · cases h
      · rename_i hc
        cases h
        obtain ⟨h1, h2⟩ := hT.2.2.2.1 _ (am_find_mem hi)
        exact am_newq_ok hx hb hts hown hR h1 (hO _ h2) (fun q => hc (Or.inl q)) (Nat.not_lt.mp fun q => hc (Or.inr q)) hcs hss hd (fun H1 q => kk _ _ q hL)
    · cases h
  · obtain ⟨v, hv, e9⟩ := Option.map_eq_some_iff.mp h; cases e9
    exact am_iald_ok hx hb hR hv hd (kk _ _ hR hL)
  · obtain ⟨v, hv, e9⟩ := Option.map_eq_some_iff.mp h; cases e9
    exact am_lald_ok hx hb hR hv hd (kk _ _ hR hL)
  · split at h
    · rename_i v hv
      cases h
      exact am_bald_ok hx hb hR hv hd (kk _ _ hR hL)
    · obtain ⟨v, hv, e9⟩ := Option.map_eq_some_iff.mp h; cases e9
      exact am_zald_ok hx hb hR hv hd (kk _ _ hR hL)
  · split at h
    · obtain ⟨v, hv, e9⟩ := Option.map_eq_some_iff.mp h; cases e9
      exact am_aald_ok hx hb hR hv hd (kk _ _ hR hL)
    · cases h
  · split at h
    · rename_i hS
      cases h
      exact am_alen_ok hx hb hR hS hd (kk _ _ hR hL)
    · cases h
  · obtain ⟨v, hv, e9⟩ := Option.map_eq_some_iff.mp h; cases e9
    exact am_iast_ok hx hb hR hL hv hd kk
  · obtain ⟨v, hv, e9⟩ := Option.map_eq_some_iff.mp h; cases e9
    exact am_last_ok hx hb hR hL hv hd kk
  · split at h
    · rename_i v hv
      cases h
      exact am_bast_ok hx hb hR hL hv hd kk
    · obtain ⟨v, hv, e9⟩ := Option.map_eq_some_iff.mp h; cases e9
      exact am_zast_ok hx hb hR hL hv hd kk
  · split at h
    · rename_i hS
      split at h
      · rename_i r hr
        obtain ⟨v, hv, e9⟩ := Option.map_eq_some_iff.mp h; cases e9
        exact am_aast_ok hx hb hK hR hL hS hr hv hd kk
      · cases h
    · cases h
  · split at h
    · rename_i x hi
      cases h
      exact lv_ldc hx hb hown (hts _ (hT.2.2.2.2 _ (am_find_mem hi))) hd (kk _ _ hR hL)
    · cases h
  · split at h
    · rename_i x hi
      cases h
      exact lv_ldc2 hx hb hown (hts _ (hT.2.2.2.2 _ (am_find_mem hi))) hd (kk _ _ hR hL)
    · cases h
  · cases h
end AMG
end
section
/-! runs of the small machine: calls, answers -/
def am_ret (ret : Option FieldType) (ins : Instr) (len : Nat) (st : List Value) : Option (Option Value) := match ins, len, st with
  | .ireturn, 1, [.int x] => (match ret with
    | some .int => some (some (.int x))
    | some .boolean => if x = 0 ∨ x = 1 then some (some (.int x)) else none
    | _ => none)
  | .lreturn, 1, [.long x] => (match ret with
    | some .long => some (some (.long x))
    | _ => none)
  | .areturn, 1, [.ref a] => (match ret with
    | some (.object _) => some (some (.ref a))
    | _ => none)
  | .return_, 1, [] => (match ret with
    | none => some none
    | _ => none)
  | _, _, _ => none
/-- how many words a stack takes -/
def am_words (st : List Value) : Nat := (st.map fun v => v.category).sum
/-- the JDK's own methods that are called: 0 Object(), 1 max, 2 min, 3 arraycopy -/
def am_lib (j : Nat) (ins : Instr) (st : List Value) (S : am_S) : Option (List Value × am_S) := match j, ins, st with
  | 0, .invokespecial _, .ref _ :: st => if am_words st ≤ 8 then some (st, S) else none
  | 1, .invokestatic _, .int y :: .int x :: st => if am_words st ≤ 8 then some (.int (if x < y then y else x) :: st, S) else none
  | 2, .invokestatic _, .int y :: .int x :: st => if am_words st ≤ 8 then some (.int (if y < x then y else x) :: st, S) else none
  | 3, .invokestatic _, .int n :: .int dp :: .ref (j1 + 1) :: .int sp :: .ref (j0 + 1) :: st => (match am_nth S (j0 + 1), am_nth S (j1 + 1) with
    | some (_, some (.inl (.int, n0, df, uf))), some (z1, some (.inl (.int, n1, dg, ug))) => if am_words st ≤ 8 ∧ ¬ sp < 0 ∧ ¬ dp < 0 ∧ ¬ n < 0 ∧ sp.toNatClampNeg + n.toNatClampNeg ≤ n0 ∧ dp.toNatClampNeg + n.toNatClampNeg ≤ n1 ∧ (List.range n.toNatClampNeg).all (fun q => match am_fn df uf (sp.toNatClampNeg + q) with | .int _ => true | _ => false) = true then some (st, am_set S (j1 + 1) (z1, some (.inl (.int, n1, dg, am_cpy (am_fn df uf) sp.toNatClampNeg dp.toNatClampNeg n.toNatClampNeg ug)))) else none
    | _, _ => none)
  | _, _, _ => none
/-- a call of one of the methods in P: which, its arguments, the stack below -/
def am_own (P : List am_M) (j : Nat) (ins : Instr) (st : List Value) (S : am_S) : Option (am_M × List Value × List Value) := match P[j]? with
  | none => none
  | some M => if st.length < M.2.2.2.2.2.2.1 then none else (match ins, st.drop M.2.2.2.2.2.2.1 with
    | .invokestatic _, rest => if M.2.2.2.2.2.2.2 = 1000 ∧ am_words rest ≤ 8 ∧ am_words (st.take M.2.2.2.2.2.2.1).reverse ≤ M.2.2.1 then some (M, (st.take M.2.2.2.2.2.2.1).reverse, rest) else none
    | .invokespecial _, .ref b :: rest => if M.2.2.2.2.2.2.2 = 2000 ∧ am_words rest ≤ 8 ∧ am_words (st.take M.2.2.2.2.2.2.1).reverse + 1 ≤ M.2.2.1 then some (M, .ref b :: (st.take M.2.2.2.2.2.2.1).reverse, rest) else none
    | .invokevirtual _, .ref b :: rest => (match am_nth S b with
      | some (_, some (.inr (ci, _))) => if ci = M.2.2.2.2.2.2.2 ∧ am_words rest ≤ 8 ∧ am_words (st.take M.2.2.2.2.2.2.1).reverse + 1 ≤ M.2.2.1 then some (M, .ref b :: (st.take M.2.2.2.2.2.2.1).reverse, rest) else none
      | _ => none)
    | _, _ => none)
def am_cix (ins : Instr) (len : Nat) : Option Nat := match ins, len with
  | .invokestatic i, 3 => some i
  | .invokespecial i, 3 => some i
  | .invokevirtual i, 3 => some i
  | _, _ => none
/-- a run: fuel, depth, method, place, locals, stack, store: the answer, the store, how many cells and slots are new -/
def am_run (P : List am_M) (cl : List vw_C) (tyL : List (List FieldType)) : Nat → Nat → am_M → Nat → am_L → List Value → am_S → Option (Option Value × am_S × Nat × Nat)
  | 0, _, _, _, _, _, _ => none
  | f + 1, d, M, pc, l, st, S => match am_find pc M.2.2.2.2.2.1 with
    | none => none
    | some (ins, len) => match am_pure M.2.2.1 ins len pc l st with
      | some (pc', l', st') => am_run P cl tyL f d M pc' l' st' S
      | none => match am_heap cl tyL M.2.2.2.2.1 ins len pc st S with
        | some (pc', st', S', dc, ds) => (am_run P cl tyL f d M pc' l st' S').map fun q => (q.1, q.2.1, dc + q.2.2.1, ds + q.2.2.2)
        | none => match am_ret M.2.2.2.1 ins len st with
          | some r => some (r, S, 0, 0)
          | none => match d with
            | 0 => none
            | d' + 1 => match am_cix ins len with
              | none => none
              | some i => match am_find i M.2.2.2.2.1.2.2.2.2.2 with
                | none => none
                | some j => if j < 4 then (match am_lib j ins st S with
                    | some (st', S') => am_run P cl tyL f (d' + 1) M (pc + 3) l st' S'
                    | none => none)
                  else match am_own P (j - 4) ins st S with
                    | none => none
                    | some (M', as, rest) => match am_run P cl tyL f d' M' 0 (lv_args 0 as) [] S with
                      | none => none
                      | some (r, S1, c1, n1) => (am_run P cl tyL f (d' + 1) M (pc + 3) l (r.toList ++ rest) S1).map fun q => (q.1, q.2.1, c1 + q.2.2.1, n1 + q.2.2.2)
theorem am_words_cv (ad : Nat → Nat) (st : List Value) : ((st.map (am_cv ad)).map fun v => v.category).sum = am_words st := by
  unfold am_words
  rw [List.map_map]
  congr 1
  apply List.map_congr_left
  intro v _
  exact am_cv_cat ad v
theorem am_args_cv (ad : Nat → Nat) : ∀ (vs : List Value) (i : Nat), lv_args i (vs.map (am_cv ad)) = am_cl ad (lv_args i vs)
  | [], _ => rfl
  | v :: vs, i => by
    show (i, am_cv ad v) :: lv_args (if (am_cv ad v).category = 2 then i + 2 else i + 1) (vs.map (am_cv ad)) = (i, am_cv ad v) :: am_cl ad (lv_args _ vs)
    rw [am_cv_cat, am_args_cv ad vs]
end
section
/-! WHAT A RUN OF THE SMALL MACHINE IS ON THE JVM's MACHINE -/
/-- names of classes whose arrays are made, links of nest mates: what the tables say of them -/
abbrev am_NL : Type := List (String × Nat × MethodName × String)
def am_Kx (D : va_G) (cl : List vw_C) (AO : List String) (NL : am_NL) (s : State) : Prop := va_K D cl [] s ∧ (∀ C ∈ AO, va_AO C s) ∧ ∀ q ∈ NL, va_Nw (.methodLinkNest q.1 q.2.1 q.2.2.1 q.2.2.2) s
theorem am_Kx.warm {D : va_G} {cl : List vw_C} {AO : List String} {NL : am_NL} {s U : State} (hW : s.WarmedH U.vm) (h : am_Kx D cl AO NL s) : am_Kx D cl AO NL U := ⟨va_K.moved hW.alike h.1, fun C hC => va_AO.moved hW.alike (h.2.1 C hC), fun q hq => va_Nw.warmM hW (h.2.2 q hq)⟩
/-- what the tables say of a method's body -/
def am_Body (Ts : List Cond) (P : List am_M) (cl : List vw_C) (AO : List String) (NL : am_NL) (M : am_M) : Prop :=
  am_Tok Ts cl AO M.1.cls M.1.name M.2.2.2.2.1 ∧ (∀ q ∈ M.2.2.2.2.2.1, decode M.2.1 q.1 = .ok (q.2.1, q.2.2)) ∧
  (∀ q ∈ M.2.2.2.2.1.2.2.2.2.2, (q.2 = 0 → Cond.methodLink M.1.cls q.1 Lib.objectInit ∈ Ts) ∧ (q.2 = 1 → Cond.methodLink M.1.cls q.1 Lib.Math.max.name ∈ Ts) ∧ (q.2 = 2 → Cond.methodLink M.1.cls q.1 Lib.Math.min.name ∈ Ts) ∧ (q.2 = 3 → Cond.methodLink M.1.cls q.1 arraycopyName ∈ Ts) ∧
    (∀ M', 4 ≤ q.2 → P[q.2 - 4]? = some M' → Cond.methodLink M.1.cls q.1 M'.1 ∈ Ts ∨ ∃ host, (M.1.cls, q.1, M'.1, host) ∈ NL ∧ M'.2.2.2.2.2.2.2 = 2000))
/-- .. and of it as one that is called -/
def am_Call (Ts : List Cond) (cl : List vw_C) (KL : Nat) (M : am_M) : Prop :=
  plainName M.1.cls = true ∧ Cond.code M.1 M.2.1 M.2.2.1 M.2.2.2.1 ∈ Ts ∧ Cond.initialized M.1.cls ∈ Ts ∧ (M.1.cls ≠ "java/lang/invoke/MethodHandle" ∧ M.1.cls ≠ "java/lang/invoke/VarHandle") ∧
  (parseMethodDescriptor M.1.desc).map (fun d => d.parameters.length) = some M.2.2.2.2.2.2.1 ∧ 19 + M.2.2.1 ≤ KL ∧
  (M.2.2.2.2.2.2.2 = 1000 → Cond.static M.1 ∈ Ts) ∧ (M.2.2.2.2.2.2.2 = 2000 → M.1.name = "<init>" ∧ Cond.instanceMethod M.1 ∈ Ts ∧ M.2.2.2.1 = none) ∧
  (∀ r : vw_C, cl[M.2.2.2.2.2.2.2]? = some r → r.1 = M.1.cls ∧ Cond.instanceMethod M.1 ∈ Ts ∧ Cond.selects M.1.cls M.1 M.1 ∈ Ts)
/-- the tables, whole -/
def am_Fix (Ts : List Cond) (P : List am_M) (cl : List vw_C) (tyL : List (List FieldType)) (AO : List String) (NL : am_NL) (KL : Nat) : Prop :=
  am_Cls Ts cl tyL ∧ (∀ t : ArrayType, (t = .int ∨ t = .long ∨ t = .byte ∨ t = .boolean) → Cond.arrayClass (newarray.typeOf t) ∈ Ts) ∧ (∀ w ∈ Ts, goodWord w = true) ∧
  (Cond.instanceMethod Lib.objectInit ∈ Ts ∧ Cond.code Lib.objectInit ⟨#[0xb1]⟩ 1 none ∈ Ts) ∧
  (Cond.static Lib.Math.max.name ∈ Ts ∧ Cond.initialized "java/lang/Math" ∈ Ts ∧ Cond.code Lib.Math.max.name Lib.Math.max.code 2 (some .int) ∈ Ts) ∧
  (Cond.static Lib.Math.min.name ∈ Ts ∧ Cond.code Lib.Math.min.name Lib.Math.min.code 2 (some .int) ∈ Ts) ∧
  (Cond.native arraycopyName ∈ Ts ∧ Cond.static arraycopyName ∈ Ts ∧ Cond.initialized "java/lang/System" ∈ Ts) ∧ (26 ≤ KL ∧ cl.length ≤ 1000) ∧
  ∀ M ∈ P, am_Body Ts P cl AO NL M ∧ am_Call Ts cl KL M
def am_rm (KL d mc ms : Nat) : Room := { frames := d, cells := mc, slots := ms, locals := d * KL }
def am_Pc (D : va_G) (cl : List vw_C) (b : Nat) (Hb : Heap) (AO : List String) (NL : am_NL) (as : List Value) (S : am_S) : Array Value → State → Prop := fun a U => a = (as.map (am_cv (am_ad b Hb.size))).toArray ∧ am_R D cl b Hb S U U.heap ∧ am_Kx D cl AO NL U
def am_Qc (D : va_G) (cl : List vw_C) (b : Nat) (Hb : Heap) (r : Option Value) (S : am_S) : Array Value → State → Outcome → State → Prop := fun _ _ o t => o = .returned (r.map (am_cv (am_ad b Hb.size))) ∧ am_R D cl b Hb S t t.heap
theorem am_sl_len : ∀ vs : List Value, (lg_sl vs).length = am_words vs
  | [] => rfl
  | v :: vs => by
    have h := am_sl_len vs
    unfold lg_sl am_words at *
    rw [List.flatMap_cons, List.length_append, h, List.map_cons, List.sum_cons]
    congr 1
    by_cases hv : v.category = 2
    · rw [if_pos hv, hv]; rfl
    · rw [if_neg hv]
      rcases lv_cat v with q | q
      · rw [q]; rfl
      · exact absurd q hv
section AMZ
variable {p : Program} {l0 : Launch} {e : Env} {R : Room} {s : State} {m : MethodId} {args : Array Value} {below : List Frame} {meth : Method} {c : Code} {H : Heap} {locs : List Loc} {cells slots : Nat} {Q : State → Prop}
variable {cc : ByteArray} {pc : Nat} {ls : Array Slot} {D : va_G} {cl : List vw_C} {tyL : List (List FieldType)} {b : Nat} {Hb : Heap} {S : am_S} {own : String} {Ts : List Cond} {AO : List String} {NL : am_NL} {KL : Nat} {P : List am_M}
/-- a method's end -/
theorem am_end {ad : Nat → Nat} {Qc : Array Value → State → Outcome → State → Prop} {free : Addr → Prop} {ret : Option FieldType} {ins : Instr} {len : Nat} {st : List Value} {r : Option Value} (hx : p.tables.exec = Jvm.exec) (hb : c.code = cc) (hr : meth.sig.returnType = ret) (hlocks : meth.locks = false) (hd : decode cc pc = .ok (ins, len)) (h : am_ret ret ins len st = some r) (hq : ∀ t : State, t.heap = H → s.WarmedH t.vm → Qc args s (.returned (r.map (am_cv ad))) t) (hf : ∀ q ∈ locs, free q.base) : W p l0 e R s m args below meth c H locs cells slots (MQ below Qc args s cells slots free) (F0 m pc ls (st.map (am_cv ad))) := by
  unfold am_ret at h
  split at h
  · split at h
    · cases h
      exact W.iret hx hb hr hq hf hd
    · split at h
      · rename_i x _ hc
        cases h
        exact W.zret (v := x) hx hb hr (by rcases hc with q | q <;> subst q <;> decide) hq hf hd
      · cases h
    · cases h
  · split at h
    · cases h
      exact W.lret hx hb hr hq hf hd
    · cases h
  · split at h
    · rename_i a _ n
      cases h
      exact W.aret (v := .ref (ad a)) hx hb hr (Or.inl ⟨_, rfl⟩) (Or.inr ⟨_, rfl⟩) hq hf hd
    · cases h
  · split at h
    · cases h
      exact W.vret hx hb hr hq hf hd
    · cases h
  · cases h
set_option maxHeartbeats 1000000 in
/-- a call of the JDK's -/
theorem am_lib_ok (hF : am_Fix Ts P cl tyL AO NL KL) (hx : p.tables.exec = Jvm.exec) (hb : c.code = cc) (hml : c.maxLocals = ls.size) (hts : ∀ w ∈ Ts, w.before args s = true) (hown : s.vm.findClass own = some m.cls) {d : Nat} (hRf : d + 1 ≤ R.frames) (hRl : (d + 1) * KL ≤ R.locals) (hcs : cells ≤ R.cells) (hss : slots ≤ R.slots) (hR : am_R D cl b Hb S s H) (hL : ∀ q ∈ locs, Hb.size ≤ q.base) {i j : Nat} (hl0 : j = 0 → Cond.methodLink own i Lib.objectInit ∈ Ts) (hl1 : j = 1 → Cond.methodLink own i Lib.Math.max.name ∈ Ts) (hl2 : j = 2 → Cond.methodLink own i Lib.Math.min.name ∈ Ts) (hl3 : j = 3 → Cond.methodLink own i arraycopyName ∈ Ts) {ins : Instr} {st st' : List Value} {S' : am_S} (hi : am_cix ins 3 = some i) (hd : decode cc pc = .ok (ins, 3)) (h : am_lib j ins st S = some (st', S'))
    (kk : ∀ (H1 : Heap) (locs1 : List Loc), am_R D cl b Hb S' s H1 → (∀ q ∈ locs1, Hb.size ≤ q.base) → W p l0 e R s m args below meth c H1 locs1 cells slots Q (F0 m (pc + 3) ls (st'.map (am_cv (am_ad b Hb.size))))) : W p l0 e R s m args below meth c H locs cells slots Q (F0 m pc ls (st.map (am_cv (am_ad b Hb.size)))) := by
  obtain ⟨-, -, -, hO, hMx, hMn, hCp, ⟨hKL, -⟩, -⟩ := hF
  have hloc : 26 ≤ R.locals := by
    have : KL ≤ (d + 1) * KL := Nat.le_mul_of_pos_left KL (Nat.succ_pos d)
    omega
  unfold am_lib at h
  split at h
  · split at h
    · rename_i hw
      cases h
      cases hi
      exact W.objInit hx hb hown (hts _ (hl0 rfl)) (hts _ hO.1) (hts _ hO.2) rfl hml.symm rfl hd (by omega) (by show 2 * 0 + _ + 12 ≤ _; rw [am_words_cv]; omega) (kk _ _ hR hL)
    · cases h
  · split at h
    · rename_i hw
      cases h
      cases hi
      exact va_mmax hx hb hml hown (hts _ (hl1 rfl)) (hts _ hMx.1) (hts _ hMx.2.1) (hts _ hMx.2.2) (by omega) (by rw [am_words_cv]; omega) hcs hss hd (kk _ _ hR hL)
    · cases h
  · split at h
    · rename_i hw
      cases h
      cases hi
      exact va_mmin hx hb hml hown (hts _ (hl2 rfl)) (hts _ hMn.1) (hts _ hMx.2.1) (hts _ hMn.2) (by omega) (by rw [am_words_cv]; omega) hcs hss hd (kk _ _ hR hL)
    · cases h
  · split at h
    · rename_i h0 h1
      split at h
      · rename_i hc
        obtain ⟨hw, c1, c2, c3, c4, c5, c6⟩ := hc
        cases h
        cases hi
        have hnf : nativeFrameWords "java/lang/System" "arraycopy" 5 = 7 := by decide +kernel
        have hfr : 1 ≤ R.frames := by omega
        refine am_copy_ok hx hb hts hml hown (hl3 rfl) hCp.1 hCp.2.1 hCp.2.2 hR hL h0 h1 c1 c2 c3 c4 c5 (fun q hq => ?_) hfr (by rw [am_words_cv, hnf]; omega) hd kk
        have h9 := List.all_eq_true.mp c6 q (List.mem_range.mpr hq)
        split at h9
        · rename_i x hx9
          exact ⟨x, hx9⟩
        · cases h9
      · cases h
    · cases h
  · cases h
end AMZ
end
section
/-! a call of one of our own methods -/
section AMY
variable {p : Program} {l0 : Launch} {e : Env} {R : Room} {s : State} {m : MethodId} {args : Array Value} {below : List Frame} {meth : Method} {c : Code} {H : Heap} {locs : List Loc} {cells slots : Nat} {Q : State → Prop}
variable {cc : ByteArray} {pc : Nat} {ls : Array Slot} {D : va_G} {cl : List vw_C} {tyL : List (List FieldType)} {b : Nat} {Hb : Heap} {S : am_S} {own : String} {Ts : List Cond} {AO : List String} {NL : am_NL} {KL : Nat} {P : List am_M}
theorem am_back {rest st0 : List Value} {a : Array Value} {r : Option Value} {S1 : am_S} {mc ms : Nat} (hr : va_Run p l0 e R s m args below meth c H locs cells slots mc ms (F0 m pc ls st0) (rest.map (am_cv (am_ad b Hb.size))) (am_Qc D cl b Hb r S1 a) (fun q => Hb.size ≤ q)) (hL : ∀ q ∈ locs, Hb.size ≤ q.base)
    (kk : ∀ (H1 : Heap) (locs1 : List Loc), am_R D cl b Hb S1 s H1 → (∀ q ∈ locs1, Hb.size ≤ q.base) → W p l0 e R s m args below meth c H1 locs1 (cells + mc) (slots + ms) Q (F0 m (pc + 3) ls ((r.toList ++ rest).map (am_cv (am_ad b Hb.size))))) : W p l0 e R s m args below meth c H locs cells slots Q (F0 m pc ls st0) := by
  intro T hT X
  obtain ⟨v, st₀, t, T', L, h0, X', hL', e1, e2, ⟨hv, hR1⟩, st⟩ := hr T hT X
  cases hv
  have hal : t.vm.Alike s.vm := by rw [← e2]; exact X'.warmed.alike.symm
  obtain ⟨t2, a1, b1⟩ := kk T'.heap (locs ++ L) (by rw [e1]; exact hR1.moved hal) (fun q hq => by
    rcases List.mem_append.mp hq with h | h
    · exact hL q h
    · exact hL' q h) T' rfl X'
  refine ⟨t2, st t2 ?_, b1⟩
  have e3 : (r.map (am_cv (am_ad b Hb.size))).toList ++ rest.map (am_cv (am_ad b Hb.size)) = (r.toList ++ rest).map (am_cv (am_ad b Hb.size)) := by
    cases r <;> simp
  rw [e3]
  exact a1
theorem am_Pc_blind {as : List Value} : FrameBlind (am_Pc D cl b Hb AO NL as S) := by
  intro a U g mk h
  obtain ⟨h1, h2, h3, h4, h5⟩ := h
  exact ⟨h1, am_R.moved (t := U.calling g mk a) (Vm.Alike.refl U.vm) h2, va_K.moved (u := U) (U := U.calling g mk a) (Vm.Alike.refl U.vm) h3, fun C hC => va_AO.moved (u := U) (U := U.calling g mk a) (Vm.Alike.refl U.vm) (h4 C hC), fun q hq => va_Nw.same (u := U) (U := U.calling g mk a) rfl rfl (h5 q hq)⟩
theorem am_Pc_at {as : List Value} (hR : am_R D cl b Hb S s H) (hK : am_Kx D cl AO NL s) : ∀ U : State, U.heap = H → s.WarmedH U.vm → am_Pc D cl b Hb AO NL as S (as.map (am_cv (am_ad b Hb.size))).toArray U := by
  intro U hU hW
  exact ⟨rfl, by rw [hU]; exact hR.moved hW.alike, hK.warm hW⟩
set_option maxHeartbeats 2000000 in
theorem am_own_ok (hF : am_Fix Ts P cl tyL AO NL KL) (hx : p.tables.exec = Jvm.exec) (hb : c.code = cc) (hml : c.maxLocals = ls.size) (hts : ∀ w ∈ Ts, w.before args s = true) (hown : s.vm.findClass own = some m.cls) (hK : am_Kx D cl AO NL s) {d c1 n1 : Nat} (hRf : d + 1 ≤ R.frames) (hRl : (d + 1) * KL ≤ R.locals) (hcs : cells + c1 ≤ R.cells) (hss : slots + n1 ≤ R.slots) (hR : am_R D cl b Hb S s H) (hL : ∀ q ∈ locs, Hb.size ≤ q.base) {i j : Nat} (hlink : ∀ M', P[j]? = some M' → Cond.methodLink own i M'.1 ∈ Ts ∨ ∃ host, (own, i, M'.1, host) ∈ NL ∧ M'.2.2.2.2.2.2.2 = 2000) {ins : Instr} {st as rest : List Value} {M' : am_M} {r : Option Value} {S1 : am_S} (hi : am_cix ins 3 = some i) (hd : decode cc pc = .ok (ins, 3)) (h : am_own P j ins st S = some (M', as, rest))
    (hMet : Met l0 M'.1 (Cond.code M'.1 M'.2.1 M'.2.2.1 M'.2.2.2.1 :: Ts) (am_rm KL d c1 n1) (am_Pc D cl b Hb AO NL as S) (am_Qc D cl b Hb r S1) c1 n1 (fun q => Hb.size ≤ q))
    (kk : ∀ (H1 : Heap) (locs1 : List Loc), am_R D cl b Hb S1 s H1 → (∀ q ∈ locs1, Hb.size ≤ q.base) → W p l0 e R s m args below meth c H1 locs1 (cells + c1) (slots + n1) Q (F0 m (pc + 3) ls ((r.toList ++ rest).map (am_cv (am_ad b Hb.size))))) : W p l0 e R s m args below meth c H locs cells slots Q (F0 m pc ls (st.map (am_cv (am_ad b Hb.size)))) := by
  obtain ⟨hC, -, hgood, -, -, -, -, ⟨-, hcl⟩, hP⟩ := hF
  unfold am_own at h
  split at h
  · cases h
  · rename_i M hM
    obtain ⟨-, hpl, hcode, hini, hmh, hpar, hKL, hst0, hsp0, hvi0⟩ := hP M (List.mem_of_getElem? hM)
    have hroom : 8 + (M.2.2.1 + 11) + d * KL ≤ R.locals := by
      have : (d + 1) * KL = d * KL + KL := Nat.succ_mul d KL
      omega
    have hpay : ∀ w ∈ (Cond.code M.1 M.2.1 M.2.2.1 M.2.2.2.1 :: Ts), ∀ (a' : Array Value) (U : State), s.WarmedH U.vm → w.before a' U = true := by
      intro w hw a' U hW
      have hw' : w ∈ Ts := by
        rcases List.mem_cons.mp hw with q | q
        · rw [q]; exact hcode
        · exact q
      exact word_at hW (good_of_word (hgood w hw')) (hts w hw')
    have hlen : ∀ sig, parseMethodDescriptor M.1.desc = some sig → M.2.2.2.2.2.2.1 = sig.parameters.length := by
      intro sig hs
      rw [hs] at hpar
      exact (Option.some.inj hpar).symm
    split at h
    · cases h
    · rename_i hlt
      have htl : ((st.take M.2.2.2.2.2.2.1).reverse.map (am_cv (am_ad b Hb.size))).length = M.2.2.2.2.2.2.1 := by
        rw [List.length_map, List.length_reverse, List.length_take]
        omega
      have hstk : ∀ rs : List Value, st.drop M.2.2.2.2.2.2.1 = rs → st.map (am_cv (am_ad b Hb.size)) = ((st.take M.2.2.2.2.2.2.1).reverse.map (am_cv (am_ad b Hb.size))).reverse ++ rs.map (am_cv (am_ad b Hb.size)) := by
        intro rs hrs
        rw [← List.map_reverse, List.reverse_reverse, ← List.map_append, ← hrs, List.take_append_drop]
      have hB : Cond.methodLink own i M.1 ∈ Ts → CallB R s args own i M.1 M.2.1 M.2.2.1 M.2.2.2.1 (Cond.code M.1 M.2.1 M.2.2.1 M.2.2.2.1 :: Ts) (am_rm KL d c1 n1) c1 n1 M.2.2.2.2.2.2.1 := fun hlk => ⟨rfl, rfl, hRf, hroom, hpay, List.mem_cons_self, hts _ hcode, hts _ hini, hmh, hlen, hts _ hlk⟩
      split at h
      · -- static
        rename_i rs hrs
        split at h
        · rename_i hc
          obtain ⟨hk, hw, -⟩ := hc
          cases h
          cases hi
          have hlk : Cond.methodLink own i M'.1 ∈ Ts := by
            rcases hlink M' hM with q | ⟨_, _, q⟩
            · exact q
            · rw [hk] at q; cases q
          refine am_back (rest := st.drop M'.2.2.2.2.2.2.1) (va_runS (As := (st.take M'.2.2.2.2.2.2.1).reverse.map (am_cv (am_ad b Hb.size))) ⟨hx, hb, hml, hown, hts⟩ hMet ⟨hB hlk, hts _ (hst0 hk)⟩ ⟨am_Pc_blind, am_Pc_at hR hK⟩ rfl htl rfl (hstk _ rfl) (by show 2 * 0 + _ ≤ 8; rw [am_words_cv]; omega) hd ⟨hcs, hss⟩) hL kk
        · cases h
      · -- special
        rename_i b0 rs hrs
        split at h
        · rename_i hc
          obtain ⟨hk, hw, -⟩ := hc
          cases h
          cases hi
          obtain ⟨hn, hinst, hret⟩ := hsp0 hk
          rw [hret] at hMet hB hpay hcode
          rcases hlink M' hM with hlk | ⟨host, hnl, -⟩
          · exact am_back (va_runI (b := am_ad b Hb.size b0) (As := (st.take M'.2.2.2.2.2.2.1).reverse.map (am_cv (am_ad b Hb.size))) ⟨hx, hb, hml, hown, hts⟩ hMet ⟨hB hlk, hn, hts _ hinst⟩ ⟨am_Pc_blind, am_Pc_at hR hK⟩ rfl htl rfl (hstk _ hrs) (by show 2 * 0 + _ ≤ 8; rw [am_words_cv]; omega) hd ⟨hcs, hss⟩) hL kk
          · exact am_back (va_runIN (host := host) (b := am_ad b Hb.size b0) (As := (st.take M'.2.2.2.2.2.2.1).reverse.map (am_cv (am_ad b Hb.size))) ⟨hx, hb, hml, hown, hts⟩ hMet ⟨⟨⟨rfl, rfl, hRf, hroom, hpay, List.mem_cons_self⟩, hts _ hcode, hts _ hini, hmh, hlen, va_Nw.use rfl (hK.2.2 _ hnl)⟩, hn, hts _ hinst⟩ ⟨am_Pc_blind, am_Pc_at hR hK⟩ rfl htl rfl (hstk _ hrs) (by show 2 * 0 + _ ≤ 8; rw [am_words_cv]; omega) hd ⟨hcs, hss⟩) hL kk
        · cases h
      · -- virtual
        rename_i b0 rs hrs
        split at h
        · rename_i z ci fs hS
          split at h
          · rename_i hc
            obtain ⟨hk, hw, -⟩ := hc
            cases h
            cases hi
            subst hk
            obtain ⟨j0, rr, rfl, -, h1, h2, cell, q1, q2, q3, q4⟩ := hR.obj hS
            obtain ⟨hnm, hinst, hsel⟩ := hvi0 rr h1
            have hlk : Cond.methodLink own i M'.1 ∈ Ts := by
              rcases hlink M' hM with q | ⟨_, _, q⟩
              · exact q
              · have h9 := (List.getElem?_eq_some_iff.mp h1).1
                omega
            exact am_back (va_runV (C := M'.1.cls) (b := Hb.size + j0) (As := (st.take M'.2.2.2.2.2.2.1).reverse.map (am_cv (am_ad b Hb.size))) ⟨hx, hb, hml, hown, hts⟩ hMet ⟨hB hlk, hts _ hinst, hts _ hsel⟩ ⟨am_Pc_blind, ⟨cell, q1, by rw [q3]; rfl, by rw [q2, ← hnm]; exact (hK.1.1 _ _ h1).2.1⟩, am_Pc_at hR hK⟩ rfl htl rfl (hstk _ hrs) (by show 2 * 0 + _ ≤ 8; rw [am_words_cv]; omega) hd ⟨hcs, hss⟩) hL kk
          · cases h
        · cases h
      · cases h
end AMY
end
section
/-! THE SMALL MACHINE IS RIGHT: what a run of it comes to, the JVM's machine comes to -/
/-- the machine stands in method M's body -/
def am_In (Ts : List Cond) (D : va_G) (cl : List vw_C) (AO : List String) (NL : am_NL) (M : am_M) (p : Program) (s : State) (m : MethodId) (args : Array Value) (meth : Method) (c : Code) : Prop :=
  p.tables.exec = Jvm.exec ∧ c.code = M.2.1 ∧ c.maxLocals = M.2.2.1 ∧ meth.name = M.1.name ∧ s.vm.findClass M.1.cls = some m.cls ∧ (∀ w ∈ Ts, w.before args s = true) ∧ am_Kx D cl AO NL s
/-- what a run says: from the state at its start the machine comes to Q, if it does so from every state at which the run ends -/
def am_Says (Ts : List Cond) (D : va_G) (cl : List vw_C) (AO : List String) (NL : am_NL) (KL b : Nat) (Hb : Heap) (l0 : Launch) (d : Nat) (M : am_M) (pc : Nat) (lc : am_L) (st : List Value) (S : am_S) (r : Option Value) (S' : am_S) (dc ds : Nat) : Prop :=
  ∀ (p : Program) (e : Env) (R : Room) (s : State) (m : MethodId) (args : Array Value) (below : List Frame) (meth : Method) (c : Code) (H : Heap) (locs : List Loc) (cells slots : Nat) (Q : State → Prop) (ls : Array Slot),
    am_In Ts D cl AO NL M p s m args meth c → d ≤ R.frames → d * KL ≤ R.locals → cells + dc ≤ R.cells → slots + ds ≤ R.slots → am_R D cl b Hb S s H → (∀ q ∈ locs, Hb.size ≤ q.base) → lv_has ls M.2.2.1 (am_cl (am_ad b Hb.size) lc) →
    (∀ (H1 : Heap) (locs1 : List Loc) (ls1 : Array Slot) (pc1 : Nat) (ins : Instr) (len : Nat) (st1 : List Value), decode M.2.1 pc1 = .ok (ins, len) → am_ret M.2.2.2.1 ins len st1 = some r → am_R D cl b Hb S' s H1 → (∀ q ∈ locs1, Hb.size ≤ q.base) → W p l0 e R s m args below meth c H1 locs1 (cells + dc) (slots + ds) Q (F0 m pc1 ls1 (st1.map (am_cv (am_ad b Hb.size))))) →
    W p l0 e R s m args below meth c H locs cells slots Q (F0 m pc ls (st.map (am_cv (am_ad b Hb.size))))
/-- a callee's contract out of what its run says -/
theorem am_met {Ts : List Cond} {P : List am_M} {D : va_G} {cl : List vw_C} {tyL : List (List FieldType)} {AO : List String} {NL : am_NL} {KL b : Nat} {Hb : Heap} {l0 : Launch} {d : Nat} {M : am_M} {as : List Value} {S : am_S} {r : Option Value} {S' : am_S} {dc ds : Nat} (hF : am_Fix Ts P cl tyL AO NL KL) (hM : M ∈ P) (hw : am_words as ≤ M.2.2.1) (h : am_Says Ts D cl AO NL KL b Hb l0 d M 0 (lv_args 0 as) [] S r S' dc ds) :
    Met l0 M.1 (Cond.code M.1 M.2.1 M.2.2.1 M.2.2.2.1 :: Ts) (am_rm KL d dc ds) (am_Pc D cl b Hb AO NL as S) (am_Qc D cl b Hb r S') dc ds (fun q => Hb.size ≤ q) := by
  obtain ⟨-, hpl, hcode, -⟩ := hF.2.2.2.2.2.2.2.2 M hM
  refine Met.ofW (cc := M.2.1) (maxL := M.2.2.1) (ret := M.2.2.2.1) hpl rfl ?_
  intro p e s m args below meth c s₁ B hml hv
  obtain ⟨rfl, hR, hK⟩ := hv
  have hts := atoms_spec (ws := Cond.code M.1 M.2.1 M.2.2.1 M.2.2.2.1 :: Ts) B.pre
  have hlocks := B.notSynchronized
  have hl := lv_entry (as.map (am_cv (am_ad b Hb.size))) (n := M.2.2.1) (by rw [am_sl_len]; unfold am_words at hw ⊢; rw [am_words_cv]; exact hw)
  rw [lg_entry_eq]
  rw [am_args_cv] at hl
  have h0 := h p e (headSpec (Cond.code M.1 M.2.1 M.2.2.1 M.2.2.2.1 :: Ts) (am_rm KL d dc ds)).room s m (as.map (am_cv (am_ad b Hb.size))).toArray below meth c s.heap [] 0 0 (MQ below (am_Qc D cl b Hb r S') (as.map (am_cv (am_ad b Hb.size))).toArray s dc ds (fun q => Hb.size ≤ q)) _
    ⟨B.exec, B.bytes, hml, (name_of_methodNamed B.named B.method).1, findClass_of_methodNamed B.named, fun w hw => hts w (List.mem_cons_of_mem _ hw), hK⟩ (Nat.le_refl _) (Nat.le_refl _) (by rw [Nat.zero_add]; exact Nat.le_refl _) (by rw [Nat.zero_add]; exact Nat.le_refl _) hR (fun q hq => by cases hq) hl
  refine h0 ?_
  intro H1 locs1 ls1 pc1 ins len st1 hd hr hR1 hL1
  rw [Nat.zero_add, Nat.zero_add]
  exact am_end B.exec B.bytes B.returns hlocks hd hr (fun t ht hW => ⟨rfl, by rw [ht]; exact hR1.moved hW.alike⟩) hL1
theorem am_own_mem {P : List am_M} {j : Nat} {ins : Instr} {st as rest : List Value} {S : am_S} {M : am_M} (h : am_own P j ins st S = some (M, as, rest)) : M ∈ P ∧ am_words as ≤ M.2.2.1 := by
  unfold am_own at h
  split at h
  · cases h
  · rename_i M0 hM
    split at h
    · cases h
    · split at h
      · split at h
        · rename_i hc
          cases h
          exact ⟨List.mem_of_getElem? hM, hc.2.2⟩
        · cases h
      · split at h
        · rename_i hc
          cases h
          refine ⟨List.mem_of_getElem? hM, ?_⟩
          have := hc.2.2
          unfold am_words at this ⊢
          rw [List.map_cons, List.sum_cons]
          show 1 + _ ≤ _
          omega
        · cases h
      · split at h
        · split at h
          · rename_i hc
            cases h
            refine ⟨List.mem_of_getElem? hM, ?_⟩
            have := hc.2.2
            unfold am_words at this ⊢
            rw [List.map_cons, List.sum_cons]
            show 1 + _ ≤ _
            omega
          · cases h
        · cases h
      · cases h
set_option maxHeartbeats 4000000 in
theorem am_sound {Ts : List Cond} {P : List am_M} {D : va_G} {cl : List vw_C} {tyL : List (List FieldType)} {AO : List String} {NL : am_NL} {KL b : Nat} {Hb : Heap} {l0 : Launch} (hF : am_Fix Ts P cl tyL AO NL KL) :
    ∀ (f d : Nat) (M : am_M), am_Body Ts P cl AO NL M → ∀ (pc : Nat) (lc : am_L) (st : List Value) (S : am_S) (r : Option Value) (S' : am_S) (dc ds : Nat), am_run P cl tyL f d M pc lc st S = some (r, S', dc, ds) → am_Says Ts D cl AO NL KL b Hb l0 d M pc lc st S r S' dc ds := by
  intro f
  induction f with
  | zero =>
    intro d M hB pc lc st S r S' dc ds h
    cases h
  | succ f ih =>
    intro d M hB pc lc st S r S' dc ds h p e R s m args below meth c H locs cells slots Q ls hIn hRf hRl hcs hss hR hL hl kend
    have hIn0 := hIn
    obtain ⟨hx, hb, hml, hnm, hown, hts, hK⟩ := hIn
    unfold am_run at h
    split at h
    · cases h
    · rename_i ins len hins
      have hd : decode M.2.1 pc = .ok (ins, len) := hB.2.1 (pc, ins, len) (am_find_mem hins)
      split at h
      · rename_i pc' l' st' hp
        exact am_pure_ok hx hb hd hp hl (fun ls' hl' => ih d M hB pc' l' st' S r S' dc ds h p e R s m args below meth c H locs cells slots Q ls' hIn0 hRf hRl hcs hss hR hL hl' kend)
      · split at h
        · rename_i pc' st' S2 d2 n2 hp
          obtain ⟨q, hq, e9⟩ := Option.map_eq_some_iff.mp h
          obtain ⟨q1, q2, q3, q4⟩ := q
          simp only [Prod.mk.injEq] at e9
          obtain ⟨rfl, rfl, rfl, rfl⟩ := e9
          refine am_heap_ok hx hb hts hF.1 hown hnm hB.1 hF.2.1 hK.2.1 hK.1 hR hL hd hp (by omega) (by omega) (fun H1 locs1 hR1 hL1 => ?_)
          refine ih d M hB pc' lc st' S2 q1 q2 q3 q4 hq p e R s m args below meth c H1 locs1 (cells + d2) (slots + n2) Q ls hIn0 hRf hRl (by omega) (by omega) hR1 hL1 hl ?_
          rw [Nat.add_assoc, Nat.add_assoc]
          exact kend
        · split at h
          · rename_i r0 hr
            cases h
            exact kend H locs ls pc ins len st hd hr hR hL
          · split at h
            · cases h
            · rename_i d'
              split at h
              · cases h
              · rename_i i hi
                have hlen : len = 3 := by
                  unfold am_cix at hi
                  split at hi <;> first | rfl | cases hi
                subst hlen
                split at h
                · cases h
                · rename_i j hj
                  obtain ⟨hl0, hl1, hl2, hl3, hl4⟩ := hB.2.2 _ (am_find_mem hj)
                  have hms : c.maxLocals = ls.size := by rw [hml]; exact hl.1.symm
                  split at h
                  · split at h
                    · rename_i st' S2 hlb
                      exact am_lib_ok hF hx hb hms hts hown hRf hRl (by omega) (by omega) hR hL hl0 hl1 hl2 hl3 hi hd hlb (fun H1 locs1 hR1 hL1 => ih (d' + 1) M hB (pc + 3) lc st' S2 r S' dc ds h p e R s m args below meth c H1 locs1 cells slots Q ls hIn0 hRf hRl hcs hss hR1 hL1 hl kend)
                    · cases h
                  · rename_i hj4
                    split at h
                    · cases h
                    · rename_i M' as rest hown2
                      split at h
                      · cases h
                      · rename_i r1 S1 c1 n1 hrun
                        obtain ⟨q, hq, e9⟩ := Option.map_eq_some_iff.mp h
                        obtain ⟨q1, q2, q3, q4⟩ := q
                        simp only [Prod.mk.injEq] at e9
                        obtain ⟨rfl, rfl, rfl, rfl⟩ := e9
                        obtain ⟨hM', hw⟩ := am_own_mem hown2
                        have hsay := ih d' M' (hF.2.2.2.2.2.2.2.2 M' hM').1 0 (lv_args 0 as) [] S r1 S1 c1 n1 hrun
                        refine am_own_ok hF hx hb hms hts hown hK hRf hRl (by omega) (by omega) hR hL (fun M9 h9 => hl4 M9 (by omega) h9) hi hd hown2 (am_met hF hM' hw hsay) (fun H1 locs1 hR1 hL1 => ?_)
                        refine ih (d' + 1) M hB (pc + 3) lc (r1.toList ++ rest) S1 q1 q2 q3 q4 hq p e R s m args below meth c H1 locs1 (cells + c1) (slots + n1) Q ls hIn0 hRf hRl (by omega) (by omega) hR1 hL1 hl ?_
                        rw [Nat.add_assoc, Nat.add_assoc]
                        exact kend
end
section
/-! stretches of one method's body: single steps (calls whole), many of them -/
def am_one (P : List am_M) (cl : List vw_C) (tyL : List (List FieldType)) (f d : Nat) (M : am_M) (pc : Nat) (l : am_L) (st : List Value) (S : am_S) : Option (Nat × am_L × List Value × am_S × Nat × Nat) := match am_find pc M.2.2.2.2.2.1 with
  | none => none
  | some (ins, len) => match am_pure M.2.2.1 ins len pc l st with
    | some (pc', l', st') => some (pc', l', st', S, 0, 0)
    | none => match am_heap cl tyL M.2.2.2.2.1 ins len pc st S with
      | some (pc', st', S', dc, ds) => some (pc', l, st', S', dc, ds)
      | none => match d with
        | 0 => none
        | d' + 1 => match am_cix ins len with
          | none => none
          | some i => match am_find i M.2.2.2.2.1.2.2.2.2.2 with
            | none => none
            | some j => if j < 4 then (match am_lib j ins st S with
                | some (st', S') => some (pc + 3, l, st', S', 0, 0)
                | none => none)
              else match am_own P (j - 4) ins st S with
                | none => none
                | some (M', as, rest) => match am_run P cl tyL f d' M' 0 (lv_args 0 as) [] S with
                  | none => none
                  | some (r, S1, c1, n1) => some (pc + 3, l, r.toList ++ rest, S1, c1, n1)
def am_many (P : List am_M) (cl : List vw_C) (tyL : List (List FieldType)) (f d : Nat) (M : am_M) : Nat → Nat → am_L → List Value → am_S → Option (Nat × am_L × List Value × am_S × Nat × Nat)
  | 0, pc, l, st, S => some (pc, l, st, S, 0, 0)
  | n + 1, pc, l, st, S => match am_one P cl tyL f d M pc l st S with
    | none => none
    | some (pc', l', st', S', dc, ds) => match am_many P cl tyL f d M n pc' l' st' S' with
      | none => none
      | some (pc2, l2, st2, S2, dc2, ds2) => some (pc2, l2, st2, S2, dc + dc2, ds + ds2)
/-- a stretch on the JVM's machine -/
def am_Leads (Ts : List Cond) (D : va_G) (cl : List vw_C) (AO : List String) (NL : am_NL) (KL b : Nat) (Hb : Heap) (l0 : Launch) (d : Nat) (M : am_M) (pc : Nat) (lc : am_L) (st : List Value) (S : am_S) (pc' : Nat) (lc' : am_L) (st' : List Value) (S' : am_S) (dc ds : Nat) : Prop :=
  ∀ (p : Program) (e : Env) (R : Room) (s : State) (m : MethodId) (args : Array Value) (below : List Frame) (meth : Method) (c : Code) (H : Heap) (locs : List Loc) (cells slots : Nat) (Q : State → Prop) (ls : Array Slot),
    am_In Ts D cl AO NL M p s m args meth c → d ≤ R.frames → d * KL ≤ R.locals → cells + dc ≤ R.cells → slots + ds ≤ R.slots → am_R D cl b Hb S s H → (∀ q ∈ locs, Hb.size ≤ q.base) → lv_has ls M.2.2.1 (am_cl (am_ad b Hb.size) lc) →
    (∀ (H1 : Heap) (locs1 : List Loc) (ls1 : Array Slot), am_R D cl b Hb S' s H1 → (∀ q ∈ locs1, Hb.size ≤ q.base) → lv_has ls1 M.2.2.1 (am_cl (am_ad b Hb.size) lc') → W p l0 e R s m args below meth c H1 locs1 (cells + dc) (slots + ds) Q (F0 m pc' ls1 (st'.map (am_cv (am_ad b Hb.size))))) →
    W p l0 e R s m args below meth c H locs cells slots Q (F0 m pc ls (st.map (am_cv (am_ad b Hb.size))))
set_option maxHeartbeats 4000000 in
theorem am_one_ok {Ts : List Cond} {P : List am_M} {D : va_G} {cl : List vw_C} {tyL : List (List FieldType)} {AO : List String} {NL : am_NL} {KL b : Nat} {Hb : Heap} {l0 : Launch} (hF : am_Fix Ts P cl tyL AO NL KL) {f d : Nat} {M : am_M} (hB : am_Body Ts P cl AO NL M) {pc : Nat} {lc : am_L} {st : List Value} {S : am_S} {pc' : Nat} {lc' : am_L} {st' : List Value} {S' : am_S} {dc ds : Nat} (h : am_one P cl tyL f d M pc lc st S = some (pc', lc', st', S', dc, ds)) : am_Leads Ts D cl AO NL KL b Hb l0 d M pc lc st S pc' lc' st' S' dc ds := by
  intro p e R s m args below meth c H locs cells slots Q ls hIn hRf hRl hcs hss hR hL hl kend
  obtain ⟨hx, hb, hml, hnm, hown, hts, hK⟩ := hIn
  unfold am_one at h
  split at h
  · cases h
  · rename_i ins len hins
    have hd : decode M.2.1 pc = .ok (ins, len) := hB.2.1 (pc, ins, len) (am_find_mem hins)
    split at h
    · rename_i pc1 l1 st1 hp
      cases h
      exact am_pure_ok hx hb hd hp hl (fun ls' hl' => kend _ _ _ hR hL hl')
    · split at h
      · rename_i pc1 st1 S1 d1 n1 hp
        cases h
        exact am_heap_ok hx hb hts hF.1 hown hnm hB.1 hF.2.1 hK.2.1 hK.1 hR hL hd hp hcs hss (fun H1 locs1 hR1 hL1 => kend _ _ _ hR1 hL1 hl)
      · split at h
        · cases h
        · rename_i d'
          split at h
          · cases h
          · rename_i i hi
            have hlen : len = 3 := by
              unfold am_cix at hi
              split at hi <;> first | rfl | cases hi
            subst hlen
            split at h
            · cases h
            · rename_i j hj
              obtain ⟨hl0, hl1, hl2, hl3, hl4⟩ := hB.2.2 _ (am_find_mem hj)
              have hms : c.maxLocals = ls.size := by rw [hml]; exact hl.1.symm
              split at h
              · split at h
                · rename_i st1 S1 hlb
                  cases h
                  exact am_lib_ok hF hx hb hms hts hown hRf hRl (by omega) (by omega) hR hL hl0 hl1 hl2 hl3 hi hd hlb (fun H1 locs1 hR1 hL1 => kend _ _ _ hR1 hL1 hl)
                · cases h
              · rename_i hj4
                split at h
                · cases h
                · rename_i M' as rest hown2
                  split at h
                  · cases h
                  · rename_i r1 S1 c1 n1 hrun
                    cases h
                    obtain ⟨hM', hw⟩ := am_own_mem hown2
                    have hsay := am_sound (D := D) (b := b) (Hb := Hb) (l0 := l0) hF f d' M' (hF.2.2.2.2.2.2.2.2 M' hM').1 0 (lv_args 0 as) [] S r1 S' dc ds hrun
                    exact am_own_ok hF hx hb hms hts hown hK hRf hRl hcs hss hR hL (fun M9 h9 => hl4 M9 (by omega) h9) hi hd hown2 (am_met hF hM' hw hsay) (fun H1 locs1 hR1 hL1 => kend _ _ _ hR1 hL1 hl)
theorem am_many_ok {Ts : List Cond} {P : List am_M} {D : va_G} {cl : List vw_C} {tyL : List (List FieldType)} {AO : List String} {NL : am_NL} {KL b : Nat} {Hb : Heap} {l0 : Launch} (hF : am_Fix Ts P cl tyL AO NL KL) {f d : Nat} {M : am_M} (hB : am_Body Ts P cl AO NL M) : ∀ (n : Nat) {pc : Nat} {lc : am_L} {st : List Value} {S : am_S} {pc' : Nat} {lc' : am_L} {st' : List Value} {S' : am_S} {dc ds : Nat}, am_many P cl tyL f d M n pc lc st S = some (pc', lc', st', S', dc, ds) → am_Leads Ts D cl AO NL KL b Hb l0 d M pc lc st S pc' lc' st' S' dc ds := by
  intro n
  induction n with
  | zero =>
    intro pc lc st S pc' lc' st' S' dc ds h
    cases h
    intro p e R s m args below meth c H locs cells slots Q ls hIn hRf hRl hcs hss hR hL hl kend
    exact kend H locs ls hR hL hl
  | succ n ih =>
    intro pc lc st S pc' lc' st' S' dc ds h
    unfold am_many at h
    split at h
    · cases h
    · rename_i pc1 l1 st1 S1 d1 n1 h1
      split at h
      · cases h
      · rename_i pc2 l2 st2 S2 d2 n2 h2
        cases h
        intro p e R s m args below meth c H locs cells slots Q ls hIn hRf hRl hcs hss hR hL hl kend
        refine am_one_ok hF hB h1 p e R s m args below meth c H locs cells slots Q ls hIn hRf hRl (by omega) (by omega) hR hL hl ?_
        intro H1 locs1 ls1 hR1 hL1 hl1
        refine ih h2 p e R s m args below meth c H1 locs1 _ _ Q ls1 hIn hRf hRl (by omega) (by omega) hR1 hL1 hl1 ?_
        rw [Nat.add_assoc, Nat.add_assoc]
        exact kend
end
section
/-! a run that is done without the script is done with any script -/
theorem am_nth0 {L : Nat × List am_C} {a z : Nat} {x : am_E} (h : am_nth ((0, none), L) a = some (z, some x)) (c1 : am_C) : am_nth (c1, L) a = some (z, some x) := by
  cases a with
  | zero => cases h
  | succ k => exact h
theorem am_nth0_ne {L : Nat × List am_C} {a z : Nat} {x : am_E} (h : am_nth ((0, none), L) a = some (z, some x)) (c1 : am_C) : am_nth (c1, L) a = am_nth ((0, none), L) a := by
  cases a with
  | zero => cases h
  | succ k => rfl
theorem am_getf0 {L : Nat × List am_C} {a ci k : Nat} {v : Value} (h : am_getf ((0, none), L) a ci k = some v) (c1 : am_C) : am_getf (c1, L) a ci k = some v := by
  unfold am_getf at h ⊢
  split at h
  · rename_i z cj fs hS
    rw [am_nth0 hS c1]
    exact h
  · cases h
theorem am_geta0 {L : Nat × List am_C} {a : Nat} {i : Int32} {ty : FieldType} {v : Value} (h : am_geta ((0, none), L) a i ty = some v) (c1 : am_C) : am_geta (c1, L) a i ty = some v ∧ ∀ ty', am_geta (c1, L) a i ty' = am_geta ((0, none), L) a i ty' := by
  cases a with
  | zero => cases h
  | succ k => exact ⟨h, fun _ => rfl⟩
theorem am_seta_s (c1 : am_C) (L : Nat × List am_C) (k : Nat) (i : Int32) (ty : FieldType) (v : Value) : am_seta (c1, L) (k + 1) i ty v = (am_seta ((0, none), L) (k + 1) i ty v).map (fun S => (c1, S.2)) := by
  unfold am_seta
  have e1 : am_nth (c1, L) (k + 1) = am_nth ((0, none), L) (k + 1) := rfl
  rw [e1]
  rcases am_nth ((0, none), L) (k + 1) with _ | ⟨z, _ | ⟨t, n, d, u⟩ | o⟩
  · rfl
  · rfl
  · by_cases hc : t = ty ∧ ¬ (i < 0 ∨ n ≤ i.toNatClampNeg)
    · show (if _ then _ else _) = Option.map _ (if _ then _ else _)
      rw [if_pos hc, if_pos hc]
      rfl
    · show (if _ then _ else _) = Option.map _ (if _ then _ else _)
      rw [if_neg hc, if_neg hc]
      rfl
  · rfl
theorem am_seta0 {L : Nat × List am_C} {a : Nat} {i : Int32} {ty : FieldType} {v : Value} {S' : am_S} (h : am_seta ((0, none), L) a i ty v = some S') (c1 : am_C) : S'.1 = (0, none) ∧ am_seta (c1, L) a i ty v = some (c1, S'.2) ∧ ∀ ty' v', am_seta ((0, none), L) a i ty' v' = none → am_seta (c1, L) a i ty' v' = none := by
  cases a with
  | zero =>
    unfold am_seta at h
    cases h
  | succ k =>
    refine ⟨?_, by rw [am_seta_s, h]; rfl, fun ty' v' h' => by rw [am_seta_s, h']; rfl⟩
    obtain ⟨j, z, n, dv, u, e, hS, hc, rfl⟩ := am_seta_of h
    rfl
set_option maxHeartbeats 4000000 in
theorem am_heap0 {cl : List vw_C} {tyL : List (List FieldType)} {T : am_T} {ins : Instr} {len pc : Nat} {st : List Value} {L : Nat × List am_C} {pc' dc ds : Nat} {st' : List Value} {S' : am_S} (h : am_heap cl tyL T ins len pc st ((0, none), L) = some (pc', st', S', dc, ds)) (c1 : am_C) : S'.1 = (0, none) ∧ am_heap cl tyL T ins len pc st (c1, L) = some (pc', st', (c1, S'.2), dc, ds) := by
  unfold am_heap at h
  split at h
  · split at h
    · rename_i ci k hi
      obtain ⟨v, hv, e9⟩ := Option.map_eq_some_iff.mp h; cases e9
      refine ⟨rfl, ?_⟩
      simp only [am_heap, hi, am_getf0 hv c1, Option.map_some]
    · cases h
  · split at h
    · rename_i ci k hi
      split at h
      · rename_i z cj fs hS
        split at h
        · rename_i tys hty
          split at h
          · rename_i hc
            cases h
            refine ⟨rfl, ?_⟩
            simp only [am_heap, hi, am_nth0 hS c1, hty]
            rw [if_pos hc]
            rfl
          · cases h
        · cases h
      · cases h
    · cases h
  · split at h
    · rename_i ci hi
      obtain ⟨tys, hty, e9⟩ := Option.map_eq_some_iff.mp h; cases e9
      refine ⟨rfl, ?_⟩
      simp only [am_heap, hi, hty, Option.map_some]
      rfl
    · cases h
  · split at h
    · cases h
    · rename_i hc
      split at h
      · rename_i ht
        cases h
        refine ⟨rfl, ?_⟩
        simp only [am_heap]
        rw [if_neg hc, if_pos ht]
        rfl
      · cases h
  · split at h
    · rename_i C hi
      split at h
      · cases h
      · rename_i hc
        cases h
        refine ⟨rfl, ?_⟩
        simp only [am_heap, hi]
        rw [if_neg hc]
        rfl
    · cases h
  · obtain ⟨v, hv, e9⟩ := Option.map_eq_some_iff.mp h; cases e9
    refine ⟨rfl, ?_⟩
    simp only [am_heap, (am_geta0 hv c1).1, Option.map_some]
  · obtain ⟨v, hv, e9⟩ := Option.map_eq_some_iff.mp h; cases e9
    refine ⟨rfl, ?_⟩
    simp only [am_heap, (am_geta0 hv c1).1, Option.map_some]
  · split at h
    · rename_i v hv
      cases h
      refine ⟨rfl, ?_⟩
      simp only [am_heap, (am_geta0 hv c1).1]
    · rename_i hn
      obtain ⟨v, hv, e9⟩ := Option.map_eq_some_iff.mp h; cases e9
      refine ⟨rfl, ?_⟩
      have h9 := (am_geta0 hv c1).2 .byte
      rw [hn] at h9
      simp only [am_heap, h9, (am_geta0 hv c1).1, Option.map_some]
  · split at h
    · rename_i hS
      obtain ⟨v, hv, e9⟩ := Option.map_eq_some_iff.mp h; cases e9
      refine ⟨rfl, ?_⟩
      simp only [am_heap, am_nth0 hS c1, (am_geta0 hv c1).1, Option.map_some]
    · cases h
  · split at h
    · rename_i hS
      cases h
      refine ⟨rfl, ?_⟩
      simp only [am_heap, am_nth0 hS c1]
    · cases h
  · obtain ⟨v, hv, e9⟩ := Option.map_eq_some_iff.mp h; cases e9
    obtain ⟨q1, q2, -⟩ := am_seta0 hv c1
    refine ⟨q1, ?_⟩
    simp only [am_heap, q2, Option.map_some]
  · obtain ⟨v, hv, e9⟩ := Option.map_eq_some_iff.mp h; cases e9
    obtain ⟨q1, q2, -⟩ := am_seta0 hv c1
    refine ⟨q1, ?_⟩
    simp only [am_heap, q2, Option.map_some]
  · split at h
    · rename_i v hv
      cases h
      obtain ⟨q1, q2, -⟩ := am_seta0 hv c1
      refine ⟨q1, ?_⟩
      simp only [am_heap, q2]
    · rename_i hn
      obtain ⟨v, hv, e9⟩ := Option.map_eq_some_iff.mp h; cases e9
      obtain ⟨q1, q2, q3⟩ := am_seta0 hv c1
      refine ⟨q1, ?_⟩
      simp only [am_heap, q3 _ _ hn, q2, Option.map_some]
  · split at h
    · rename_i hS
      split at h
      · rename_i r hr
        obtain ⟨v, hv, e9⟩ := Option.map_eq_some_iff.mp h; cases e9
        obtain ⟨q1, q2, -⟩ := am_seta0 hv c1
        refine ⟨q1, ?_⟩
        simp only [am_heap, am_nth0 hS c1, hr, q2, Option.map_some]
      · cases h
    · cases h
  · split at h
    · rename_i x hi
      cases h
      refine ⟨rfl, ?_⟩
      simp only [am_heap, hi]
    · cases h
  · split at h
    · rename_i x hi
      cases h
      refine ⟨rfl, ?_⟩
      simp only [am_heap, hi]
    · cases h
  · cases h
theorem am_lib0 {j : Nat} {ins : Instr} {st st' : List Value} {L : Nat × List am_C} {S' : am_S} (h : am_lib j ins st ((0, none), L) = some (st', S')) (c1 : am_C) : S'.1 = (0, none) ∧ am_lib j ins st (c1, L) = some (st', (c1, S'.2)) := by
  unfold am_lib at h
  split at h
  · split at h
    · rename_i hw
      cases h
      exact ⟨rfl, by simp only [am_lib]; rw [if_pos hw]⟩
    · cases h
  · split at h
    · rename_i hw
      cases h
      exact ⟨rfl, by simp only [am_lib]; rw [if_pos hw]⟩
    · cases h
  · split at h
    · rename_i hw
      cases h
      exact ⟨rfl, by simp only [am_lib]; rw [if_pos hw]⟩
    · cases h
  · split at h
    · rename_i h0 h1
      split at h
      · rename_i hc
        cases h
        refine ⟨rfl, ?_⟩
        simp only [am_lib]
        rw [am_nth0 h0 c1, am_nth0 h1 c1]
        show (if _ then _ else _) = _
        rw [if_pos hc]
        rfl
      · cases h
    · cases h
  · cases h
theorem am_own0 {P : List am_M} {j : Nat} {ins : Instr} {st : List Value} {L : Nat × List am_C} {q : am_M × List Value × List Value} (h : am_own P j ins st ((0, none), L) = some q) (c1 : am_C) : am_own P j ins st (c1, L) = some q := by
  unfold am_own at h ⊢
  split at h
  · cases h
  · rename_i M hM
    split at h
    · cases h
    · rename_i hlt
      show (if _ then _ else _) = _
      rw [if_neg hlt]
      split at h
      · exact h
      · exact h
      · rename_i b0 rs hrs
        split at h
        · rename_i z ci fs hS
          rw [am_nth0 hS c1]
          exact h
        · cases h
      · exact h
theorem am_heap_ret {cl : List vw_C} {tyL : List (List FieldType)} {T : am_T} {ret : Option FieldType} {ins : Instr} {len : Nat} {st : List Value} {r : Option Value} (h : am_ret ret ins len st = some r) (pc : Nat) (S : am_S) : am_heap cl tyL T ins len pc st S = none := by
  unfold am_ret at h
  split at h
  · rfl
  · rfl
  · rfl
  · rfl
  · cases h
theorem am_heap_cix {cl : List vw_C} {tyL : List (List FieldType)} {T : am_T} {ins : Instr} {len i : Nat} (h : am_cix ins len = some i) (pc : Nat) (st : List Value) (S : am_S) : am_heap cl tyL T ins len pc st S = none := by
  unfold am_cix at h
  split at h
  · rfl
  · rfl
  · rfl
  · cases h
set_option maxHeartbeats 4000000 in
theorem am_run0 {P : List am_M} {cl : List vw_C} {tyL : List (List FieldType)} (c1 : am_C) : ∀ (f d : Nat) (M : am_M) (pc : Nat) (l : am_L) (st : List Value) (L : Nat × List am_C) (r : Option Value) (S' : am_S) (dc ds : Nat), am_run P cl tyL f d M pc l st ((0, none), L) = some (r, S', dc, ds) → S'.1 = (0, none) ∧ am_run P cl tyL f d M pc l st (c1, L) = some (r, (c1, S'.2), dc, ds) := by
  intro f
  induction f with
  | zero =>
    intro d M pc l st L r S' dc ds h
    cases h
  | succ f ih =>
    intro d M pc l st L r S' dc ds h
    unfold am_run at h
    rw [am_run.eq_2]
    split at h
    · cases h
    · rename_i ins len hins
      try rw [hins]
      try dsimp only
      split at h
      · rename_i pc' l' st' hp
        try rw [hp]
        exact ih d M pc' l' st' L r S' dc ds h
      · rename_i hp
        try rw [hp]
        try dsimp only
        split at h
        · rename_i pc' st' S2 d2 n2 hh
          obtain ⟨e1, e2⟩ := am_heap0 hh c1
          obtain ⟨q, hq, e9⟩ := Option.map_eq_some_iff.mp h
          obtain ⟨q1, q2, q3, q4⟩ := q
          simp only [Prod.mk.injEq] at e9
          obtain ⟨rfl, rfl, rfl, rfl⟩ := e9
          have hS2 : S2 = ((0, none), S2.2) := by rw [← e1]
          rw [hS2] at hq
          obtain ⟨e3, e4⟩ := ih d M pc' l st' S2.2 q1 q2 q3 q4 hq
          rw [e2]
          try dsimp only
          rw [e4]
          exact ⟨e3, rfl⟩
        · rename_i hh
          split at h
          · rename_i r0 hr
            cases h
            rw [am_heap_ret hr]
            exact ⟨rfl, rfl⟩
          · rename_i hr
            split at h
            · cases h
            · rename_i d'
              split at h
              · cases h
              · rename_i i hi
                rw [am_heap_cix hi]
                try dsimp only
                split at h
                · cases h
                · rename_i j hj
                  try rw [hj]
                  try dsimp only
                  split at h
                  · rename_i hj4
                    try rw [if_pos hj4]
                    split at h
                    · rename_i st' S2 hlb
                      obtain ⟨e1, e2⟩ := am_lib0 hlb c1
                      have hS2 : S2 = ((0, none), S2.2) := by rw [← e1]
                      rw [hS2] at h
                      rw [e2]
                      exact ih (d' + 1) M (pc + 3) l st' S2.2 r S' dc ds h
                    · cases h
                  · rename_i hj4
                    try rw [if_neg hj4]
                    split at h
                    · cases h
                    · rename_i M' as rest hown2
                      rw [am_own0 hown2 c1]
                      try dsimp only
                      split at h
                      · cases h
                      · rename_i r1 S1 c2 n2 hrun
                        obtain ⟨e1, e2⟩ := ih d' M' 0 (lv_args 0 as) [] L r1 S1 c2 n2 hrun
                        have hS1 : S1 = ((0, none), S1.2) := by rw [← e1]
                        obtain ⟨q, hq, e9⟩ := Option.map_eq_some_iff.mp h
                        obtain ⟨q1, q2, q3, q4⟩ := q
                        simp only [Prod.mk.injEq] at e9
                        obtain ⟨rfl, rfl, rfl, rfl⟩ := e9
                        rw [hS1] at hq
                        obtain ⟨e3, e4⟩ := ih (d' + 1) M (pc + 3) l (r1.toList ++ rest) S1.2 q1 q2 q3 q4 hq
                        rw [e2]
                        try dsimp only
                        rw [e4]
                        exact ⟨e3, rfl⟩
end
section
/-! more fuel does no harm; a run out of stretches -/
set_option maxHeartbeats 4000000 in
theorem am_run_more {P : List am_M} {cl : List vw_C} {tyL : List (List FieldType)} : ∀ (f d : Nat) (M : am_M) (pc : Nat) (l : am_L) (st : List Value) (S : am_S) (x : Option Value × am_S × Nat × Nat), am_run P cl tyL f d M pc l st S = some x → am_run P cl tyL (f + 1) d M pc l st S = some x := by
  intro f
  induction f with
  | zero =>
    intro d M pc l st S x h
    cases h
  | succ f ih =>
    intro d M pc l st S x h
    unfold am_run at h
    rw [am_run.eq_2]
    split at h
    · cases h
    · rename_i ins len hins
      try rw [hins]
      try dsimp only
      split at h
      · rename_i pc' l' st' hp
        try rw [hp]
        exact ih d M pc' l' st' S x h
      · rename_i hp
        try rw [hp]
        try dsimp only
        split at h
        · rename_i pc' st' S2 d2 n2 hh
          obtain ⟨q, hq, e9⟩ := Option.map_eq_some_iff.mp h
          try rw [hh]
          try dsimp only
          rw [ih d M pc' l st' S2 q hq]
          exact congrArg some e9
        · rename_i hh
          try rw [hh]
          try dsimp only
          split at h
          · rename_i r0 hr
            try rw [hr]
            exact h
          · rename_i hr
            try rw [hr]
            try dsimp only
            split at h
            · cases h
            · rename_i d'
              split at h
              · cases h
              · rename_i i hi
                try rw [hi]
                try dsimp only
                split at h
                · cases h
                · rename_i j hj
                  try rw [hj]
                  try dsimp only
                  split at h
                  · rename_i hj4
                    try rw [if_pos hj4]
                    split at h
                    · rename_i st' S2 hlb
                      try rw [hlb]
                      exact ih (d' + 1) M (pc + 3) l st' S2 x h
                    · cases h
                  · rename_i hj4
                    try rw [if_neg hj4]
                    split at h
                    · cases h
                    · rename_i M' as rest hown2
                      try rw [hown2]
                      try dsimp only
                      split at h
                      · cases h
                      · rename_i r1 S1 c2 n2 hrun
                        rw [ih d' M' 0 (lv_args 0 as) [] S _ hrun]
                        try dsimp only
                        obtain ⟨q, hq, e9⟩ := Option.map_eq_some_iff.mp h
                        rw [ih (d' + 1) M (pc + 3) l (r1.toList ++ rest) S1 q hq]
                        exact congrArg some e9
theorem am_run_le {P : List am_M} {cl : List vw_C} {tyL : List (List FieldType)} {f d : Nat} {M : am_M} {pc : Nat} {l : am_L} {st : List Value} {S : am_S} {x : Option Value × am_S × Nat × Nat} (h : am_run P cl tyL f d M pc l st S = some x) : ∀ g, am_run P cl tyL (f + g) d M pc l st S = some x
  | 0 => h
  | g + 1 => am_run_more _ _ _ _ _ _ _ _ (am_run_le h g)
set_option maxHeartbeats 4000000 in
/-- a step, then a run -/
theorem am_run_one {P : List am_M} {cl : List vw_C} {tyL : List (List FieldType)} {f d : Nat} {M : am_M} {pc : Nat} {l : am_L} {st : List Value} {S : am_S} {pc' : Nat} {l' : am_L} {st' : List Value} {S' : am_S} {dc ds : Nat} {r : Option Value} {S2 : am_S} {c2 n2 : Nat} (h1 : am_one P cl tyL f d M pc l st S = some (pc', l', st', S', dc, ds)) (h2 : am_run P cl tyL f d M pc' l' st' S' = some (r, S2, c2, n2)) : am_run P cl tyL (f + 1) d M pc l st S = some (r, S2, dc + c2, ds + n2) := by
  unfold am_one at h1
  rw [am_run.eq_2]
  split at h1
  · cases h1
  · rename_i ins len hins
    try rw [hins]
    try dsimp only
    split at h1
    · rename_i pc1 l1 st1 hp
      cases h1
      try rw [hp]
      try dsimp only
      rw [h2, Nat.zero_add, Nat.zero_add]
    · rename_i hp
      try rw [hp]
      try dsimp only
      split at h1
      · rename_i pc1 st1 S1 d1 n1 hh
        cases h1
        try rw [hh]
        try dsimp only
        rw [h2]
        rfl
      · rename_i hh
        try rw [hh]
        try dsimp only
        split at h1
        · cases h1
        · rename_i d'
          split at h1
          · cases h1
          · rename_i i hi
            have hr : am_ret M.2.2.2.1 ins len st = none := by
              unfold am_cix at hi
              split at hi
              · rfl
              · rfl
              · rfl
              · cases hi
            rw [hr]
            try dsimp only
            try rw [hi]
            try dsimp only
            have h2' : am_run P cl tyL f (d' + 1) M pc' l' st' S' = some (r, S2, c2, n2) := h2
            split at h1
            · cases h1
            · rename_i j hj
              try rw [hj]
              try dsimp only
              split at h1
              · rename_i hj4
                try rw [if_pos hj4]
                split at h1
                · rename_i st1 S1 hlb
                  cases h1
                  try rw [hlb]
                  try dsimp only
                  rw [h2', Nat.zero_add, Nat.zero_add]
                · cases h1
              · rename_i hj4
                try rw [if_neg hj4]
                split at h1
                · cases h1
                · rename_i M' as rest hown2
                  try rw [hown2]
                  try dsimp only
                  split at h1
                  · cases h1
                  · rename_i r1 S1 c1 n1 hrun
                    cases h1
                    try rw [hrun]
                    try dsimp only
                    rw [h2']
                    rfl
theorem am_one_more {P : List am_M} {cl : List vw_C} {tyL : List (List FieldType)} {f d : Nat} {M : am_M} {pc : Nat} {l : am_L} {st : List Value} {S : am_S} {x : Nat × am_L × List Value × am_S × Nat × Nat} (h : am_one P cl tyL f d M pc l st S = some x) : am_one P cl tyL (f + 1) d M pc l st S = some x := by
  unfold am_one at h ⊢
  split at h
  · cases h
  · rename_i ins len hins
    try rw [hins]
    try dsimp only
    split at h
    · rename_i hp
      try rw [hp]
      exact h
    · rename_i hp
      try rw [hp]
      try dsimp only
      split at h
      · rename_i hh
        try rw [hh]
        exact h
      · rename_i hh
        try rw [hh]
        try dsimp only
        split at h
        · cases h
        · rename_i d'
          split at h
          · cases h
          · rename_i i hi
            try rw [hi]
            try dsimp only
            split at h
            · cases h
            · rename_i j hj
              try rw [hj]
              try dsimp only
              split at h
              · rename_i hj4
                try rw [if_pos hj4]
                exact h
              · rename_i hj4
                try rw [if_neg hj4]
                split at h
                · cases h
                · rename_i M' as rest hown2
                  try rw [hown2]
                  try dsimp only
                  split at h
                  · cases h
                  · rename_i r1 S1 c1 n1 hrun
                    rw [am_run_more _ _ _ _ _ _ _ _ hrun]
                    exact h
theorem am_one_le {P : List am_M} {cl : List vw_C} {tyL : List (List FieldType)} {f d : Nat} {M : am_M} {pc : Nat} {l : am_L} {st : List Value} {S : am_S} {x : Nat × am_L × List Value × am_S × Nat × Nat} (h : am_one P cl tyL f d M pc l st S = some x) : ∀ g, am_one P cl tyL (f + g) d M pc l st S = some x
  | 0 => h
  | g + 1 => am_one_more (am_one_le h g)
theorem am_run_many {P : List am_M} {cl : List vw_C} {tyL : List (List FieldType)} {f d : Nat} {M : am_M} : ∀ (n : Nat) {pc : Nat} {l : am_L} {st : List Value} {S : am_S} {pc' : Nat} {l' : am_L} {st' : List Value} {S' : am_S} {dc ds : Nat} {r : Option Value} {S2 : am_S} {c2 n2 : Nat}, am_many P cl tyL f d M n pc l st S = some (pc', l', st', S', dc, ds) → am_run P cl tyL f d M pc' l' st' S' = some (r, S2, c2, n2) → ∃ g, am_run P cl tyL (f + g) d M pc l st S = some (r, S2, dc + c2, ds + n2) := by
  intro n
  induction n with
  | zero =>
    intro pc l st S pc' l' st' S' dc ds r S2 c2 n2 h1 h2
    cases h1
    exact ⟨0, by rw [Nat.zero_add, Nat.zero_add]; exact h2⟩
  | succ n ih =>
    intro pc l st S pc' l' st' S' dc ds r S2 c2 n2 h1 h2
    unfold am_many at h1
    split at h1
    · cases h1
    · rename_i pc1 l1 st1 S1 d1 n1 ho
      split at h1
      · cases h1
      · rename_i pc3 l3 st3 S3 d3 n3 hm
        cases h1
        obtain ⟨g, hg⟩ := ih hm h2
        refine ⟨g + 1, ?_⟩
        have h9 := am_run_one (am_one_le ho g) hg
        rw [Nat.add_assoc, Nat.add_assoc]
        exact h9
/-- a call whose run is known -/
theorem am_one_call {P : List am_M} {cl : List vw_C} {tyL : List (List FieldType)} {f d : Nat} {M : am_M} {pc : Nat} {l : am_L} {st : List Value} {S : am_S} {ins : Instr} {i j : Nat} {M' : am_M} {as rest : List Value} {r : Option Value} {S1 : am_S} {c1 n1 : Nat} (hf : am_find pc M.2.2.2.2.2.1 = some (ins, 3)) (hi : am_cix ins 3 = some i) (hj : am_find i M.2.2.2.2.1.2.2.2.2.2 = some (j + 4)) (ho : am_own P j ins st S = some (M', as, rest)) (hr : am_run P cl tyL f d M' 0 (lv_args 0 as) [] S = some (r, S1, c1, n1)) : am_one P cl tyL f (d + 1) M pc l st S = some (pc + 3, l, r.toList ++ rest, S1, c1, n1) := by
  have hp : am_pure M.2.2.1 ins 3 pc l st = none := by
    unfold am_cix at hi
    split at hi
    · rfl
    · rfl
    · rfl
    · cases hi
  unfold am_one
  rw [hf]
  dsimp only
  rw [hp]
  dsimp only
  rw [am_heap_cix hi]
  dsimp only
  rw [hi]
  dsimp only
  rw [hj]
  dsimp only
  rw [if_neg (by omega), Nat.add_sub_cancel, ho]
  dsimp only
  rw [hr]
end
