/-! the machine's steps that touch no store, and what they are on the JVM's machine -/
/-- a reference's number becomes its address -/
def am_cv (ad : Nat → Nat) : Value → Value
  | .ref k => .ref (ad k)
  | v => v
theorem am_cv_cat (ad : Nat → Nat) (v : Value) : (am_cv ad v).category = v.category := by cases v <;> rfl
def am_cl (ad : Nat → Nat) (l : am_L) : am_L := l.map (fun q => (q.1, am_cv ad q.2))
def am_geti (i : Nat) (l : am_L) : Option Int32 := match am_find i l with
  | some (.int x) => some x
  | _ => none
def am_getl (i : Nat) (l : am_L) : Option Int64 := match am_find i l with
  | some (.long x) => some x
  | _ => none
def am_geta' (i : Nat) (l : am_L) : Option Nat := match am_find i l with
  | some (.ref x) => some x
  | _ => none
theorem am_cl_mem {ad : Nat → Nat} {l : am_L} {i : Nat} {v : Value} (h : am_find i l = some v) : (i, am_cv ad v) ∈ am_cl ad l := List.mem_map.mpr ⟨(i, v), am_find_mem h, rfl⟩
theorem am_geti_of {ad : Nat → Nat} {ls : Array Slot} {nL i : Nat} {l : am_L} {x : Int32} (hl : lv_has ls nL (am_cl ad l)) (h : am_geti i l = some x) : ls[i]? = some (.val (.int x)) := by
  unfold am_geti at h
  split at h
  · rename_i e
    cases h
    exact hl.2.2 _ (am_cl_mem e)
  · cases h
theorem am_getl_of {ad : Nat → Nat} {ls : Array Slot} {nL i : Nat} {l : am_L} {x : Int64} (hl : lv_has ls nL (am_cl ad l)) (h : am_getl i l = some x) : ls[i]? = some (.val (.long x)) := by
  unfold am_getl at h
  split at h
  · rename_i e
    cases h
    exact hl.2.2 _ (am_cl_mem e)
  · cases h
theorem am_geta'_of {ad : Nat → Nat} {ls : Array Slot} {nL i : Nat} {l : am_L} {x : Nat} (hl : lv_has ls nL (am_cl ad l)) (h : am_geta' i l = some x) : ls[i]? = some (.val (.ref (ad x))) := by
  unfold am_geta' at h
  split at h
  · rename_i e
    cases h
    exact hl.2.2 _ (am_cl_mem e)
  · cases h
theorem am_geti_at {ad : Nat → Nat} {i : Nat} {l : am_L} {x : Int32} (h : am_geti i l = some x) : ∃ j : Nat, (am_cl ad l)[j]? = some (i, .int x) := by
  unfold am_geti at h
  split at h
  · rename_i e
    cases h
    exact List.getElem?_of_mem (am_cl_mem (ad := ad) e)
  · cases h
theorem am_st1_cv (ad : Nat → Nat) (i : Nat) (v : Value) (l : am_L) : (i, am_cv ad v) :: (am_cl ad l).filter (fun q => !(q.1 == i) && !(q.1 + 1 == i && q.2.category == 2)) = am_cl ad (am_st1 i v l) := by
  unfold am_st1 am_cl
  rw [List.map_cons, List.filter_map]
  congr 2
  apply List.filter_congr
  intro q _
  simp [Function.comp, am_cv_cat]
theorem am_st2_cv (ad : Nat → Nat) (i : Nat) (v : Value) (l : am_L) : (i, am_cv ad v) :: (am_cl ad l).filter (fun q => !(q.1 == i) && (!(q.1 == i + 1) && !(q.1 + 1 == i && q.2.category == 2))) = am_cl ad (am_st2 i v l) := by
  unfold am_st2 am_cl
  rw [List.map_cons, List.filter_map]
  congr 2
  apply List.filter_congr
  intro q _
  simp [Function.comp, am_cv_cat]
def am_pure (nL : Nat) (ins : Instr) (len pc : Nat) (l : am_L) (st : List Value) : Option (Nat × am_L × List Value) := match ins, len, st with
  | .iconst n, 1, st => some (pc + 1, l, .int (Int32.ofInt n) :: st)
  | .bipush n, 2, st => some (pc + 2, l, .int (Int8.ofInt n).toInt32 :: st)
  | .sipush n, 3, st => some (pc + 3, l, .int (Int16.ofInt n).toInt32 :: st)
  | .lconst n, 1, st => some (pc + 1, l, .long (Int64.ofNat n.val) :: st)
  | .iload_n i, 1, st => (am_geti i.val l).map fun x => (pc + 1, l, .int x :: st)
  | .iload i, 2, st => (am_geti i l).map fun x => (pc + 2, l, .int x :: st)
  | .lload_n i, 1, st => (am_getl i.val l).map fun x => (pc + 1, l, .long x :: st)
  | .lload i, 2, st => (am_getl i l).map fun x => (pc + 2, l, .long x :: st)
  | .aload_n i, 1, st => (am_geta' i.val l).map fun x => (pc + 1, l, .ref x :: st)
  | .aload i, 2, st => (am_geta' i l).map fun x => (pc + 2, l, .ref x :: st)
  | .istore_n i, 1, .int x :: st => if i.val < nL then some (pc + 1, am_st1 i.val (.int x) l, st) else none
  | .istore i, 2, .int x :: st => if i < nL then some (pc + 2, am_st1 i (.int x) l, st) else none
  | .astore_n i, 1, .ref x :: st => if i.val < nL then some (pc + 1, am_st1 i.val (.ref x) l, st) else none
  | .astore i, 2, .ref x :: st => if i < nL then some (pc + 2, am_st1 i (.ref x) l, st) else none
  | .lstore_n i, 1, .long x :: st => if i.val + 1 < nL then some (pc + 1, am_st2 i.val (.long x) l, st) else none
  | .lstore i, 2, .long x :: st => if i + 1 < nL then some (pc + 2, am_st2 i (.long x) l, st) else none
  | .iinc i n, 3, st => if i < nL then (am_geti i l).map fun x => (pc + 3, am_st1 i (.int (x + Int32.ofInt n)) l, st) else none
  | .iadd, 1, .int y :: .int x :: st => some (pc + 1, l, .int (x + y) :: st)
  | .isub, 1, .int y :: .int x :: st => some (pc + 1, l, .int (x - y) :: st)
  | .imul, 1, .int y :: .int x :: st => some (pc + 1, l, .int (x * y) :: st)
  | .iand, 1, .int y :: .int x :: st => some (pc + 1, l, .int (x &&& y) :: st)
  | .ior, 1, .int y :: .int x :: st => some (pc + 1, l, .int (x ||| y) :: st)
  | .ixor, 1, .int y :: .int x :: st => some (pc + 1, l, .int (x ^^^ y) :: st)
  | .ishl, 1, .int y :: .int x :: st => some (pc + 1, l, .int (x <<< (y &&& 31)) :: st)
  | .ishr, 1, .int y :: .int x :: st => some (pc + 1, l, .int (x >>> (y &&& 31)) :: st)
  | .idiv, 1, .int y :: .int x :: st => if y = 0 then none else some (pc + 1, l, .int (x / y) :: st)
  | .irem, 1, .int y :: .int x :: st => if y = 0 then none else some (pc + 1, l, .int (x - x / y * y) :: st)
  | .iushr, 1, .int y :: .int x :: st => some (pc + 1, l, .int (x.toUInt32 >>> (y.toUInt32 &&& Int32.toUInt32 31)).toInt32 :: st)
  | .ladd, 1, .long y :: .long x :: st => some (pc + 1, l, .long (x + y) :: st)
  | .lsub, 1, .long y :: .long x :: st => some (pc + 1, l, .long (x - y) :: st)
  | .lmul, 1, .long y :: .long x :: st => some (pc + 1, l, .long (x * y) :: st)
  | .land, 1, .long y :: .long x :: st => some (pc + 1, l, .long (x &&& y) :: st)
  | .lor, 1, .long y :: .long x :: st => some (pc + 1, l, .long (x ||| y) :: st)
  | .lxor, 1, .long y :: .long x :: st => some (pc + 1, l, .long (x ^^^ y) :: st)
  | .lshl, 1, .int y :: .long x :: st => some (pc + 1, l, .long (x <<< (y.toInt64 &&& 63)) :: st)
  | .lshr, 1, .int y :: .long x :: st => some (pc + 1, l, .long (x >>> (y.toInt64 &&& 63)) :: st)
  | .lushr, 1, .int y :: .long x :: st => some (pc + 1, l, .long ((x.toUInt64 >>> (y.toInt64.toUInt64 &&& Int64.toUInt64 63)).toInt64) :: st)
  | .lcmp, 1, .long y :: .long x :: st => some (pc + 1, l, .int (lg_cmp x y) :: st)
  | .i2l, 1, .int x :: st => some (pc + 1, l, .long x.toInt64 :: st)
  | .l2i, 1, .long x :: st => some (pc + 1, l, .int x.toInt32 :: st)
  | .i2b, 1, .int x :: st => some (pc + 1, l, .int x.toInt8.toInt32 :: st)
  | .dup, 1, v :: st => if v.category = 1 then some (pc + 1, l, v :: v :: st) else none
  | .pop, 1, v :: st => if v.category = 1 then some (pc + 1, l, st) else none
  | .dup2, 1, v :: w :: st => if v.category = 1 ∧ w.category = 1 then some (pc + 1, l, v :: w :: v :: w :: st) else none
  | .ifCond .ne off, 3, .int x :: st => (am_tgt pc off).map fun t => (if x = 0 then pc + 3 else t, l, st)
  | .if_icmp .ne off, 3, .int y :: .int x :: st => (am_tgt pc off).map fun t => (if x = y then pc + 3 else t, l, st)
  | .ifCond .eq off, 3, .int x :: st => (am_tgt pc off).map fun t => (if x = 0 then t else pc + 3, l, st)
  | .ifCond .lt off, 3, .int x :: st => (am_tgt pc off).map fun t => (if x < 0 then t else pc + 3, l, st)
  | .ifCond .ge off, 3, .int x :: st => (am_tgt pc off).map fun t => (if 0 ≤ x then t else pc + 3, l, st)
  | .ifCond .gt off, 3, .int x :: st => (am_tgt pc off).map fun t => (if 0 < x then t else pc + 3, l, st)
  | .ifCond .le off, 3, .int x :: st => (am_tgt pc off).map fun t => (if x ≤ 0 then t else pc + 3, l, st)
  | .if_icmp .eq off, 3, .int y :: .int x :: st => (am_tgt pc off).map fun t => (if x = y then t else pc + 3, l, st)
  | .if_icmp .lt off, 3, .int y :: .int x :: st => (am_tgt pc off).map fun t => (if x < y then t else pc + 3, l, st)
  | .if_icmp .ge off, 3, .int y :: .int x :: st => (am_tgt pc off).map fun t => (if y ≤ x then t else pc + 3, l, st)
  | .if_icmp .gt off, 3, .int y :: .int x :: st => (am_tgt pc off).map fun t => (if y < x then t else pc + 3, l, st)
  | .if_icmp .le off, 3, .int y :: .int x :: st => (am_tgt pc off).map fun t => (if x ≤ y then t else pc + 3, l, st)
  | .goto off, 3, st => (am_tgt pc off).map fun t => (t, l, st)
  | .tableswitch dflt lo hi offs, _, .int x :: st => if x.toInt < lo ∨ hi < x.toInt then (am_tgt pc dflt).map fun t => (t, l, st) else match offs.toList[(x.toInt - lo).toNat]? with | some off => (am_tgt pc off).map fun t => (t, l, st) | none => none
  | .lookupswitch dflt ps, _, .int x :: st => if (ps.toList.zip (ps.toList.drop 1)).all (fun (a, next) => a.1 < next.1) = true then (am_tgt pc (Op.lookupswitch.offset ps.toList dflt x.toInt)).map fun t => (t, l, st) else none
  | _, _, _ => none
section AMP
variable {p : Program} {l0 : Launch} {e : Env} {R : Room} {s : State} {m : MethodId} {args : Array Value} {below : List Frame} {meth : Method} {c : Code} {H : Heap} {locs : List Loc} {cells slots : Nat} {Q : State → Prop}
set_option maxHeartbeats 4000000 in
set_option maxRecDepth 100000 in
theorem am_pure_ok {ad : Nat → Nat} {cc : ByteArray} (hx : p.tables.exec = Jvm.exec) (hb : c.code = cc) {nL : Nat} {ins : Instr} {len pc : Nat} {l : am_L} {st : List Value} {pc' : Nat} {l' : am_L} {st' : List Value} (hd : decode cc pc = .ok (ins, len)) (h : am_pure nL ins len pc l st = some (pc', l', st')) {ls : Array Slot} (hl : lv_has ls nL (am_cl ad l))
    (k : ∀ ls' : Array Slot, lv_has ls' nL (am_cl ad l') → W p l0 e R s m args below meth c H locs cells slots Q (F0 m pc' ls' (st'.map (am_cv ad)))) : W p l0 e R s m args below meth c H locs cells slots Q (F0 m pc ls (st.map (am_cv ad))) := by
  unfold am_pure at h
  split at h
  · cases h; exact lv_iconst hx hb hd rfl (k _ hl)
  · cases h; exact lv_bipush hx hb hd rfl (k _ hl)
  · cases h; exact lv_sipush hx hb hd rfl (k _ hl)
  · cases h; exact lv_lconst hx hb hd rfl (k _ hl)
  · obtain ⟨x, hg, e⟩ := Option.map_eq_some_iff.mp h; cases e; exact lv_iload_n hx hb hd rfl (am_geti_of hl hg) (k _ hl)
  · obtain ⟨x, hg, e⟩ := Option.map_eq_some_iff.mp h; cases e; exact lv_iload hx hb hd (am_geti_of hl hg) (k _ hl)
  · obtain ⟨x, hg, e⟩ := Option.map_eq_some_iff.mp h; cases e; exact lv_lload_n hx hb hd rfl (am_getl_of hl hg) (k _ hl)
  · obtain ⟨x, hg, e⟩ := Option.map_eq_some_iff.mp h; cases e; exact lv_lload hx hb hd (am_getl_of hl hg) (k _ hl)
  · obtain ⟨x, hg, e⟩ := Option.map_eq_some_iff.mp h; cases e; exact lv_aload_n hx hb hd rfl (am_geta'_of hl hg) (k _ hl)
  · obtain ⟨x, hg, e⟩ := Option.map_eq_some_iff.mp h; cases e; exact lv_aload hx hb hd (am_geta'_of hl hg) (k _ hl)
  · split at h
    · rename_i hn; cases h; exact lv_istore_n hx hb hd rfl hl hn (am_st1_cv ad _ (.int _) _) (fun ls h2 => k _ h2)
    · cases h
  · split at h
    · rename_i hn; cases h; exact lv_istore hx hb hd hl hn (am_st1_cv ad _ (.int _) _) (fun ls h2 => k _ h2)
    · cases h
  · split at h
    · rename_i hn; cases h; exact lv_astore_n hx hb hd rfl hl hn (am_st1_cv ad _ (.ref _) _) (fun ls h2 => k _ h2)
    · cases h
  · split at h
    · rename_i hn; cases h; exact lv_astore hx hb hd hl hn (am_st1_cv ad _ (.ref _) _) (fun ls h2 => k _ h2)
    · cases h
  · split at h
    · rename_i hn; cases h; exact lv_lstore_n hx hb hd rfl hl hn (am_st2_cv ad _ (.long _) _) (fun ls h2 => k _ h2)
    · cases h
  · split at h
    · rename_i hn; cases h; exact lv_lstore hx hb hd hl hn (am_st2_cv ad _ (.long _) _) (fun ls h2 => k _ h2)
    · cases h
  · split at h
    · rename_i hn; obtain ⟨x, hg, e⟩ := Option.map_eq_some_iff.mp h; cases e; obtain ⟨j, hj⟩ := am_geti_at (ad := ad) hg; exact lv_iinc hx hb hd hl hj rfl hn (am_st1_cv ad _ (.int _) _) (fun ls h2 => k _ h2)
    · cases h
  · cases h; exact lv_iadd hx hb hd (k _ hl)
  · cases h; exact lv_isub hx hb hd (k _ hl)
  · cases h; exact lv_imul hx hb hd (k _ hl)
  · cases h; exact lv_iand hx hb hd (k _ hl)
  · cases h; exact lv_ior hx hb hd (k _ hl)
  · cases h; exact lv_ixor hx hb hd (k _ hl)
  · cases h; exact lv_ishl hx hb hd (k _ hl)
  · cases h; exact lv_ishr hx hb hd (k _ hl)
  · split at h
    · cases h
    · rename_i hn; cases h; exact lv_idiv hx hb hd hn (k _ hl)
  · split at h
    · cases h
    · rename_i hn; cases h; exact lv_irem hx hb hd hn (k _ hl)
  · cases h; exact lv_iushr hx hb hd rfl (k _ hl)
  · cases h; exact lv_ladd hx hb hd (k _ hl)
  · cases h; exact lv_lsub hx hb hd (k _ hl)
  · cases h; exact lv_lmul hx hb hd (k _ hl)
  · cases h; exact lv_land hx hb hd (k _ hl)
  · cases h; exact lv_lor hx hb hd (k _ hl)
  · cases h; exact lv_lxor hx hb hd (k _ hl)
  · cases h; exact lv_lshl hx hb hd rfl (k _ hl)
  · cases h; exact lv_lshr hx hb hd rfl (k _ hl)
  · cases h; exact lv_lushr hx hb hd rfl (k _ hl)
  · cases h; exact W.lcmp hx hb hd (k _ hl)
  · cases h; exact lv_i2l hx hb hd rfl (k _ hl)
  · cases h; exact lv_l2i hx hb hd rfl (k _ hl)
  · cases h; exact lv_i2b hx hb hd rfl (k _ hl)
  · split at h
    · rename_i hv; cases h; exact lv_dup hx hb hd ((am_cv_cat ad _).trans hv) (k _ hl)
    · cases h
  · split at h
    · rename_i hv; cases h; exact lv_pop hx hb hd ((am_cv_cat ad _).trans hv) (k _ hl)
    · cases h
  · split at h
    · rename_i hv; cases h; exact lv_dup2_11 hx hb hd ((am_cv_cat ad _).trans hv.1) ((am_cv_cat ad _).trans hv.2) (k _ hl)
    · cases h
  · obtain ⟨t, ht, e⟩ := Option.map_eq_some_iff.mp h; cases e; exact lv_if_ne hx hb hd (am_tgt_of ht) (fun cc9 => by have k9 := k _ hl; rw [if_neg cc9] at k9; exact k9) (fun cc9 => by have k9 := k _ hl; rw [if_pos cc9] at k9; exact k9)
  · obtain ⟨t, ht, e⟩ := Option.map_eq_some_iff.mp h; cases e; exact lv_icmp_ne hx hb hd (am_tgt_of ht) (fun cc9 => by have k9 := k _ hl; rw [if_neg cc9] at k9; exact k9) (fun cc9 => by have k9 := k _ hl; rw [if_pos cc9] at k9; exact k9)
  · obtain ⟨t, ht, e⟩ := Option.map_eq_some_iff.mp h; cases e; exact lv_if_eq hx hb hd (am_tgt_of ht) (fun cc9 => by have k9 := k _ hl; rw [if_pos cc9] at k9; exact k9) (fun cc9 => by have k9 := k _ hl; rw [if_neg cc9] at k9; exact k9)
  · obtain ⟨t, ht, e⟩ := Option.map_eq_some_iff.mp h; cases e; exact lv_if_lt hx hb hd (am_tgt_of ht) (fun cc9 => by have k9 := k _ hl; rw [if_pos cc9] at k9; exact k9) (fun cc9 => by have k9 := k _ hl; rw [if_neg cc9] at k9; exact k9)
  · obtain ⟨t, ht, e⟩ := Option.map_eq_some_iff.mp h; cases e; exact lv_if_ge hx hb hd (am_tgt_of ht) (fun cc9 => by have k9 := k _ hl; rw [if_pos cc9] at k9; exact k9) (fun cc9 => by have k9 := k _ hl; rw [if_neg cc9] at k9; exact k9)
  · obtain ⟨t, ht, e⟩ := Option.map_eq_some_iff.mp h; cases e; exact lv_if_gt hx hb hd (am_tgt_of ht) (fun cc9 => by have k9 := k _ hl; rw [if_pos cc9] at k9; exact k9) (fun cc9 => by have k9 := k _ hl; rw [if_neg cc9] at k9; exact k9)
  · obtain ⟨t, ht, e⟩ := Option.map_eq_some_iff.mp h; cases e; exact lv_if_le hx hb hd (am_tgt_of ht) (fun cc9 => by have k9 := k _ hl; rw [if_pos cc9] at k9; exact k9) (fun cc9 => by have k9 := k _ hl; rw [if_neg cc9] at k9; exact k9)
  · obtain ⟨t, ht, e⟩ := Option.map_eq_some_iff.mp h; cases e; exact lv_icmp_eq hx hb hd (am_tgt_of ht) (fun cc9 => by have k9 := k _ hl; rw [if_pos cc9] at k9; exact k9) (fun cc9 => by have k9 := k _ hl; rw [if_neg cc9] at k9; exact k9)
  · obtain ⟨t, ht, e⟩ := Option.map_eq_some_iff.mp h; cases e; exact lv_icmp_lt hx hb hd (am_tgt_of ht) (fun cc9 => by have k9 := k _ hl; rw [if_pos cc9] at k9; exact k9) (fun cc9 => by have k9 := k _ hl; rw [if_neg cc9] at k9; exact k9)
  · obtain ⟨t, ht, e⟩ := Option.map_eq_some_iff.mp h; cases e; exact lv_icmp_ge hx hb hd (am_tgt_of ht) (fun cc9 => by have k9 := k _ hl; rw [if_pos cc9] at k9; exact k9) (fun cc9 => by have k9 := k _ hl; rw [if_neg cc9] at k9; exact k9)
  · obtain ⟨t, ht, e⟩ := Option.map_eq_some_iff.mp h; cases e; exact lv_icmp_gt hx hb hd (am_tgt_of ht) (fun cc9 => by have k9 := k _ hl; rw [if_pos cc9] at k9; exact k9) (fun cc9 => by have k9 := k _ hl; rw [if_neg cc9] at k9; exact k9)
  · obtain ⟨t, ht, e⟩ := Option.map_eq_some_iff.mp h; cases e; exact lv_icmp_le hx hb hd (am_tgt_of ht) (fun cc9 => by have k9 := k _ hl; rw [if_pos cc9] at k9; exact k9) (fun cc9 => by have k9 := k _ hl; rw [if_neg cc9] at k9; exact k9)
  · obtain ⟨t, ht, e⟩ := Option.map_eq_some_iff.mp h; cases e; exact lv_goto hx hb hd (am_tgt_of ht) (k _ hl)
  · split at h
    · rename_i hc; obtain ⟨t, ht, e⟩ := Option.map_eq_some_iff.mp h; cases e; exact lv_tableOut hx hb hd hc (am_tgt_of ht) (k _ hl)
    · rename_i hc
      split at h
      · rename_i off ho; obtain ⟨t, ht, e⟩ := Option.map_eq_some_iff.mp h; cases e; exact lv_tableIn hx hb hd (fun q => hc (Or.inl q)) (fun q => hc (Or.inr q)) (by rw [← Array.getElem?_toList]; exact ho) (am_tgt_of ht) (k _ hl)
      · cases h
  · split at h
    · rename_i hc; obtain ⟨t, ht, e⟩ := Option.map_eq_some_iff.mp h; cases e; exact lv_lookup hx hb hd hc rfl (am_tgt_of ht) (k _ hl)
    · cases h
  · cases h
end AMP
