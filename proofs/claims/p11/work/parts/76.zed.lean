/-! RUNS OVER INTEGERS: a number of the machine is told as an integer that it is the image of; a heap as functions of cell and place -/
/-- a value: an int, a long, a reference -/
abbrev zv : Type := Int ⊕ (Int ⊕ Nat)
abbrev zl : Type := List (Nat × zv)
def zc : zv → Value
  | .inl z => .int (Int32.ofInt z)
  | .inr (.inl z) => .long (Int64.ofInt z)
  | .inr (.inr a) => .ref a
def zk : zv → Nat
  | .inr (.inl _) => 2
  | _ => 1
theorem zc_cat (v : zv) : (zc v).category = zk v := by
  match v with
  | .inl _ => rfl
  | .inr (.inl _) => rfl
  | .inr (.inr _) => rfl
/-- the locals hold these -/
def zH (l : zl) (lc : am_L) : Prop := ∀ q ∈ l, am_find q.1 lc = some (zc q.2)
def zgi (i : Nat) (l : zl) : Option Int := match am_find i l with
  | some (.inl x) => some x
  | _ => none
def zgl (i : Nat) (l : zl) : Option Int := match am_find i l with
  | some (.inr (.inl x)) => some x
  | _ => none
def zga (i : Nat) (l : zl) : Option Nat := match am_find i l with
  | some (.inr (.inr x)) => some x
  | _ => none
theorem zgi_ok {i : Nat} {l : zl} {lc : am_L} {x : Int} (hl : zH l lc) (h : zgi i l = some x) : am_geti i lc = some (Int32.ofInt x) := by
  unfold zgi at h
  split at h
  · rename_i e
    cases h
    unfold am_geti
    rw [hl _ (am_find_mem e)]
    rfl
  · cases h
theorem zgl_ok {i : Nat} {l : zl} {lc : am_L} {x : Int} (hl : zH l lc) (h : zgl i l = some x) : am_getl i lc = some (Int64.ofInt x) := by
  unfold zgl at h
  split at h
  · rename_i e
    cases h
    unfold am_getl
    rw [hl _ (am_find_mem e)]
    rfl
  · cases h
theorem zga_ok {i : Nat} {l : zl} {lc : am_L} {x : Nat} (hl : zH l lc) (h : zga i l = some x) : am_geta' i lc = some x := by
  unfold zga at h
  split at h
  · rename_i e
    cases h
    unfold am_geta'
    rw [hl _ (am_find_mem e)]
    rfl
  · cases h
def zins (i : Nat) (v : zv) : zl → zl
  | [] => [(i, v)]
  | q :: l => bif Nat.blt i q.1 then (i, v) :: q :: l else q :: zins i v l
theorem zins_mem {i : Nat} {v : zv} {q : Nat × zv} : ∀ {l : zl}, q ∈ zins i v l → q = (i, v) ∨ q ∈ l
  | [], h => Or.inl (List.mem_singleton.mp h)
  | p :: l, h => by
    unfold zins at h
    cases hb : Nat.blt i p.1
    · rw [hb] at h
      rcases List.mem_cons.mp h with h | h
      · exact Or.inr (h ▸ List.mem_cons_self)
      · rcases zins_mem h with h | h
        · exact Or.inl h
        · exact Or.inr (List.mem_cons_of_mem _ h)
    · rw [hb] at h
      rcases List.mem_cons.mp h with h | h
      · exact Or.inl h
      · exact Or.inr h
theorem z_beq (a b : Nat) : Nat.beq a b = (a == b) := by
  by_cases e : a = b
  · subst e
    rw [Nat.beq_refl]
    simp
  · have h1 : Nat.beq a b = false := by
      cases h : Nat.beq a b
      · rfl
      · exact absurd (Nat.eq_of_beq_eq_true h) e
    rw [h1]
    exact (beq_false_of_ne e).symm
def zst1 (i : Nat) (v : zv) (l : zl) : zl := zins i v (l.filter (fun q => !(Nat.beq q.1 i) && !(Nat.beq (q.1 + 1) i && Nat.beq (zk q.2) 2)))
def zst2 (i : Nat) (v : zv) (l : zl) : zl := zins i v (l.filter (fun q => !(Nat.beq q.1 i) && (!(Nat.beq q.1 (i + 1)) && !(Nat.beq (q.1 + 1) i && Nat.beq (zk q.2) 2))))
theorem am_find_filter {p : Nat × Value → Bool} {k : Nat} {v : Value} (hp : p (k, v) = true) : ∀ {l : am_L}, am_find k l = some v → am_find k (l.filter p) = some v
  | [], h => h
  | q :: l, h => by
    rw [am_find_cons] at h
    by_cases e : q.1 = k
    · rw [if_pos e] at h
      cases h
      have e2 : q = (k, q.2) := by rw [← e]
      rw [List.filter_cons_of_pos (by rw [e2]; exact hp), am_find_cons, if_pos e]
    · rw [if_neg e] at h
      by_cases hq : p q = true
      · rw [List.filter_cons_of_pos hq, am_find_cons, if_neg e]
        exact am_find_filter hp h
      · rw [List.filter_cons_of_neg hq]
        exact am_find_filter hp h
theorem zst1_ok {i : Nat} {l : zl} {lc : am_L} (v : zv) (hl : zH l lc) : zH (zst1 i v l) (am_st1 i (zc v) lc) := by
  intro q hq
  unfold am_st1
  rw [am_find_cons]
  rcases zins_mem hq with rfl | h
  · rw [if_pos rfl]
  · obtain ⟨h1, h2⟩ := List.mem_filter.mp h
    simp only [Bool.and_eq_true, Bool.not_eq_true', z_beq, beq_eq_false_iff_ne, ne_eq] at h2
    rw [if_neg (fun e => h2.1 e.symm)]
    refine am_find_filter ?_ (hl q h1)
    simp only [zc_cat, Bool.and_eq_true, Bool.not_eq_true', beq_eq_false_iff_ne, ne_eq]
    exact h2
theorem zst2_ok {i : Nat} {l : zl} {lc : am_L} (v : zv) (hl : zH l lc) : zH (zst2 i v l) (am_st2 i (zc v) lc) := by
  intro q hq
  unfold am_st2
  rw [am_find_cons]
  rcases zins_mem hq with rfl | h
  · rw [if_pos rfl]
  · obtain ⟨h1, h2⟩ := List.mem_filter.mp h
    simp only [Bool.and_eq_true, Bool.not_eq_true', z_beq, beq_eq_false_iff_ne, ne_eq] at h2
    rw [if_neg (fun e => h2.1 e.symm)]
    refine am_find_filter ?_ (hl q h1)
    simp only [zc_cat, Bool.and_eq_true, Bool.not_eq_true', beq_eq_false_iff_ne, ne_eq]
    exact h2

def z_and (x y : Int) : Int := ((Int32.ofInt x) &&& (Int32.ofInt y)).toInt
def z_or (x y : Int) : Int := ((Int32.ofInt x) ||| (Int32.ofInt y)).toInt
def z_xor (x y : Int) : Int := ((Int32.ofInt x) ^^^ (Int32.ofInt y)).toInt
def z_shl (x y : Int) : Int := ((Int32.ofInt x) <<< ((Int32.ofInt y) &&& 31)).toInt
def z_shr (x y : Int) : Int := ((Int32.ofInt x) >>> ((Int32.ofInt y) &&& 31)).toInt
def z_ushr (x y : Int) : Int := (((Int32.ofInt x).toUInt32 >>> ((Int32.ofInt y).toUInt32 &&& Int32.toUInt32 31)).toInt32).toInt
def z_land (x y : Int) : Int := ((Int64.ofInt x) &&& (Int64.ofInt y)).toInt
def z_lor (x y : Int) : Int := ((Int64.ofInt x) ||| (Int64.ofInt y)).toInt
def z_lxor (x y : Int) : Int := ((Int64.ofInt x) ^^^ (Int64.ofInt y)).toInt
def z_lshl (x y : Int) : Int := ((Int64.ofInt x) <<< ((Int32.ofInt y).toInt64 &&& 63)).toInt
def z_lshr (x y : Int) : Int := ((Int64.ofInt x) >>> ((Int32.ofInt y).toInt64 &&& 63)).toInt
def z_lushr (x y : Int) : Int := (((Int64.ofInt x).toUInt64 >>> ((Int32.ofInt y).toInt64.toUInt64 &&& Int64.toUInt64 63)).toInt64).toInt
def z_cmp (x y : Int) : Int := (lg_cmp (Int64.ofInt x) (Int64.ofInt y)).toInt
def z_i2l (x : Int) : Int := ((Int32.ofInt x).toInt64).toInt
def z_l2i (x : Int) : Int := ((Int64.ofInt x).toInt32).toInt
def z_i2b (x : Int) : Int := ((Int32.ofInt x).toInt8.toInt32).toInt
theorem z_blt {a b : Nat} (h : Nat.blt a b = true) : a < b := Nat.le_of_ble_eq_true h
theorem z_i8 {n : Int} (h1 : -128 ≤ n) (h2 : n ≤ 127) : (Int8.ofInt n).toInt32 = Int32.ofInt n := by
  apply Int32.toInt.inj
  rw [Int8.toInt_toInt32, Int8.toInt_ofInt_of_le (by omega) (by omega), Int32.toInt_ofInt_of_le (by omega) (by omega)]
theorem z_i16 {n : Int} (h1 : -32768 ≤ n) (h2 : n ≤ 32767) : (Int16.ofInt n).toInt32 = Int32.ofInt n := by
  apply Int32.toInt.inj
  rw [Int16.toInt_toInt32, Int16.toInt_ofInt_of_le (by omega) (by omega), Int32.toInt_ofInt_of_le (by omega) (by omega)]
def zb8 (n : Int) : Bool := match n with
  | .ofNat k => Nat.ble k 127
  | .negSucc k => Nat.ble k 127
def zb16 (n : Int) : Bool := match n with
  | .ofNat k => Nat.ble k 32767
  | .negSucc k => Nat.ble k 32767
theorem zb8_of {n : Int} (h : zb8 n = true) : -128 ≤ n ∧ n ≤ 127 := by
  cases n with
  | ofNat k =>
    have : k ≤ 127 := Nat.le_of_ble_eq_true h
    simp only [Int.ofNat_eq_natCast]
    omega
  | negSucc k =>
    have : k ≤ 127 := Nat.le_of_ble_eq_true h
    omega
theorem zb16_of {n : Int} (h : zb16 n = true) : -32768 ≤ n ∧ n ≤ 32767 := by
  cases n with
  | ofNat k =>
    have : k ≤ 32767 := Nat.le_of_ble_eq_true h
    simp only [Int.ofNat_eq_natCast]
    omega
  | negSucc k =>
    have : k ≤ 32767 := Nat.le_of_ble_eq_true h
    omega
/-- a step that touches no store and has one way on -/
def zpure (nL : Nat) (ins : Instr) (len pc : Nat) (l : zl) (st : List zv) : Option (Nat × zl × List zv) := match ins, len, st with
  | .iconst n, 1, st => some (pc + 1, l, .inl n :: st)
  | .bipush n, 2, st => bif zb8 n then some (pc + 2, l, .inl n :: st) else none
  | .sipush n, 3, st => bif zb16 n then some (pc + 3, l, .inl n :: st) else none
  | .lconst n, 1, st => some (pc + 1, l, .inr (.inl n.val) :: st)
  | .iload_n i, 1, st => (zgi i.val l).map fun x => (pc + 1, l, .inl x :: st)
  | .iload i, 2, st => (zgi i l).map fun x => (pc + 2, l, .inl x :: st)
  | .lload_n i, 1, st => (zgl i.val l).map fun x => (pc + 1, l, .inr (.inl x) :: st)
  | .lload i, 2, st => (zgl i l).map fun x => (pc + 2, l, .inr (.inl x) :: st)
  | .aload_n i, 1, st => (zga i.val l).map fun x => (pc + 1, l, .inr (.inr x) :: st)
  | .aload i, 2, st => (zga i l).map fun x => (pc + 2, l, .inr (.inr x) :: st)
  | .istore_n i, 1, .inl x :: st => bif Nat.blt i.val nL then some (pc + 1, zst1 i.val (.inl x) l, st) else none
  | .istore i, 2, .inl x :: st => bif Nat.blt i nL then some (pc + 2, zst1 i (.inl x) l, st) else none
  | .astore_n i, 1, .inr (.inr x) :: st => bif Nat.blt i.val nL then some (pc + 1, zst1 i.val (.inr (.inr x)) l, st) else none
  | .astore i, 2, .inr (.inr x) :: st => bif Nat.blt i nL then some (pc + 2, zst1 i (.inr (.inr x)) l, st) else none
  | .lstore_n i, 1, .inr (.inl x) :: st => bif Nat.blt (i.val + 1) nL then some (pc + 1, zst2 i.val (.inr (.inl x)) l, st) else none
  | .lstore i, 2, .inr (.inl x) :: st => bif Nat.blt (i + 1) nL then some (pc + 2, zst2 i (.inr (.inl x)) l, st) else none
  | .iinc i n, 3, st => bif Nat.blt i nL then (zgi i l).map fun x => (pc + 3, zst1 i (.inl (x + n)) l, st) else none
  | .iadd, 1, .inl y :: .inl x :: st => some (pc + 1, l, .inl (x + y) :: st)
  | .isub, 1, .inl y :: .inl x :: st => some (pc + 1, l, .inl (x - y) :: st)
  | .imul, 1, .inl y :: .inl x :: st => some (pc + 1, l, .inl (x * y) :: st)
  | .iand, 1, .inl y :: .inl x :: st => some (pc + 1, l, .inl (z_and x y) :: st)
  | .ior, 1, .inl y :: .inl x :: st => some (pc + 1, l, .inl (z_or x y) :: st)
  | .ixor, 1, .inl y :: .inl x :: st => some (pc + 1, l, .inl (z_xor x y) :: st)
  | .ishl, 1, .inl y :: .inl x :: st => some (pc + 1, l, .inl (z_shl x y) :: st)
  | .ishr, 1, .inl y :: .inl x :: st => some (pc + 1, l, .inl (z_shr x y) :: st)
  | .iushr, 1, .inl y :: .inl x :: st => some (pc + 1, l, .inl (z_ushr x y) :: st)
  | .ladd, 1, .inr (.inl y) :: .inr (.inl x) :: st => some (pc + 1, l, .inr (.inl (x + y)) :: st)
  | .lsub, 1, .inr (.inl y) :: .inr (.inl x) :: st => some (pc + 1, l, .inr (.inl (x - y)) :: st)
  | .lmul, 1, .inr (.inl y) :: .inr (.inl x) :: st => some (pc + 1, l, .inr (.inl (x * y)) :: st)
  | .land, 1, .inr (.inl y) :: .inr (.inl x) :: st => some (pc + 1, l, .inr (.inl (z_land x y)) :: st)
  | .lor, 1, .inr (.inl y) :: .inr (.inl x) :: st => some (pc + 1, l, .inr (.inl (z_lor x y)) :: st)
  | .lxor, 1, .inr (.inl y) :: .inr (.inl x) :: st => some (pc + 1, l, .inr (.inl (z_lxor x y)) :: st)
  | .lshl, 1, .inl y :: .inr (.inl x) :: st => some (pc + 1, l, .inr (.inl (z_lshl x y)) :: st)
  | .lshr, 1, .inl y :: .inr (.inl x) :: st => some (pc + 1, l, .inr (.inl (z_lshr x y)) :: st)
  | .lushr, 1, .inl y :: .inr (.inl x) :: st => some (pc + 1, l, .inr (.inl (z_lushr x y)) :: st)
  | .lcmp, 1, .inr (.inl y) :: .inr (.inl x) :: st => some (pc + 1, l, .inl (z_cmp x y) :: st)
  | .i2l, 1, .inl x :: st => some (pc + 1, l, .inr (.inl (z_i2l x)) :: st)
  | .l2i, 1, .inr (.inl x) :: st => some (pc + 1, l, .inl (z_l2i x) :: st)
  | .i2b, 1, .inl x :: st => some (pc + 1, l, .inl (z_i2b x) :: st)
  | .dup, 1, v :: st => bif Nat.beq (zk v) 1 then some (pc + 1, l, v :: v :: st) else none
  | .pop, 1, v :: st => bif Nat.beq (zk v) 1 then some (pc + 1, l, st) else none
  | .dup2, 1, v :: w :: st => bif (Nat.beq (zk v) 1 && Nat.beq (zk w) 1) then some (pc + 1, l, v :: w :: v :: w :: st) else none
  | .goto off, 3, st => (am_tgt pc off).map fun t => (t, l, st)
  | _, _, _ => none
set_option maxHeartbeats 4000000 in
set_option maxRecDepth 100000 in
theorem zpure_ok {nL : Nat} {ins : Instr} {len pc : Nat} {l : zl} {st : List zv} {pc' : Nat} {l' : zl} {st' : List zv} {lc : am_L} (hl : zH l lc) (h : zpure nL ins len pc l st = some (pc', l', st')) : ∃ lc' : am_L, am_pure nL ins len pc lc (st.map zc) = some (pc', lc', st'.map zc) ∧ zH l' lc' := by
  unfold zpure at h
  split at h
  · rename_i st n
    cases h; exact ⟨lc, rfl, hl⟩
  · rename_i st n
    revert h
    cases hb : zb8 n
    · intro h
      cases h
    · intro h
      cases h
      refine ⟨lc, ?_, hl⟩
      show some (pc + 2, lc, Value.int (Int8.ofInt n).toInt32 :: _) = some (pc + 2, lc, Value.int (Int32.ofInt n) :: _)
      rw [z_i8 (zb8_of hb).1 (zb8_of hb).2]
  · rename_i st n
    revert h
    cases hb : zb16 n
    · intro h
      cases h
    · intro h
      cases h
      refine ⟨lc, ?_, hl⟩
      show some (pc + 3, lc, Value.int (Int16.ofInt n).toInt32 :: _) = some (pc + 3, lc, Value.int (Int32.ofInt n) :: _)
      rw [z_i16 (zb16_of hb).1 (zb16_of hb).2]
  · rename_i st n
    cases h
    refine ⟨lc, ?_, hl⟩
    show some (pc + 1, lc, Value.long (Int64.ofNat n.val) :: _) = some (pc + 1, lc, Value.long (Int64.ofInt n.val) :: _)
    rw [Int64.ofInt_eq_ofNat]
  · rename_i st i
    obtain ⟨x, hg, e⟩ := Option.map_eq_some_iff.mp h
    cases e
    refine ⟨lc, ?_, hl⟩
    show (am_geti i.val (lc)).map _ = _
    rw [zgi_ok hl hg]
    rfl
  · rename_i st i
    obtain ⟨x, hg, e⟩ := Option.map_eq_some_iff.mp h
    cases e
    refine ⟨lc, ?_, hl⟩
    show (am_geti i (lc)).map _ = _
    rw [zgi_ok hl hg]
    rfl
  · rename_i st i
    obtain ⟨x, hg, e⟩ := Option.map_eq_some_iff.mp h
    cases e
    refine ⟨lc, ?_, hl⟩
    show (am_getl i.val (lc)).map _ = _
    rw [zgl_ok hl hg]
    rfl
  · rename_i st i
    obtain ⟨x, hg, e⟩ := Option.map_eq_some_iff.mp h
    cases e
    refine ⟨lc, ?_, hl⟩
    show (am_getl i (lc)).map _ = _
    rw [zgl_ok hl hg]
    rfl
  · rename_i st i
    obtain ⟨x, hg, e⟩ := Option.map_eq_some_iff.mp h
    cases e
    refine ⟨lc, ?_, hl⟩
    show (am_geta' i.val (lc)).map _ = _
    rw [zga_ok hl hg]
    rfl
  · rename_i st i
    obtain ⟨x, hg, e⟩ := Option.map_eq_some_iff.mp h
    cases e
    refine ⟨lc, ?_, hl⟩
    show (am_geta' i (lc)).map _ = _
    rw [zga_ok hl hg]
    rfl
  · rename_i i x st
    revert h
    cases hb : Nat.blt i.val nL
    · intro h
      cases h
    · intro h
      cases h
      refine ⟨am_st1 i.val (zc (.inl x)) lc, ?_, zst1_ok _ hl⟩
      show (if i.val < nL then some (pc + 1, am_st1 i.val (zc (.inl x)) (lc), _) else none) = _
      rw [if_pos (z_blt hb)]
  · rename_i i x st
    revert h
    cases hb : Nat.blt i nL
    · intro h
      cases h
    · intro h
      cases h
      refine ⟨am_st1 i (zc (.inl x)) lc, ?_, zst1_ok _ hl⟩
      show (if i < nL then some (pc + 2, am_st1 i (zc (.inl x)) (lc), _) else none) = _
      rw [if_pos (z_blt hb)]
  · rename_i i x st
    revert h
    cases hb : Nat.blt i.val nL
    · intro h
      cases h
    · intro h
      cases h
      refine ⟨am_st1 i.val (zc (.inr (.inr x))) lc, ?_, zst1_ok _ hl⟩
      show (if i.val < nL then some (pc + 1, am_st1 i.val (zc (.inr (.inr x))) (lc), _) else none) = _
      rw [if_pos (z_blt hb)]
  · rename_i i x st
    revert h
    cases hb : Nat.blt i nL
    · intro h
      cases h
    · intro h
      cases h
      refine ⟨am_st1 i (zc (.inr (.inr x))) lc, ?_, zst1_ok _ hl⟩
      show (if i < nL then some (pc + 2, am_st1 i (zc (.inr (.inr x))) (lc), _) else none) = _
      rw [if_pos (z_blt hb)]
  · rename_i i x st
    revert h
    cases hb : Nat.blt (i.val + 1) nL
    · intro h
      cases h
    · intro h
      cases h
      refine ⟨am_st2 i.val (zc (.inr (.inl x))) lc, ?_, zst2_ok _ hl⟩
      show (if i.val + 1 < nL then some (pc + 1, am_st2 i.val (zc (.inr (.inl x))) (lc), _) else none) = _
      rw [if_pos (z_blt hb)]
  · rename_i i x st
    revert h
    cases hb : Nat.blt (i + 1) nL
    · intro h
      cases h
    · intro h
      cases h
      refine ⟨am_st2 i (zc (.inr (.inl x))) lc, ?_, zst2_ok _ hl⟩
      show (if i + 1 < nL then some (pc + 2, am_st2 i (zc (.inr (.inl x))) (lc), _) else none) = _
      rw [if_pos (z_blt hb)]
  · rename_i st i n
    revert h
    cases hb : Nat.blt i nL
    · intro h
      cases h
    · intro h
      obtain ⟨x, hg, e⟩ := Option.map_eq_some_iff.mp h
      cases e
      refine ⟨am_st1 i (zc (.inl (x + n))) lc, ?_, zst1_ok _ hl⟩
      show (if i < nL then (am_geti i (lc)).map _ else none) = _
      rw [if_pos (z_blt hb), zgi_ok hl hg]
      show some (pc + 3, am_st1 i (.int (Int32.ofInt x + Int32.ofInt n)) (lc), _) = some (pc + 3, am_st1 i (.int (Int32.ofInt (x + n))) (lc), _)
      rw [Int32.ofInt_add]
  · rename_i y x st
    cases h
    refine ⟨lc, ?_, hl⟩
    show some (pc + 1, lc, Value.int (Int32.ofInt x + Int32.ofInt y) :: _) = some (pc + 1, lc, Value.int (Int32.ofInt (x + y)) :: _)
    rw [Int32.ofInt_add]
  · rename_i y x st
    cases h
    refine ⟨lc, ?_, hl⟩
    show some (pc + 1, lc, Value.int (Int32.ofInt x - Int32.ofInt y) :: _) = some (pc + 1, lc, Value.int (Int32.ofInt (x - y)) :: _)
    rw [Int32.ofInt_sub]
  · rename_i y x st
    cases h
    refine ⟨lc, ?_, hl⟩
    show some (pc + 1, lc, Value.int (Int32.ofInt x * Int32.ofInt y) :: _) = some (pc + 1, lc, Value.int (Int32.ofInt (x * y)) :: _)
    rw [Int32.ofInt_mul]
  · rename_i y x st
    cases h
    refine ⟨lc, ?_, hl⟩
    show _ = some (pc + 1, lc, Value.int (Int32.ofInt (z_and x y)) :: _)
    unfold z_and
    rw [Int32.ofInt_toInt]
    rfl
  · rename_i y x st
    cases h
    refine ⟨lc, ?_, hl⟩
    show _ = some (pc + 1, lc, Value.int (Int32.ofInt (z_or x y)) :: _)
    unfold z_or
    rw [Int32.ofInt_toInt]
    rfl
  · rename_i y x st
    cases h
    refine ⟨lc, ?_, hl⟩
    show _ = some (pc + 1, lc, Value.int (Int32.ofInt (z_xor x y)) :: _)
    unfold z_xor
    rw [Int32.ofInt_toInt]
    rfl
  · rename_i y x st
    cases h
    refine ⟨lc, ?_, hl⟩
    show _ = some (pc + 1, lc, Value.int (Int32.ofInt (z_shl x y)) :: _)
    unfold z_shl
    rw [Int32.ofInt_toInt]
    rfl
  · rename_i y x st
    cases h
    refine ⟨lc, ?_, hl⟩
    show _ = some (pc + 1, lc, Value.int (Int32.ofInt (z_shr x y)) :: _)
    unfold z_shr
    rw [Int32.ofInt_toInt]
    rfl
  · rename_i y x st
    cases h
    refine ⟨lc, ?_, hl⟩
    show _ = some (pc + 1, lc, Value.int (Int32.ofInt (z_ushr x y)) :: _)
    unfold z_ushr
    rw [Int32.ofInt_toInt]
    rfl
  · rename_i y x st
    cases h
    refine ⟨lc, ?_, hl⟩
    show some (pc + 1, lc, Value.long (Int64.ofInt x + Int64.ofInt y) :: _) = some (pc + 1, lc, Value.long (Int64.ofInt (x + y)) :: _)
    rw [Int64.ofInt_add]
  · rename_i y x st
    cases h
    refine ⟨lc, ?_, hl⟩
    show some (pc + 1, lc, Value.long (Int64.ofInt x - Int64.ofInt y) :: _) = some (pc + 1, lc, Value.long (Int64.ofInt (x - y)) :: _)
    rw [Int64.ofInt_sub]
  · rename_i y x st
    cases h
    refine ⟨lc, ?_, hl⟩
    show some (pc + 1, lc, Value.long (Int64.ofInt x * Int64.ofInt y) :: _) = some (pc + 1, lc, Value.long (Int64.ofInt (x * y)) :: _)
    rw [Int64.ofInt_mul]
  · rename_i y x st
    cases h
    refine ⟨lc, ?_, hl⟩
    show _ = some (pc + 1, lc, Value.long (Int64.ofInt (z_land x y)) :: _)
    unfold z_land
    rw [Int64.ofInt_toInt]
    rfl
  · rename_i y x st
    cases h
    refine ⟨lc, ?_, hl⟩
    show _ = some (pc + 1, lc, Value.long (Int64.ofInt (z_lor x y)) :: _)
    unfold z_lor
    rw [Int64.ofInt_toInt]
    rfl
  · rename_i y x st
    cases h
    refine ⟨lc, ?_, hl⟩
    show _ = some (pc + 1, lc, Value.long (Int64.ofInt (z_lxor x y)) :: _)
    unfold z_lxor
    rw [Int64.ofInt_toInt]
    rfl
  · rename_i y x st
    cases h
    refine ⟨lc, ?_, hl⟩
    show _ = some (pc + 1, lc, Value.long (Int64.ofInt (z_lshl x y)) :: _)
    unfold z_lshl
    rw [Int64.ofInt_toInt]
    rfl
  · rename_i y x st
    cases h
    refine ⟨lc, ?_, hl⟩
    show _ = some (pc + 1, lc, Value.long (Int64.ofInt (z_lshr x y)) :: _)
    unfold z_lshr
    rw [Int64.ofInt_toInt]
    rfl
  · rename_i y x st
    cases h
    refine ⟨lc, ?_, hl⟩
    show _ = some (pc + 1, lc, Value.long (Int64.ofInt (z_lushr x y)) :: _)
    unfold z_lushr
    rw [Int64.ofInt_toInt]
    rfl
  · rename_i y x st
    cases h
    refine ⟨lc, ?_, hl⟩
    show _ = some (pc + 1, lc, Value.int (Int32.ofInt (z_cmp x y)) :: _)
    unfold z_cmp
    rw [Int32.ofInt_toInt]
    rfl
  · rename_i x st
    cases h
    refine ⟨lc, ?_, hl⟩
    show _ = some (pc + 1, lc, Value.long (Int64.ofInt (z_i2l x)) :: _)
    unfold z_i2l
    rw [Int64.ofInt_toInt]
    rfl
  · rename_i x st
    cases h
    refine ⟨lc, ?_, hl⟩
    show _ = some (pc + 1, lc, Value.int (Int32.ofInt (z_l2i x)) :: _)
    unfold z_l2i
    rw [Int32.ofInt_toInt]
    rfl
  · rename_i x st
    cases h
    refine ⟨lc, ?_, hl⟩
    show _ = some (pc + 1, lc, Value.int (Int32.ofInt (z_i2b x)) :: _)
    unfold z_i2b
    rw [Int32.ofInt_toInt]
    rfl
  · rename_i v st
    revert h
    cases hb : Nat.beq (zk v) 1
    · intro h
      cases h
    · intro h
      cases h
      refine ⟨lc, ?_, hl⟩
      show (if (zc v).category = 1 then some (pc + 1, lc, zc v :: zc v :: st.map zc) else none) = _
      rw [if_pos ((zc_cat v).trans (Nat.eq_of_beq_eq_true hb))]
      rfl
  · rename_i v st
    revert h
    cases hb : Nat.beq (zk v) 1
    · intro h
      cases h
    · intro h
      cases h
      refine ⟨lc, ?_, hl⟩
      show (if (zc v).category = 1 then some (pc + 1, lc, _) else none) = _
      rw [if_pos ((zc_cat v).trans (Nat.eq_of_beq_eq_true hb))]
  · rename_i v w st
    revert h
    cases hb : (Nat.beq (zk v) 1 && Nat.beq (zk w) 1)
    · intro h
      cases h
    · intro h
      cases h
      rw [Bool.and_eq_true] at hb
      refine ⟨lc, ?_, hl⟩
      show (if (zc v).category = 1 ∧ (zc w).category = 1 then some (pc + 1, lc, zc v :: zc w :: zc v :: zc w :: st.map zc) else none) = _
      rw [if_pos ⟨(zc_cat v).trans (Nat.eq_of_beq_eq_true hb.1), (zc_cat w).trans (Nat.eq_of_beq_eq_true hb.2)⟩]
      rfl
  · rename_i st off
    obtain ⟨t, ht, e⟩ := Option.map_eq_some_iff.mp h
    cases e
    refine ⟨lc, ?_, hl⟩
    show (am_tgt pc off).map _ = _
    rw [ht]
    rfl
  · cases h
