/-! whose terms are written: calls that read nothing leave the sides of rules and laws -/
/-- a side: the term, its codes -/
def bdc (k : Nat) : Bool := (Nat.ble 26 k && (Nat.ble k 360 && (Nat.ble 1 ((k - 25) % 6) && Nat.ble ((k - 25) % 6) 5))) || (Nat.beq k 368 || Nat.beq k 369)
/-- fields that may name such a term -/
def dD (ci k : Nat) : Bool := (Nat.beq ci 4 && Nat.ble k 2) || ((Nat.beq ci 6 && Nat.beq k 8) || ((Nat.beq ci 8 && (Nat.beq k 4 || Nat.beq k 2)) || (Nat.beq ci 10 && (Nat.beq k 6 || (Nat.beq k 7 || Nat.beq k 10)))))
def wkv : Value → Prop
  | .ref k => 0 < k ∧ k < 1826
  | _ => True
def cln : Value → Prop
  | .ref k => (0 < k ∧ k < 1826) ∧ bdc k = false
  | _ => True
theorem cln_wk {v : Value} (h : cln v) : wkv v := by
  cases v
  case ref k => exact h.1
  all_goals exact True.intro
def hdS : List Nat → Nat
  | [] => 0
  | b :: _ => b
def tlS : List Nat → List Nat
  | [] => []
  | _ :: s => s
/-- labels: 1 anything, 2 clean and one word, 0 clean -/
def tv (b : Nat) (v : Value) : Prop := wkv v ∧ (b ≠ 1 → cln v) ∧ (b = 2 → v.category = 1)
def TS : List Nat → List Value → Prop
  | _, [] => True
  | s, v :: st => tv (hdS s) v ∧ TS (tlS s) st
def leL (b c : Nat) : Bool := Nat.beq c 1 || (Nat.beq b c || (Nat.beq c 0 && !(Nat.beq b 1)))
def nd (s : List Nat) : Bool := s.all (fun b => !(Nat.beq b 1))
def leS : List Nat → List Nat → Bool
  | s, [] => nd s
  | s, c :: t => leL (hdS s) c && leS (tlS s) t
theorem leL_of {b c : Nat} (h : leL b c = true) : c = 1 ∨ b = c ∨ (c = 0 ∧ b ≠ 1) := by
  unfold leL at h
  rw [Bool.or_eq_true, Bool.or_eq_true, Bool.and_eq_true] at h
  rcases h with h | h | ⟨h1, h2⟩
  · exact Or.inl (Nat.eq_of_beq_eq_true h)
  · exact Or.inr (Or.inl (Nat.eq_of_beq_eq_true h))
  · refine Or.inr (Or.inr ⟨Nat.eq_of_beq_eq_true h1, fun e => ?_⟩)
    rw [e] at h2
    cases h2
theorem tv_le {b c : Nat} {v : Value} (h : leL b c = true) (g : tv b v) : tv c v := by
  have q := leL_of h
  exact ⟨g.1, fun hc => g.2.1 (by omega), fun hc => g.2.2 (by omega)⟩
theorem nb1 {b : Nat} (h : (!(Nat.beq b 1)) = true) : b ≠ 1 := by
  intro e
  rw [e] at h
  cases h
theorem TS_nd : ∀ (st : List Value) (s : List Nat), nd s = true → TS s st → TS [] st
  | [], _, _, _ => True.intro
  | v :: st, [], _, g => g
  | v :: st, b :: s, h, g => by
    have h : ((!(Nat.beq b 1)) && nd s) = true := h
    rw [Bool.and_eq_true] at h
    exact ⟨⟨g.1.1, fun _ => g.1.2.1 (nb1 h.1), fun e => absurd e (by decide)⟩, TS_nd st s h.2 g.2⟩
theorem TS_le : ∀ {t s : List Nat} {st : List Value}, leS s t = true → TS s st → TS t st
  | [], s, st, h, g => TS_nd st s h g
  | c :: t, s, [], _, _ => True.intro
  | c :: t, s, v :: st, h, g => by
    have h : (leL (hdS s) c && leS (tlS s) t) = true := h
    rw [Bool.and_eq_true] at h
    exact ⟨tv_le h.1 g.1, TS_le h.2 g.2⟩
def dm (dl : List Nat) (i : Nat) : Bool := dl.any (Nat.beq i)
def TL (dl : List Nat) (l : am_L) : Prop := ∀ q ∈ l, wkv q.2 ∧ (dm dl q.1 = false → cln q.2)
theorem TL_st1 {dl : List Nat} {l : am_L} {i : Nat} {v : Value} (h : TL dl l) (hv : wkv v ∧ (dm dl i = false → cln v)) : TL dl (am_st1 i v l) := by
  intro q hq
  rcases List.mem_cons.mp hq with e | e
  · rw [e]
    exact hv
  · exact h q (List.mem_filter.mp e).1
theorem TL_st2 {dl : List Nat} {l : am_L} {i : Nat} {v : Value} (h : TL dl l) (hv : wkv v ∧ (dm dl i = false → cln v)) : TL dl (am_st2 i v l) := by
  intro q hq
  rcases List.mem_cons.mp hq with e | e
  · rw [e]
    exact hv
  · exact h q (List.mem_filter.mp e).1
def albl (dl : List Nat) (i : Nat) : Nat := bif dm dl i then 1 else 2
theorem TL_get {dl : List Nat} {l : am_L} {i x : Nat} (h : TL dl l) (g : am_geta' i l = some x) : tv (albl dl i) (.ref x) := by
  have e : (i, Value.ref x) ∈ l := by
    unfold am_geta' at g
    split at g
    · rename_i e
      cases g
      exact am_find_mem e
    · cases g
  have q := h _ e
  refine ⟨q.1, fun hb => q.2 ?_, fun _ => rfl⟩
  show dm dl i = false
  cases hd : dm dl i
  · rfl
  · exact absurd (show albl dl i = 1 by unfold albl; rw [hd]; rfl) hb
def aS (A : List (Nat × List Nat)) (pc : Nat) : List Nat := (am_find pc A).getD []
def tgS (A : List (Nat × List Nat)) (pc : Nat) (off : Int) (s : List Nat) : Bool := match am_tgt pc off with
  | some t => leS s (aS A t)
  | none => true
theorem tgS_of {A : List (Nat × List Nat)} {pc t : Nat} {off : Int} {s : List Nat} {st : List Value} (h : tgS A pc off s = true) (ht : am_tgt pc off = some t) (g : TS s st) : TS (aS A t) st := by
  unfold tgS at h
  rw [ht] at h
  exact TS_le h g
theorem o_w {A : List (Nat × List Nat)} {pc : Nat} {s : List Nat} {st : List Value} {v : Value} (hc : leS (2 :: s) (aS A pc) = true) (hs : TS s st) (hv : cln v) (h1 : v.category = 1) : TS (aS A pc) (v :: st) := TS_le (s := 2 :: s) hc ⟨⟨cln_wk hv, fun _ => hv, fun _ => h1⟩, hs⟩
theorem o_l {A : List (Nat × List Nat)} {pc : Nat} {s : List Nat} {st : List Value} {v : Value} (hc : leS (0 :: s) (aS A pc) = true) (hs : TS s st) (hv : cln v) : TS (aS A pc) (v :: st) := TS_le (s := 0 :: s) hc ⟨⟨cln_wk hv, fun _ => hv, fun e => absurd (show (0 : Nat) = 2 from e) (by decide)⟩, hs⟩
theorem o_b {A : List (Nat × List Nat)} {pc t : Nat} {off : Int} {s : List Nat} {st : List Value} {c : Prop} [Decidable c] (h : (leS s (aS A (pc + 3)) && tgS A pc off s) = true) (ht : am_tgt pc off = some t) (g : TS s st) : TS (aS A (if c then pc + 3 else t)) st ∧ TS (aS A (if c then t else pc + 3)) st := by
  rw [Bool.and_eq_true] at h
  have h1 := TS_le h.1 g
  have h2 := tgS_of h.2 ht g
  by_cases e : c
  · rw [if_pos e, if_pos e]
    exact ⟨h1, h2⟩
  · rw [if_neg e, if_neg e]
    exact ⟨h2, h1⟩
def ncl (s : List Nat) : Bool := !(Nat.beq (hdS s) 1)
def t2 (s : List Nat) : List Nat := tlS (tlS s)
def t3 (s : List Nat) : List Nat := tlS (t2 s)
def revS : Nat → List Nat → List Nat → List Nat
  | 0, _, acc => acc
  | n + 1, s, acc => revS n (tlS s) (hdS s :: acc)
def drpS : Nat → List Nat → List Nat
  | 0, s => s
  | n + 1, s => drpS n (tlS s)
/-- may these go into a method's first locals? -/
def lbOK (dl : List Nat) : Nat → List Nat → Bool
  | _, [] => true
  | i, b :: lb => bif Nat.beq b 2 then lbOK dl (i + 1) lb else ((!(Nat.beq b 1) || dm dl i) && nd lb)
def retS (r : Option FieldType) (s : List Nat) : List Nat := match r with
  | none => s
  | some .int => 2 :: s
  | some .boolean => 2 :: s
  | some _ => 0 :: s
section OW
variable (P : List am_M) (G : Nat → Bool) (dls : Nat → List Nat) (T : am_T) (dl : List Nat) (A : List (Nat × List Nat))
def ckC (i pc : Nat) (inst : Bool) (s : List Nat) : Bool := match am_find i T.2.2.2.2.2 with
  | none => false
  | some j => bif Nat.blt j 4 then (bif Nat.beq j 3 then ncl (t2 s) && leS (tlS (tlS (t3 s))) (aS A (pc + 3)) else (bif Nat.beq j 0 then false else leS (2 :: t2 s) (aS A (pc + 3))))
    else match P[j - 4]? with
      | none => false
      | some M => G (j - 4) && (bif inst then lbOK (dls (j - 4)) 0 ((bif ncl (drpS M.2.2.2.2.2.2.1 s) then 2 else 1) :: revS M.2.2.2.2.2.2.1 s []) && leS (retS M.2.2.2.1 (tlS (drpS M.2.2.2.2.2.2.1 s))) (aS A (pc + 3)) else lbOK (dls (j - 4)) 0 (revS M.2.2.2.2.2.2.1 s []) && leS (retS M.2.2.2.1 (drpS M.2.2.2.2.2.2.1 s)) (aS A (pc + 3)))
/-- is this step allowed with these labels, and are those behind it as the table says? -/
def ckI (ins : Instr) (pc : Nat) (s : List Nat) : Bool := match ins with
  | .iconst _ => leS (2 :: s) (aS A (pc + 1))
  | .bipush _ => leS (2 :: s) (aS A (pc + 2))
  | .sipush _ => leS (2 :: s) (aS A (pc + 3))
  | .lconst _ => leS (0 :: s) (aS A (pc + 1))
  | .iload_n _ => leS (2 :: s) (aS A (pc + 1))
  | .iload _ => leS (2 :: s) (aS A (pc + 2))
  | .lload_n _ => leS (0 :: s) (aS A (pc + 1))
  | .lload _ => leS (0 :: s) (aS A (pc + 2))
  | .aload_n i => leS (albl dl i.val :: s) (aS A (pc + 1))
  | .aload i => leS (albl dl i :: s) (aS A (pc + 2))
  | .istore_n _ => leS (tlS s) (aS A (pc + 1))
  | .istore _ => leS (tlS s) (aS A (pc + 2))
  | .astore_n i => (dm dl i.val || ncl s) && leS (tlS s) (aS A (pc + 1))
  | .astore i => (dm dl i || ncl s) && leS (tlS s) (aS A (pc + 2))
  | .lstore_n _ => leS (tlS s) (aS A (pc + 1))
  | .lstore _ => leS (tlS s) (aS A (pc + 2))
  | .iinc _ _ => leS s (aS A (pc + 3))
  | .iadd => leS (2 :: t2 s) (aS A (pc + 1))
  | .isub => leS (2 :: t2 s) (aS A (pc + 1))
  | .imul => leS (2 :: t2 s) (aS A (pc + 1))
  | .iand => leS (2 :: t2 s) (aS A (pc + 1))
  | .ior => leS (2 :: t2 s) (aS A (pc + 1))
  | .ixor => leS (2 :: t2 s) (aS A (pc + 1))
  | .ishl => leS (2 :: t2 s) (aS A (pc + 1))
  | .ishr => leS (2 :: t2 s) (aS A (pc + 1))
  | .idiv => leS (2 :: t2 s) (aS A (pc + 1))
  | .irem => leS (2 :: t2 s) (aS A (pc + 1))
  | .iushr => leS (2 :: t2 s) (aS A (pc + 1))
  | .ladd => leS (0 :: t2 s) (aS A (pc + 1))
  | .lsub => leS (0 :: t2 s) (aS A (pc + 1))
  | .lmul => leS (0 :: t2 s) (aS A (pc + 1))
  | .land => leS (0 :: t2 s) (aS A (pc + 1))
  | .lor => leS (0 :: t2 s) (aS A (pc + 1))
  | .lxor => leS (0 :: t2 s) (aS A (pc + 1))
  | .lshl => leS (0 :: t2 s) (aS A (pc + 1))
  | .lshr => leS (0 :: t2 s) (aS A (pc + 1))
  | .lushr => leS (0 :: t2 s) (aS A (pc + 1))
  | .lcmp => leS (2 :: t2 s) (aS A (pc + 1))
  | .i2l => leS (0 :: tlS s) (aS A (pc + 1))
  | .l2i => leS (2 :: tlS s) (aS A (pc + 1))
  | .i2b => leS (2 :: tlS s) (aS A (pc + 1))
  | .dup => leS (hdS s :: s) (aS A (pc + 1))
  | .pop => leS (tlS s) (aS A (pc + 1))
  | .dup2 => leS (hdS s :: hdS (tlS s) :: s) (aS A (pc + 1))
  | .ifCond _ off => leS (tlS s) (aS A (pc + 3)) && tgS A pc off (tlS s)
  | .if_icmp _ off => leS (t2 s) (aS A (pc + 3)) && tgS A pc off (t2 s)
  | .goto off => tgS A pc off s
  | .tableswitch d _ _ offs => tgS A pc d (tlS s) && offs.toList.all (fun off => tgS A pc off (tlS s))
  | .getfield i => (match am_find i T.1 with
    | some q => leS ((bif dD q.1 q.2 || !(ncl s) then 1 else 0) :: tlS s) (aS A (pc + 3))
    | none => false)
  | .putfield i => (match am_find i T.2.1 with
    | some q => ncl (tlS s) && ((dD q.1 q.2 || ncl s) && leS (t2 s) (aS A (pc + 3)))
    | none => false)
  | .iaload => leS (0 :: t2 s) (aS A (pc + 1))
  | .laload => leS (0 :: t2 s) (aS A (pc + 1))
  | .baload => leS (0 :: t2 s) (aS A (pc + 1))
  | .aaload => leS (0 :: t2 s) (aS A (pc + 1))
  | .arraylength => leS (2 :: tlS s) (aS A (pc + 1))
  | .iastore => ncl (t2 s) && leS (t3 s) (aS A (pc + 1))
  | .lastore => ncl (t2 s) && leS (t3 s) (aS A (pc + 1))
  | .aastore => ncl s && (ncl (t2 s) && leS (t3 s) (aS A (pc + 1)))
  | .ldc _ => leS (2 :: s) (aS A (pc + 2))
  | .ldc2_w _ => leS (0 :: s) (aS A (pc + 3))
  | .ireturn => true
  | .lreturn => true
  | .return_ => true
  | .areturn => ncl s
  | .invokestatic i => ckC P G dls T A i pc false s
  | .invokespecial i => ckC P G dls T A i pc true s
  | .invokevirtual i => ckC P G dls T A i pc true s
  | _ => false
end OW
theorem ncl_of {s : List Nat} (h : ncl s = true) : hdS s ≠ 1 := nb1 h
theorem o_as {dl : List Nat} {A : List (Nat × List Nat)} {pc i x : Nat} {s : List Nat} {st : List Value} {l : am_L} (hc : ((dm dl i || ncl s) && leS (tlS s) (aS A pc)) = true) (hs : TS s (.ref x :: st)) (hl : TL dl l) : TS (aS A pc) st ∧ TL dl (am_st1 i (.ref x) l) := by
  rw [Bool.and_eq_true, Bool.or_eq_true] at hc
  refine ⟨TS_le hc.2 hs.2, TL_st1 hl ⟨hs.1.1, fun e => hs.1.2.1 ?_⟩⟩
  rcases hc.1 with q | q
  · rw [e] at q
    cases q
  · exact ncl_of q
set_option maxHeartbeats 4000000 in
set_option maxRecDepth 100000 in
theorem own_pure {P : List am_M} {G : Nat → Bool} {dls : Nat → List Nat} {T : am_T} {dl : List Nat} {A : List (Nat × List Nat)} {nL : Nat} {ins : Instr} {len pc : Nat} {l : am_L} {st : List Value} {pc' : Nat} {l' : am_L} {st' : List Value} {s : List Nat} (h : am_pure nL ins len pc l st = some (pc', l', st')) (hc : ckI P G dls T dl A ins pc s = true) (hs : TS s st) (hl : TL dl l) : TS (aS A pc') st' ∧ TL dl l' := by
  unfold am_pure at h
  split at h
  · cases h; exact ⟨o_w hc hs True.intro rfl, hl⟩
  · cases h; exact ⟨o_w hc hs True.intro rfl, hl⟩
  · cases h; exact ⟨o_w hc hs True.intro rfl, hl⟩
  · cases h; exact ⟨o_l hc hs True.intro, hl⟩
  · obtain ⟨x, hg, e⟩ := Option.map_eq_some_iff.mp h; cases e; exact ⟨o_w hc hs True.intro rfl, hl⟩
  · obtain ⟨x, hg, e⟩ := Option.map_eq_some_iff.mp h; cases e; exact ⟨o_w hc hs True.intro rfl, hl⟩
  · obtain ⟨x, hg, e⟩ := Option.map_eq_some_iff.mp h; cases e; exact ⟨o_l hc hs True.intro, hl⟩
  · obtain ⟨x, hg, e⟩ := Option.map_eq_some_iff.mp h; cases e; exact ⟨o_l hc hs True.intro, hl⟩
  · obtain ⟨x, hg, e⟩ := Option.map_eq_some_iff.mp h; cases e; exact ⟨TS_le (s := albl dl _ :: s) hc ⟨TL_get hl hg, hs⟩, hl⟩
  · obtain ⟨x, hg, e⟩ := Option.map_eq_some_iff.mp h; cases e; exact ⟨TS_le (s := albl dl _ :: s) hc ⟨TL_get hl hg, hs⟩, hl⟩
  · split at h
    · cases h; exact ⟨TS_le hc hs.2, TL_st1 hl ⟨True.intro, fun _ => True.intro⟩⟩
    · cases h
  · split at h
    · cases h; exact ⟨TS_le hc hs.2, TL_st1 hl ⟨True.intro, fun _ => True.intro⟩⟩
    · cases h
  · split at h
    · cases h; exact o_as hc hs hl
    · cases h
  · split at h
    · cases h; exact o_as hc hs hl
    · cases h
  · split at h
    · cases h; exact ⟨TS_le hc hs.2, TL_st2 hl ⟨True.intro, fun _ => True.intro⟩⟩
    · cases h
  · split at h
    · cases h; exact ⟨TS_le hc hs.2, TL_st2 hl ⟨True.intro, fun _ => True.intro⟩⟩
    · cases h
  · split at h
    · obtain ⟨x, hg, e⟩ := Option.map_eq_some_iff.mp h; cases e; exact ⟨TS_le hc hs, TL_st1 hl ⟨True.intro, fun _ => True.intro⟩⟩
    · cases h
  · cases h; exact ⟨o_w hc hs.2.2 True.intro rfl, hl⟩
  · cases h; exact ⟨o_w hc hs.2.2 True.intro rfl, hl⟩
  · cases h; exact ⟨o_w hc hs.2.2 True.intro rfl, hl⟩
  · cases h; exact ⟨o_w hc hs.2.2 True.intro rfl, hl⟩
  · cases h; exact ⟨o_w hc hs.2.2 True.intro rfl, hl⟩
  · cases h; exact ⟨o_w hc hs.2.2 True.intro rfl, hl⟩
  · cases h; exact ⟨o_w hc hs.2.2 True.intro rfl, hl⟩
  · cases h; exact ⟨o_w hc hs.2.2 True.intro rfl, hl⟩
  · split at h
    · cases h
    · cases h; exact ⟨o_w hc hs.2.2 True.intro rfl, hl⟩
  · split at h
    · cases h
    · cases h; exact ⟨o_w hc hs.2.2 True.intro rfl, hl⟩
  · cases h; exact ⟨o_w hc hs.2.2 True.intro rfl, hl⟩
  · cases h; exact ⟨o_l hc hs.2.2 True.intro, hl⟩
  · cases h; exact ⟨o_l hc hs.2.2 True.intro, hl⟩
  · cases h; exact ⟨o_l hc hs.2.2 True.intro, hl⟩
  · cases h; exact ⟨o_l hc hs.2.2 True.intro, hl⟩
  · cases h; exact ⟨o_l hc hs.2.2 True.intro, hl⟩
  · cases h; exact ⟨o_l hc hs.2.2 True.intro, hl⟩
  · cases h; exact ⟨o_l hc hs.2.2 True.intro, hl⟩
  · cases h; exact ⟨o_l hc hs.2.2 True.intro, hl⟩
  · cases h; exact ⟨o_l hc hs.2.2 True.intro, hl⟩
  · cases h; exact ⟨o_w hc hs.2.2 True.intro rfl, hl⟩
  · cases h; exact ⟨o_l hc hs.2 True.intro, hl⟩
  · cases h; exact ⟨o_w hc hs.2 True.intro rfl, hl⟩
  · cases h; exact ⟨o_w hc hs.2 True.intro rfl, hl⟩
  · split at h
    · cases h; exact ⟨TS_le (s := hdS s :: s) hc ⟨hs.1, hs⟩, hl⟩
    · cases h
  · split at h
    · cases h; exact ⟨TS_le hc hs.2, hl⟩
    · cases h
  · split at h
    · cases h; exact ⟨TS_le (s := hdS s :: hdS (tlS s) :: s) hc ⟨hs.1, hs.2.1, hs⟩, hl⟩
    · cases h
  · obtain ⟨t, ht, e⟩ := Option.map_eq_some_iff.mp h; cases e; exact ⟨(o_b hc ht hs.2).1, hl⟩
  · obtain ⟨t, ht, e⟩ := Option.map_eq_some_iff.mp h; cases e; exact ⟨(o_b hc ht hs.2.2).1, hl⟩
  · obtain ⟨t, ht, e⟩ := Option.map_eq_some_iff.mp h; cases e; exact ⟨(o_b hc ht hs.2).2, hl⟩
  · obtain ⟨t, ht, e⟩ := Option.map_eq_some_iff.mp h; cases e; exact ⟨(o_b hc ht hs.2).2, hl⟩
  · obtain ⟨t, ht, e⟩ := Option.map_eq_some_iff.mp h; cases e; exact ⟨(o_b hc ht hs.2).2, hl⟩
  · obtain ⟨t, ht, e⟩ := Option.map_eq_some_iff.mp h; cases e; exact ⟨(o_b hc ht hs.2).2, hl⟩
  · obtain ⟨t, ht, e⟩ := Option.map_eq_some_iff.mp h; cases e; exact ⟨(o_b hc ht hs.2).2, hl⟩
  · obtain ⟨t, ht, e⟩ := Option.map_eq_some_iff.mp h; cases e; exact ⟨(o_b hc ht hs.2.2).2, hl⟩
  · obtain ⟨t, ht, e⟩ := Option.map_eq_some_iff.mp h; cases e; exact ⟨(o_b hc ht hs.2.2).2, hl⟩
  · obtain ⟨t, ht, e⟩ := Option.map_eq_some_iff.mp h; cases e; exact ⟨(o_b hc ht hs.2.2).2, hl⟩
  · obtain ⟨t, ht, e⟩ := Option.map_eq_some_iff.mp h; cases e; exact ⟨(o_b hc ht hs.2.2).2, hl⟩
  · obtain ⟨t, ht, e⟩ := Option.map_eq_some_iff.mp h; cases e; exact ⟨(o_b hc ht hs.2.2).2, hl⟩
  · obtain ⟨t, ht, e⟩ := Option.map_eq_some_iff.mp h; cases e; exact ⟨tgS_of hc ht hs, hl⟩
  · have hc := (Bool.and_eq_true _ _).mp hc
    split at h
    · obtain ⟨t, ht, e⟩ := Option.map_eq_some_iff.mp h; cases e; exact ⟨tgS_of hc.1 ht hs.2, hl⟩
    · split at h
      · rename_i ho
        obtain ⟨t, ht, e⟩ := Option.map_eq_some_iff.mp h; cases e; exact ⟨tgS_of (List.all_eq_true.mp hc.2 _ (List.mem_of_getElem? ho)) ht hs.2, hl⟩
      · cases h
  · cases hc
  · cases h
/-- the sides are as they were -/
def KD (S S' : am_S) : Prop := ∀ a, bdc a = true → am_nth S' a = am_nth S a
theorem KD_rf (S : am_S) : KD S S := fun _ _ => rfl
theorem KD_tr {S1 S2 S3 : am_S} (h : KD S1 S2) (g : KD S2 S3) : KD S1 S3 := fun a ha => (g a ha).trans (h a ha)
theorem bdc_pos {a : Nat} (h : bdc a = true) : ∃ k, a = k + 1 := by
  cases a with
  | zero => cases h
  | succ k => exact ⟨k, rfl⟩
/-- clean cells name clean cells -/
def WO (S : am_S) : Prop := (∀ (a z ci : Nat) (fs : List Value), 0 < a → a < 1826 → am_nth S a = some (z, some (.inr (ci, fs))) → ∀ (k : Nat) (v : Value), fs[k]? = some v → wkv v ∧ (bdc a = false → dD ci k = false → cln v)) ∧ ∀ (a z : Nat) (ty : FieldType) (n : Nat) (d : Value) (u : List (Nat × Value)), 0 < a → a < 1826 → am_nth S a = some (z, some (.inl (ty, n, d, u))) → ∀ j, j < n → cln (am_fn d u j)
theorem KD_set {S : am_S} {k : Nat} {x0 x : am_C} (h : am_nth S (k + 1) = some x0) (hb : bdc (k + 1) = false) : KD S (am_set S (k + 1) x) := by
  intro a ha
  obtain ⟨j, rfl⟩ := bdc_pos ha
  rw [am_nth_set x h j, if_neg (fun e => by rw [e, hb] at ha; cases ha)]
theorem WO_arr {S : am_S} {k z z' n : Nat} {ty : FieldType} {d : Value} {u u' : List (Nat × Value)} (w : WO S) (h : am_nth S (k + 1) = some (z, some (.inl (ty, n, d, u)))) (hu : ∀ j, j < n → cln (am_fn d u' j)) : WO (am_set S (k + 1) (z', some (.inl (ty, n, d, u')))) := by
  refine ⟨fun a z1 ci fs a0 a1 e => ?_, fun a z1 ty1 n1 d1 u1 a0 a1 e => ?_⟩
  · obtain ⟨j, rfl⟩ : ∃ j, a = j + 1 := ⟨a - 1, by omega⟩
    rw [am_nth_set _ h j] at e
    by_cases q : j = k
    · rw [if_pos q] at e
      cases e
    · rw [if_neg q] at e
      exact w.1 _ z1 ci fs a0 a1 e
  · obtain ⟨j, rfl⟩ : ∃ j, a = j + 1 := ⟨a - 1, by omega⟩
    rw [am_nth_set _ h j] at e
    by_cases q : j = k
    · rw [if_pos q] at e
      cases e
      exact hu
    · rw [if_neg q] at e
      exact w.2 _ z1 ty1 n1 d1 u1 a0 a1 e
theorem WO_seta {S S' : am_S} {a : Nat} {i : Int32} {ty : FieldType} {v : Value} (w : WO S) (ha : cln (.ref a)) (hv : cln v) (h : am_seta S a i ty v = some S') : KD S S' ∧ WO S' := by
  unfold am_seta at h
  split at h
  · cases h
  · rename_i k z t n d u hk
    split at h
    · cases h
      refine ⟨KD_set hk ha.2, WO_arr w hk (fun j hj => ?_)⟩
      rw [am_fn_cons]
      unfold updV
      split
      · exact hv
      · exact w.2 _ _ _ _ _ _ ha.1.1 ha.1.2 hk j hj
    · cases h
  · cases h
theorem WO_geta {S : am_S} {a : Nat} {i : Int32} {ty : FieldType} {v : Value} (w : WO S) (ha : wkv (.ref a)) (h : am_geta S a i ty = some v) : cln v := by
  unfold am_geta at h
  split at h
  · rename_i z t n d u hk
    split at h
    · rename_i hc
      cases h
      exact w.2 _ _ _ _ _ _ ha.1 ha.2 hk _ (by have := hc.2; omega)
    · cases h
  · cases h
theorem WO_getf {S : am_S} {a ci k : Nat} {v : Value} (w : WO S) (ha : wkv (.ref a)) (h : am_getf S a ci k = some v) : wkv v ∧ (bdc a = false → dD ci k = false → cln v) := by
  unfold am_getf at h
  split at h
  · rename_i z cj fs hk
    split at h
    · rename_i hc
      cases hc
      exact w.1 a z _ fs ha.1 ha.2 hk k v h
    · cases h
  · cases h
theorem WO_putf {S : am_S} {a z cj k : Nat} {fs : List Value} {v : Value} (w : WO S) (ha : cln (.ref a)) (hv : wkv v ∧ (dD cj k = false → cln v)) (h : am_nth S a = some (z, some (.inr (cj, fs)))) : KD S (am_set S a (z, some (.inr (cj, fs.set k v)))) ∧ WO (am_set S a (z, some (.inr (cj, fs.set k v)))) := by
  obtain ⟨p, rfl⟩ : ∃ j, a = j + 1 := ⟨a - 1, by have h9 : 0 < a := ha.1.1; omega⟩
  refine ⟨KD_set h ha.2, fun b z1 ci fs1 b0 b1 e => ?_, fun b z1 ty1 n1 d1 u1 b0 b1 e => ?_⟩
  · obtain ⟨j, rfl⟩ : ∃ j, b = j + 1 := ⟨b - 1, by omega⟩
    rw [am_nth_set _ h j] at e
    by_cases q : j = p
    · rw [if_pos q] at e
      cases e
      intro k2 v2 h2
      by_cases q2 : k2 = k
      · rw [q2] at h2 ⊢
        have e3 : v2 = v := by
          have h3 : k < (fs.set k v).length := (List.getElem?_eq_some_iff.mp h2).1
          rw [List.length_set] at h3
          rw [List.getElem?_set_self h3] at h2
          exact (Option.some.inj h2).symm
        rw [e3]
        exact ⟨hv.1, fun _ => hv.2⟩
      · rw [List.getElem?_set_ne (fun e9 => q2 e9.symm)] at h2
        rw [q]
        exact w.1 _ z cj fs ha.1.1 ha.1.2 h k2 v2 h2
    · rw [if_neg q] at e
      exact w.1 _ z1 ci fs1 b0 b1 e
  · obtain ⟨j, rfl⟩ : ∃ j, b = j + 1 := ⟨b - 1, by omega⟩
    rw [am_nth_set _ h j] at e
    by_cases q : j = p
    · rw [if_pos q] at e
      cases e
    · rw [if_neg q] at e
      exact w.2 _ z1 ty1 n1 d1 u1 b0 b1 e
set_option maxHeartbeats 4000000 in
theorem own_heap {P : List am_M} {G : Nat → Bool} {dls : Nat → List Nat} {dl : List Nat} {A : List (Nat × List Nat)} {cl : List vw_C} {tyL : List (List FieldType)} {T : am_T} {ins : Instr} {len pc : Nat} {st : List Value} {S : am_S} {pc' : Nat} {st' : List Value} {S' : am_S} {dc ds : Nat} {s : List Nat} (h : am_heap cl tyL T ins len pc st S = some (pc', st', S', dc, ds)) (hc : ckI P G dls T dl A ins pc s = true) (hs : TS s st) (w : WO S) : TS (aS A pc') st' ∧ KD S S' ∧ WO S' := by
  unfold am_heap at h
  split at h
  · rename_i i a st0
    have hc : (match am_find i T.1 with | some q => leS ((bif dD q.1 q.2 || !(ncl s) then 1 else 0) :: tlS s) (aS A (pc + 3)) | none => false) = true := hc
    split at h
    · rename_i ci k hi
      rw [hi] at hc
      obtain ⟨v, hv, e9⟩ := Option.map_eq_some_iff.mp h; cases e9
      have g := WO_getf w hs.1.1 hv
      refine ⟨TS_le hc ⟨⟨g.1, fun hb => ?_, fun hb => ?_⟩, hs.2⟩, KD_rf _, w⟩
      · have hb : (bif dD ci k || !(ncl s) then 1 else 0) ≠ 1 := hb
        cases h1 : dD ci k with
        | true =>
          rw [h1] at hb
          exact absurd rfl hb
        | false =>
          rw [h1] at hb
          cases h2 : ncl s with
          | false =>
            rw [h2] at hb
            exact absurd rfl hb
          | true => exact g.2 (hs.1.2.1 (ncl_of h2)).2 h1
      · have hb : (bif dD ci k || !(ncl s) then 1 else 0) = 2 := hb
        cases h1 : (dD ci k || !(ncl s)) with
        | true =>
          rw [h1] at hb
          cases hb
        | false =>
          rw [h1] at hb
          cases hb
    · cases h
  · rename_i i v a st0
    have hc : (match am_find i T.2.1 with | some q => ncl (tlS s) && ((dD q.1 q.2 || ncl s) && leS (t2 s) (aS A (pc + 3))) | none => false) = true := hc
    split at h
    · rename_i ci k hi
      rw [hi] at hc
      have hc : (ncl (tlS s) && ((dD ci k || ncl s) && leS (t2 s) (aS A (pc + 3)))) = true := hc
      rw [Bool.and_eq_true, Bool.and_eq_true, Bool.or_eq_true] at hc
      split at h
      · rename_i z cj fs hk
        split at h
        · split at h
          · rename_i hq
            cases h
            have g := WO_putf (k := k) (v := v) w (hs.2.1.2.1 (ncl_of hc.1)) ⟨hs.1.1, fun e => hs.1.2.1 (by
              rw [hq.1] at e
              rcases hc.2.1 with q | q
              · rw [e] at q
                cases q
              · exact ncl_of q)⟩ hk
            exact ⟨TS_le hc.2.2 hs.2.2, g.1, g.2⟩
          · cases h
        · cases h
      · cases h
    · cases h
  · cases hc
  · cases hc
  · cases hc
  · obtain ⟨v, hv, e9⟩ := Option.map_eq_some_iff.mp h; cases e9; exact ⟨o_l hc hs.2.2 (WO_geta w hs.2.1.1 hv), KD_rf _, w⟩
  · obtain ⟨v, hv, e9⟩ := Option.map_eq_some_iff.mp h; cases e9; exact ⟨o_l hc hs.2.2 (WO_geta w hs.2.1.1 hv), KD_rf _, w⟩
  · split at h
    · rename_i hv
      cases h; exact ⟨o_l hc hs.2.2 (WO_geta w hs.2.1.1 hv), KD_rf _, w⟩
    · obtain ⟨v, hv, e9⟩ := Option.map_eq_some_iff.mp h; cases e9; exact ⟨o_l hc hs.2.2 (WO_geta w hs.2.1.1 hv), KD_rf _, w⟩
  · split at h
    · obtain ⟨v, hv, e9⟩ := Option.map_eq_some_iff.mp h; cases e9; exact ⟨o_l hc hs.2.2 (WO_geta w hs.2.1.1 hv), KD_rf _, w⟩
    · cases h
  · split at h
    · cases h; exact ⟨o_w hc hs.2 True.intro rfl, KD_rf _, w⟩
    · cases h
  · have hc := (Bool.and_eq_true _ _).mp hc
    obtain ⟨v, hv, e9⟩ := Option.map_eq_some_iff.mp h; cases e9
    have g := WO_seta w (hs.2.2.1.2.1 (ncl_of hc.1)) (by exact True.intro) hv
    exact ⟨TS_le hc.2 hs.2.2.2, g.1, g.2⟩
  · have hc := (Bool.and_eq_true _ _).mp hc
    obtain ⟨v, hv, e9⟩ := Option.map_eq_some_iff.mp h; cases e9
    have g := WO_seta w (hs.2.2.1.2.1 (ncl_of hc.1)) (by exact True.intro) hv
    exact ⟨TS_le hc.2 hs.2.2.2, g.1, g.2⟩
  · cases hc
  · have hc : (ncl s && (ncl (t2 s) && leS (t3 s) (aS A (pc + 1)))) = true := hc
    rw [Bool.and_eq_true, Bool.and_eq_true] at hc
    split at h
    · split at h
      · obtain ⟨v, hv, e9⟩ := Option.map_eq_some_iff.mp h; cases e9
        have g := WO_seta w (hs.2.2.1.2.1 (ncl_of hc.2.1)) (hs.1.2.1 (ncl_of hc.1)) hv
        exact ⟨TS_le hc.2.2 hs.2.2.2, g.1, g.2⟩
      · cases h
    · cases h
  · split at h
    · cases h; exact ⟨o_w hc hs True.intro rfl, KD_rf _, w⟩
    · cases h
  · split at h
    · cases h; exact ⟨o_l hc hs True.intro, KD_rf _, w⟩
    · cases h
  · cases h
theorem TS_drp : ∀ (n : Nat) {s : List Nat} {st : List Value}, n ≤ st.length → TS s st → TS (drpS n s) (st.drop n)
  | 0, _, _, _, g => g
  | n + 1, s, [], hn, _ => absurd hn (by simp)
  | n + 1, s, v :: st, hn, g => TS_drp n (Nat.le_of_succ_le_succ hn) g.2
theorem TS_rev : ∀ (n : Nat) {s acc : List Nat} {st av : List Value}, n ≤ st.length → TS s st → TS acc av → TS (revS n s acc) ((st.take n).reverse ++ av)
  | 0, _, _, _, _, _, _, ga => ga
  | n + 1, s, acc, [], av, hn, _, _ => absurd hn (by simp)
  | n + 1, s, acc, v :: st, av, hn, g, ga => by
    have q := TS_rev n (acc := hdS s :: acc) (av := v :: av) (Nat.le_of_succ_le_succ hn) g.2 ⟨g.1, ga⟩
    rw [List.take_succ_cons, List.reverse_cons, List.append_assoc]
    exact q
theorem nd_cl : ∀ {s : List Nat} {st : List Value}, nd s = true → TS s st → ∀ v ∈ st, cln v
  | _, [], _, _, v, hv => by cases hv
  | [], w :: st, _, g, v, hv => by
    rcases List.mem_cons.mp hv with e | e
    · rw [e]
      exact g.1.2.1 (by decide)
    · exact nd_cl (s := []) rfl g.2 v e
  | b :: s, w :: st, h, g, v, hv => by
    have h : ((!(Nat.beq b 1)) && nd s) = true := h
    rw [Bool.and_eq_true] at h
    rcases List.mem_cons.mp hv with e | e
    · rw [e]
      exact g.1.2.1 (nb1 h.1)
    · exact nd_cl h.2 g.2 v e
theorem TL_all {dl : List Nat} : ∀ (as : List Value) (i : Nat), (∀ v ∈ as, cln v) → TL dl (lv_args i as)
  | [], _, _ => fun q hq => by cases hq
  | v :: as, i, h => by
    intro q hq
    rcases List.mem_cons.mp hq with e | e
    · rw [e]
      have := h v (List.mem_cons_self ..)
      exact ⟨cln_wk this, fun _ => this⟩
    · exact TL_all as _ (fun v hv => h v (List.mem_cons_of_mem _ hv)) q e
theorem TL_args {dl : List Nat} : ∀ (as : List Value) (i : Nat) (lb : List Nat), lbOK dl i lb = true → TS lb as → TL dl (lv_args i as)
  | as, i, [], _, g => TL_all as i (nd_cl (s := []) rfl g)
  | [], _, _ :: _, _, _ => fun q hq => by cases hq
  | v :: as, i, b :: lb, h, g => by
    have h : (bif Nat.beq b 2 then lbOK dl (i + 1) lb else ((!(Nat.beq b 1) || dm dl i) && nd lb)) = true := h
    have g1 : tv b v := g.1
    have g2 : TS lb as := g.2
    intro q hq
    have hq : q ∈ (i, v) :: lv_args (if v.category = 2 then i + 2 else i + 1) as := hq
    cases hb : Nat.beq b 2 with
    | true =>
      rw [hb] at h
      have e2 := Nat.eq_of_beq_eq_true hb
      rw [if_neg (by rw [g1.2.2 e2]; decide)] at hq
      rcases List.mem_cons.mp hq with e | e
      · rw [e]
        exact ⟨g1.1, fun _ => g1.2.1 (by omega)⟩
      · exact TL_args as (i + 1) lb h g2 q e
    | false =>
      rw [hb] at h
      have h : ((!(Nat.beq b 1) || dm dl i) && nd lb) = true := h
      rw [Bool.and_eq_true, Bool.or_eq_true] at h
      rcases List.mem_cons.mp hq with e | e
      · rw [e]
        refine ⟨g1.1, fun hd => ?_⟩
        rcases h.1 with r | r
        · exact g1.2.1 (nb1 r)
        · have hd : dm dl i = false := hd
          rw [hd] at r
          cases r
      · exact TL_all as _ (nd_cl h.2 g2) q e
/-- an answer -/
def RVd (ret : Option FieldType) (r : Option Value) : Prop := match ret with
  | none => r = none
  | some ty => ∃ v, r = some v ∧ cln v ∧ (ty = .int ∨ ty = .boolean → v.category = 1)
theorem RVd_ts {ret : Option FieldType} {r : Option Value} {s : List Nat} {st : List Value} (h : RVd ret r) (g : TS s st) : TS (retS ret s) (r.toList ++ st) := by
  cases ret with
  | none =>
    have h : r = none := h
    rw [h]
    exact g
  | some ty =>
    obtain ⟨v, rfl, h1, h2⟩ := h
    have h0 : tv 0 v := ⟨cln_wk h1, fun _ => h1, fun e => absurd e (by decide)⟩
    cases ty
    case int => exact ⟨⟨cln_wk h1, fun _ => h1, fun _ => h2 (Or.inl rfl)⟩, g⟩
    case boolean => exact ⟨⟨cln_wk h1, fun _ => h1, fun _ => h2 (Or.inr rfl)⟩, g⟩
    all_goals exact ⟨h0, g⟩
theorem own_ret {P : List am_M} {G : Nat → Bool} {dls : Nat → List Nat} {T : am_T} {dl : List Nat} {A : List (Nat × List Nat)} {ret : Option FieldType} {ins : Instr} {len pc : Nat} {st : List Value} {r : Option Value} {s : List Nat} (h : am_ret ret ins len st = some r) (hc : ckI P G dls T dl A ins pc s = true) (hs : TS s st) : RVd ret r := by
  unfold am_ret at h
  split at h
  · split at h
    · cases h
      exact ⟨_, rfl, True.intro, fun _ => rfl⟩
    · split at h
      · cases h
        exact ⟨_, rfl, True.intro, fun _ => rfl⟩
      · cases h
    · cases h
  · split at h
    · cases h
      exact ⟨_, rfl, True.intro, fun e => by rcases e with e | e <;> cases e⟩
    · cases h
  · split at h
    · cases h
      exact ⟨_, rfl, hs.1.2.1 (ncl_of hc), fun _ => rfl⟩
    · cases h
  · split at h
    · cases h
      rfl
    · cases h
  · cases h
/-- a method is as the tables say -/
def ckM (P : List am_M) (G : Nat → Bool) (dls : Nat → List Nat) (tbs : Nat → List (Nat × List Nat)) (i : Nat) (M : am_M) : Bool := M.2.2.2.2.2.1.all (fun q => ckI P G dls M.2.2.2.2.1 (dls i) (tbs i) q.2.1 q.1 (aS (tbs i) q.1)) && nd (aS (tbs i) 0)
theorem cix_ck {P : List am_M} {G : Nat → Bool} {dls : Nat → List Nat} {T : am_T} {dl : List Nat} {A : List (Nat × List Nat)} {ins : Instr} {len pc i : Nat} {s : List Nat} (h : am_cix ins len = some i) (hc : ckI P G dls T dl A ins pc s = true) : (ins = .invokestatic i ∧ ckC P G dls T A i pc false s = true) ∨ ((ins = .invokespecial i ∨ ins = .invokevirtual i) ∧ ckC P G dls T A i pc true s = true) := by
  unfold am_cix at h
  split at h
  · cases h
    exact Or.inl ⟨rfl, hc⟩
  · cases h
    exact Or.inr ⟨Or.inl rfl, hc⟩
  · cases h
    exact Or.inr ⟨Or.inr rfl, hc⟩
  · cases h
theorem cpy_int {f : Nat → Value} {sp n k : Nat} (ha : ∀ x ∈ List.range n, (match f (sp + x) with | .int _ => true | _ => false) = true) (hk : k < n) : cln (f (sp + k)) := by
  have h := ha k (List.mem_range.mpr hk)
  cases e : f (sp + k)
  case ref a =>
    rw [e] at h
    cases h
  all_goals exact True.intro
theorem own_lib {P : List am_M} {G : Nat → Bool} {dls : Nat → List Nat} {T : am_T} {A : List (Nat × List Nat)} {j i pc : Nat} {ins : Instr} {st st' : List Value} {S S' : am_S} {s : List Nat} {b : Bool} (h : am_lib j ins st S = some (st', S')) (hi : am_find i T.2.2.2.2.2 = some j) (hj : j < 4) (hc : ckC P G dls T A i pc b s = true) (hs : TS s st) (w : WO S) : TS (aS A (pc + 3)) st' ∧ KD S S' ∧ WO S' := by
  unfold ckC at hc
  rw [hi] at hc
  have hc : (bif Nat.blt j 4 then (bif Nat.beq j 3 then ncl (t2 s) && leS (tlS (tlS (t3 s))) (aS A (pc + 3)) else (bif Nat.beq j 0 then false else leS (2 :: t2 s) (aS A (pc + 3)))) else _) = true := hc
  unfold am_lib at h
  split at h
  · exact absurd (show false = true from hc) (by decide)
  · split at h
    · cases h
      exact ⟨o_w hc hs.2.2 True.intro rfl, KD_rf _, w⟩
    · cases h
  · split at h
    · cases h
      exact ⟨o_w hc hs.2.2 True.intro rfl, KD_rf _, w⟩
    · cases h
  · have hc : (ncl (t2 s) && leS (tlS (tlS (t3 s))) (aS A (pc + 3))) = true := hc
    rw [Bool.and_eq_true] at hc
    split at h
    · rename_i z0 n0 df uf z1 n1 dg ug hf hg
      split at h
      · rename_i hq
        cases h
        have hd := hs.2.2.1.2.1 (ncl_of hc.1)
        refine ⟨TS_le hc.2 hs.2.2.2.2.2, KD_set hg hd.2, WO_arr w hg (fun q h9 => ?_)⟩
        rw [am_cpy_fn]
        unfold va_cpy
        split
        · rename_i hr
          have ha := List.all_eq_true.mp hq.2.2.2.2.2.2
          exact cpy_int ha (by omega)
        · exact w.2 _ _ _ _ _ _ hd.1.1 hd.1.2 hg q h9
      · cases h
    · cases h
  · cases h
theorem own_parts {P : List am_M} {j : Nat} {ins : Instr} {st as rest : List Value} {S : am_S} {M : am_M} (h : am_own P j ins st S = some (M, as, rest)) : M.2.2.2.2.2.2.1 ≤ st.length ∧ (((∃ i, ins = .invokestatic i) ∧ as = (st.take M.2.2.2.2.2.2.1).reverse ∧ rest = st.drop M.2.2.2.2.2.2.1) ∨ ∃ b, ((∃ i, ins = .invokespecial i) ∨ ∃ i, ins = .invokevirtual i) ∧ as = .ref b :: (st.take M.2.2.2.2.2.2.1).reverse ∧ st.drop M.2.2.2.2.2.2.1 = .ref b :: rest) := by
  unfold am_own at h
  split at h
  · cases h
  · split at h
    · cases h
    · rename_i hn
      split at h
      · split at h
        · cases h
          exact ⟨Nat.le_of_not_lt hn, Or.inl ⟨⟨_, rfl⟩, rfl, by first | rfl | assumption⟩⟩
        · cases h
      · split at h
        · cases h
          exact ⟨Nat.le_of_not_lt hn, Or.inr ⟨_, Or.inl ⟨_, rfl⟩, rfl, by first | rfl | assumption⟩⟩
        · cases h
      · split at h
        · split at h
          · cases h
            exact ⟨Nat.le_of_not_lt hn, Or.inr ⟨_, Or.inr ⟨_, rfl⟩, rfl, by first | rfl | assumption⟩⟩
          · cases h
        · cases h
      · cases h
/-- a call: what its method gets, what is left -/
theorem own_call {P : List am_M} {G : Nat → Bool} {dls : Nat → List Nat} {T : am_T} {A : List (Nat × List Nat)} {j i pc : Nat} {ins : Instr} {st as rest : List Value} {S : am_S} {M' : am_M} {s : List Nat} (ho : am_own P (j - 4) ins st S = some (M', as, rest)) (hM' : P[j - 4]? = some M') (hi : am_find i T.2.2.2.2.2 = some j) (hj : ¬ j < 4) (hc : (ins = .invokestatic i ∧ ckC P G dls T A i pc false s = true) ∨ ((ins = .invokespecial i ∨ ins = .invokevirtual i) ∧ ckC P G dls T A i pc true s = true)) (hs : TS s st) : G (j - 4) = true ∧ TL (dls (j - 4)) (lv_args 0 as) ∧ ∀ r, RVd M'.2.2.2.1 r → TS (aS A (pc + 3)) (r.toList ++ rest) := by
  have hb : Nat.blt j 4 = false := by
    cases e : Nat.blt j 4
    · rfl
    · exact absurd (Nat.le_of_ble_eq_true e) (by omega)
  obtain ⟨hn, hq⟩ := own_parts ho
  have hv : TS (revS M'.2.2.2.2.2.2.1 s []) (st.take M'.2.2.2.2.2.2.1).reverse := by
    have q := TS_rev M'.2.2.2.2.2.2.1 (acc := []) (av := []) hn hs True.intro
    rw [List.append_nil] at q
    exact q
  have hd := TS_drp M'.2.2.2.2.2.2.1 hn hs
  rcases hq with ⟨⟨i9, e0⟩, e1, e2⟩ | ⟨b, e0, e1, e2⟩
  · rcases hc with ⟨-, hc⟩ | ⟨q, -⟩
    · unfold ckC at hc
      rw [hi] at hc
      have hc : (bif Nat.blt j 4 then _ else (match P[j - 4]? with | none => false | some M => G (j - 4) && (lbOK (dls (j - 4)) 0 (revS M.2.2.2.2.2.2.1 s []) && leS (retS M.2.2.2.1 (drpS M.2.2.2.2.2.2.1 s)) (aS A (pc + 3))))) = true := hc
      rw [hb, hM'] at hc
      have hc : (G (j - 4) && (lbOK (dls (j - 4)) 0 (revS M'.2.2.2.2.2.2.1 s []) && leS (retS M'.2.2.2.1 (drpS M'.2.2.2.2.2.2.1 s)) (aS A (pc + 3)))) = true := hc
      rw [Bool.and_eq_true, Bool.and_eq_true] at hc
      rw [e1, e2]
      exact ⟨hc.1, TL_args _ 0 _ hc.2.1 hv, fun r hr => TS_le hc.2.2 (RVd_ts hr hd)⟩
    · rw [e0] at q
      rcases q with q | q <;> cases q
  · rcases hc with ⟨q, -⟩ | ⟨-, hc⟩
    · rw [q] at e0
      rcases e0 with ⟨i9, e⟩ | ⟨i9, e⟩ <;> cases e
    · unfold ckC at hc
      rw [hi] at hc
      have hc : (bif Nat.blt j 4 then _ else (match P[j - 4]? with | none => false | some M => G (j - 4) && (lbOK (dls (j - 4)) 0 ((bif ncl (drpS M.2.2.2.2.2.2.1 s) then 2 else 1) :: revS M.2.2.2.2.2.2.1 s []) && leS (retS M.2.2.2.1 (tlS (drpS M.2.2.2.2.2.2.1 s))) (aS A (pc + 3))))) = true := hc
      rw [hb, hM'] at hc
      have hc : (G (j - 4) && (lbOK (dls (j - 4)) 0 ((bif ncl (drpS M'.2.2.2.2.2.2.1 s) then 2 else 1) :: revS M'.2.2.2.2.2.2.1 s []) && leS (retS M'.2.2.2.1 (tlS (drpS M'.2.2.2.2.2.2.1 s))) (aS A (pc + 3)))) = true := hc
      rw [Bool.and_eq_true, Bool.and_eq_true] at hc
      rw [e2] at hd
      refine ⟨hc.1, ?_, fun r hr => TS_le hc.2.2 (RVd_ts hr hd.2)⟩
      rw [e1]
      refine TL_args _ 0 _ hc.2.1 ⟨?_, hv⟩
      show tv (bif ncl (drpS M'.2.2.2.2.2.2.1 s) then 2 else 1) (.ref b)
      refine ⟨hd.1.1, fun hq => ?_, fun _ => rfl⟩
      cases e : ncl (drpS M'.2.2.2.2.2.2.1 s) with
      | true => exact hd.1.2.1 (ncl_of e)
      | false =>
        rw [e] at hq
        exact absurd rfl hq
set_option maxHeartbeats 4000000 in
theorem own_run {P : List am_M} {cl : List vw_C} {tyL : List (List FieldType)} {G : Nat → Bool} {dls : Nat → List Nat} {tbs : Nat → List (Nat × List Nat)} (hP : ∀ (i : Nat) (M : am_M), P[i]? = some M → G i = true → ckM P G dls tbs i M = true) : ∀ (f d i : Nat) (M : am_M) (pc : Nat) (l : am_L) (st : List Value) (S : am_S) (r : Option Value) (S' : am_S) (c n : Nat), P[i]? = some M → G i = true → TS (aS (tbs i) pc) st → TL (dls i) l → WO S → am_run P cl tyL f d M pc l st S = some (r, S', c, n) → KD S S' ∧ WO S' ∧ RVd M.2.2.2.1 r := by
  intro f
  induction f with
  | zero =>
    intro d i M pc l st S r S' c n _ _ _ _ _ h
    cases h
  | succ f ih =>
    intro d i M pc l st S r S' c n hM hG hs hl w h
    have hk := hP i M hM hG
    unfold ckM at hk
    rw [Bool.and_eq_true] at hk
    unfold am_run at h
    split at h
    · cases h
    · rename_i ins len hf
      have hc : ckI P G dls M.2.2.2.2.1 (dls i) (tbs i) ins pc (aS (tbs i) pc) = true := List.all_eq_true.mp hk.1 _ (am_find_mem hf)
      split at h
      · rename_i pc' l' st' hp
        obtain ⟨g1, g2⟩ := own_pure hp hc hs hl
        exact ih _ _ _ _ _ _ _ _ _ _ _ hM hG g1 g2 w h
      · split at h
        · rename_i hh
          obtain ⟨q, hq, e9⟩ := Option.map_eq_some_iff.mp h
          obtain ⟨r1, S1, c1, n1⟩ := q
          cases e9
          obtain ⟨g1, g2, g3⟩ := own_heap hh hc hs w
          obtain ⟨k1, k2, k3⟩ := ih _ _ _ _ _ _ _ _ _ _ _ hM hG g1 hl g3 hq
          exact ⟨KD_tr g2 k1, k2, k3⟩
        · split at h
          · rename_i hr
            cases h
            exact ⟨KD_rf _, w, own_ret hr hc hs⟩
          · split at h
            · cases h
            · split at h
              · cases h
              · rename_i i9 hx
                have hcc := cix_ck hx hc
                split at h
                · cases h
                · rename_i j hj
                  split at h
                  · rename_i hlt
                    split at h
                    · rename_i st' S1 hl9
                      obtain ⟨g1, g2, g3⟩ : TS (aS (tbs i) (pc + 3)) st' ∧ KD S S1 ∧ WO S1 := hcc.elim (fun q => own_lib hl9 hj hlt q.2 hs w) (fun q => own_lib hl9 hj hlt q.2 hs w)
                      obtain ⟨k1, k2, k3⟩ := ih _ _ _ _ _ _ _ _ _ _ _ hM hG g1 hl g3 h
                      exact ⟨KD_tr g2 k1, k2, k3⟩
                    · cases h
                  · rename_i hlt
                    split at h
                    · cases h
                    · rename_i M' as rest ho
                      have hM' := own_at ho
                      split at h
                      · cases h
                      · rename_i r1 S1 c1 n1 hr
                        obtain ⟨q, hq, e9⟩ := Option.map_eq_some_iff.mp h
                        obtain ⟨r2, S2, c2, n2⟩ := q
                        cases e9
                        obtain ⟨a1, a2, a3⟩ := own_call ho hM' hj hlt hcc hs
                        have hn : nd (aS (tbs (j - 4)) 0) = true := by
                          have q9 := hP _ _ hM' a1
                          unfold ckM at q9
                          rw [Bool.and_eq_true] at q9
                          exact q9.2
                        obtain ⟨b1, b2, b3⟩ := ih _ _ _ _ _ _ _ _ _ _ _ hM' a1 (show TS (aS (tbs (j - 4)) 0) [] from True.intro) a2 w hr
                        obtain ⟨k1, k2, k3⟩ := ih _ _ _ _ _ _ _ _ _ _ _ hM hG (a3 _ b3) hl b2 hq
                        exact ⟨KD_tr b1 k1, k2, k3⟩
/-- the methods, what in them may name a side -/
def oG (i : Nat) : Bool := [4, 5, 6, 8, 9, 10, 11, 12, 13, 14, 15, 16, 17, 18, 19, 20, 21, 22, 23, 24, 35, 37, 38, 45, 48, 49, 50, 51, 52, 53, 54, 55, 56, 57, 58, 59, 60, 88, 89, 90, 91, 92, 94, 95, 96, 97, 98, 99, 100, 102, 103, 104, 105, 106, 107, 108, 109, 110, 111, 112, 113, 115, 116, 117, 118, 119, 120, 121, 122, 123, 124, 125, 126, 127, 128, 129, 130, 131, 132, 133, 134, 135, 136, 137, 138, 139, 140, 141, 142, 145, 146, 147, 149, 150, 151].any (Nat.beq i)
def oD (i : Nat) : List Nat := (am_find i [(51, [0]), (54, [1]), (55, [1]), (88, [1]), (95, [1]), (96, [1]), (97, [1]), (98, [3]), (105, [1])]).getD []
def oT (i : Nat) : List (Nat × List Nat) := (am_find i [(6, [(70, [1]), (73, [1]), (78, [1]), (81, [1])]), (22, [(48, [1]), (55, [1]), (56, [0, 1])]), (51, [(6, [1]), (9, [1]), (13, [1]), (16, [1]), (17, [0, 1])]), (54, [(16, [1]), (19, [1]), (40, [1]), (43, [1]), (44, [0, 1]), (45, [0, 0, 1]), (48, [0, 0, 1]), (49, [0, 0, 0, 1]), (52, [0, 0, 0, 1]), (54, [0, 0, 0, 0, 1])]), (55, [(1, [1]), (4, [1]), (5, [0, 1]), (8, [0, 1]), (9, [0, 1]), (14, [1]), (17, [1]), (18, [0, 1]), (19, [0, 0, 1]), (22, [0, 0, 1]), (23, [0, 0, 0, 1]), (24, [0, 0, 0, 0, 1])]), (88, [(14, [1]), (17, [1]), (21, [1]), (24, [1]), (26, [0, 1])]), (94, [(5, [1]), (73, [1]), (74, [0, 1]), (75, [0, 0, 1]), (95, [1])]), (95, [(11, [1]), (14, [1]), (18, [1]), (21, [1]), (23, [0, 1])]), (96, [(1, [1]), (2, [0, 1]), (67, [1]), (70, [1]), (74, [1]), (77, [1]), (79, [0, 1])]), (97, [(6, [1]), (9, [1]), (13, [1]), (16, [1]), (18, [0, 1]), (25, [1]), (28, [1]), (30, [0, 1])]), (98, [(25, [1]), (28, [1]), (32, [1]), (35, [1]), (37, [0, 1]), (87, [1]), (89, [0, 1]), (91, [0, 0, 1]), (92, [0, 0, 0, 1]), (93, [0, 0, 1])]), (99, [(1, [2]), (2, [2, 2]), (6, [2]), (9, [2]), (11, [2]), (15, [2]), (19, [2]), (23, [2]), (24, [2, 2]), (25, [2, 2, 2]), (28, [2]), (31, [2]), (35, [2]), (36, [2, 2]), (41, [2]), (42, [2, 2]), (45, [0, 2]), (49, [2]), (54, [2]), (55, [2, 2]), (56, [2, 2, 2]), (59, [2]), (68, [2]), (69, [2, 2]), (70, [2, 2, 2]), (71, [2, 2, 2, 2]), (74, [1, 2, 2, 2]), (75, [2, 1, 2, 2, 2]), (78, [0, 1, 2, 2, 2]), (81, [2]), (85, [2]), (87, [2]), (88, [2, 2]), (91, [0, 2]), (95, [2]), (96, [2, 2]), (99, [0, 2]), (100, [2, 0, 2]), (101, [2, 2]), (105, [2]), (108, [2]), (113, [2]), (117, [2]), (121, [2])]), (103, [(11, [1]), (12, [0, 1]), (15, [0, 1]), (23, [1]), (24, [0, 1]), (27, [0, 1])]), (105, [(9, [1]), (12, [1]), (16, [1]), (19, [1]), (20, [0, 1]), (27, [1]), (30, [1]), (31, [0, 1]), (77, [1]), (80, [1]), (81, [0, 1])]), (110, [(40, [1]), (42, [0, 1])]), (111, [(61, [1]), (63, [0, 1]), (79, [1]), (81, [0, 1]), (112, [1]), (114, [0, 1])]), (117, [(1, [2]), (2, [2, 2]), (7, [2]), (11, [2]), (12, [2, 2]), (15, [2]), (18, [2]), (19, [2, 2]), (24, [2]), (26, [2]), (30, [2]), (31, [2, 2]), (34, [2]), (35, [2, 2]), (40, [2]), (42, [2]), (46, [2]), (47, [2, 2]), (48, [2, 2, 2]), (51, [0, 2, 2]), (54, [1, 2, 2]), (55, [2, 1, 2, 2]), (58, [0, 1, 2, 2]), (61, [2]), (65, [2]), (66, [2, 2]), (69, [2]), (74, [2])]), (118, [(32, [1]), (39, [1]), (51, [1]), (58, [1]), (92, [1])]), (120, [(1, [2]), (2, [2, 2]), (7, [2]), (11, [2]), (15, [2]), (18, [1]), (19, [2, 1]), (22, [0, 1]), (23, [2, 0, 1]), (24, [2, 2, 0, 1]), (27, [2]), (32, [2]), (34, [2]), (35, [2, 2]), (38, [2]), (42, [2]), (46, [2]), (49, [1]), (50, [2, 1]), (53, [0, 1]), (56, [2]), (61, [2]), (63, [2]), (67, [2]), (68, [2, 2]), (69, [2, 2, 2]), (72, [1, 2, 2]), (73, [2, 1, 2, 2]), (76, [0, 1, 2, 2]), (79, [2]), (83, [2]), (84, [2, 2]), (87, [2]), (92, [2])]), (121, [(13, [1]), (83, [1]), (84, [0, 1])]), (145, [(76, [1]), (90, [1]), (92, [0, 1]), (119, [1]), (133, [1])])]).getD []
set_option maxRecDepth 1000000 in
theorem oG_all : (List.range 273).all (fun i => !(oG i) || (match at_P[i]? with | some M => ckM at_P oG oD oT i M | none => true)) = true := by decide +kernel
theorem oG_P : ∀ (i : Nat) (M : am_M), at_P[i]? = some M → oG i = true → ckM at_P oG oD oT i M = true := by
  intro i M h hg
  have hi : i < 273 := by
    have := (List.getElem?_eq_some_iff.mp h).1
    rw [len_P] at this
    exact this
  have q := List.all_eq_true.mp oG_all i (List.mem_range.mpr hi)
  rw [h, hg] at q
  exact q
