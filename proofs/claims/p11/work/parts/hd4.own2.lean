/-! whose terms are written: calls that read nothing leave the sides of rules and laws -/
/-- a side: the term, its codes -/
def bdcw (k : Nat) : Bool := Nat.beq k 377 || (Nat.ble 384 k && (Nat.ble k 405 && Nat.ble ((k - 384) % 4) 1))
/-- fields that may name such a term -/
def dDw (ci k : Nat) : Bool := (Nat.beq ci 9 && Nat.beq k 6) || (Nat.beq ci 8 && Nat.beq k 4)
def wkvw : Value → Prop
  | .ref k => 0 < k ∧ k < 1826
  | _ => True
def clnw : Value → Prop
  | .ref k => (0 < k ∧ k < 1826) ∧ bdcw k = false
  | _ => True
theorem cln_wkw {v : Value} (h : clnw v) : wkvw v := by
  cases v
  case ref k => exact h.1
  all_goals exact True.intro
def hdSw : List Nat → Nat
  | [] => 0
  | b :: _ => b
def tlSw : List Nat → List Nat
  | [] => []
  | _ :: s => s
/-- labels: 1 anything, 2 clean and one word, 0 clean -/
def tvw (b : Nat) (v : Value) : Prop := wkvw v ∧ (b ≠ 1 → clnw v) ∧ (b = 2 → v.category = 1)
def TSw : List Nat → List Value → Prop
  | _, [] => True
  | s, v :: st => tvw (hdSw s) v ∧ TSw (tlSw s) st
def leLw (b c : Nat) : Bool := Nat.beq c 1 || (Nat.beq b c || (Nat.beq c 0 && !(Nat.beq b 1)))
def ndw (s : List Nat) : Bool := s.all (fun b => !(Nat.beq b 1))
def leSw : List Nat → List Nat → Bool
  | s, [] => ndw s
  | s, c :: t => leLw (hdSw s) c && leSw (tlSw s) t
theorem leL_ofw {b c : Nat} (h : leLw b c = true) : c = 1 ∨ b = c ∨ (c = 0 ∧ b ≠ 1) := by
  unfold leLw at h
  rw [Bool.or_eq_true, Bool.or_eq_true, Bool.and_eq_true] at h
  rcases h with h | h | ⟨h1, h2⟩
  · exact Or.inl (Nat.eq_of_beq_eq_true h)
  · exact Or.inr (Or.inl (Nat.eq_of_beq_eq_true h))
  · refine Or.inr (Or.inr ⟨Nat.eq_of_beq_eq_true h1, fun e => ?_⟩)
    rw [e] at h2
    cases h2
theorem tv_lew {b c : Nat} {v : Value} (h : leLw b c = true) (g : tvw b v) : tvw c v := by
  have q := leL_ofw h
  exact ⟨g.1, fun hc => g.2.1 (by omega), fun hc => g.2.2 (by omega)⟩
theorem nb1w {b : Nat} (h : (!(Nat.beq b 1)) = true) : b ≠ 1 := by
  intro e
  rw [e] at h
  cases h
theorem TS_ndw : ∀ (st : List Value) (s : List Nat), ndw s = true → TSw s st → TSw [] st
  | [], _, _, _ => True.intro
  | v :: st, [], _, g => g
  | v :: st, b :: s, h, g => by
    have h : ((!(Nat.beq b 1)) && ndw s) = true := h
    rw [Bool.and_eq_true] at h
    exact ⟨⟨g.1.1, fun _ => g.1.2.1 (nb1w h.1), fun e => absurd e (by decide)⟩, TS_ndw st s h.2 g.2⟩
theorem TS_lew : ∀ {t s : List Nat} {st : List Value}, leSw s t = true → TSw s st → TSw t st
  | [], s, st, h, g => TS_ndw st s h g
  | c :: t, s, [], _, _ => True.intro
  | c :: t, s, v :: st, h, g => by
    have h : (leLw (hdSw s) c && leSw (tlSw s) t) = true := h
    rw [Bool.and_eq_true] at h
    exact ⟨tv_lew h.1 g.1, TS_lew h.2 g.2⟩
def dmw (dl : List Nat) (i : Nat) : Bool := dl.any (Nat.beq i)
def TLw (dl : List Nat) (l : am_L) : Prop := ∀ q ∈ l, wkvw q.2 ∧ (dmw dl q.1 = false → clnw q.2)
theorem TL_st1w {dl : List Nat} {l : am_L} {i : Nat} {v : Value} (h : TLw dl l) (hv : wkvw v ∧ (dmw dl i = false → clnw v)) : TLw dl (am_st1 i v l) := by
  intro q hq
  rcases List.mem_cons.mp hq with e | e
  · rw [e]
    exact hv
  · exact h q (List.mem_filter.mp e).1
theorem TL_st2w {dl : List Nat} {l : am_L} {i : Nat} {v : Value} (h : TLw dl l) (hv : wkvw v ∧ (dmw dl i = false → clnw v)) : TLw dl (am_st2 i v l) := by
  intro q hq
  rcases List.mem_cons.mp hq with e | e
  · rw [e]
    exact hv
  · exact h q (List.mem_filter.mp e).1
def alblw (dl : List Nat) (i : Nat) : Nat := bif dmw dl i then 1 else 2
theorem TL_getw {dl : List Nat} {l : am_L} {i x : Nat} (h : TLw dl l) (g : am_geta' i l = some x) : tvw (alblw dl i) (.ref x) := by
  have e : (i, Value.ref x) ∈ l := by
    unfold am_geta' at g
    split at g
    · rename_i e
      cases g
      exact am_find_mem e
    · cases g
  have q := h _ e
  refine ⟨q.1, fun hb => q.2 ?_, fun _ => rfl⟩
  show dmw dl i = false
  cases hd : dmw dl i
  · rfl
  · exact absurd (show alblw dl i = 1 by unfold alblw; rw [hd]; rfl) hb
def aSw (A : List (Nat × List Nat)) (pc : Nat) : List Nat := (am_find pc A).getD []
def tgSw (A : List (Nat × List Nat)) (pc : Nat) (off : Int) (s : List Nat) : Bool := match am_tgt pc off with
  | some t => leSw s (aSw A t)
  | none => true
theorem tgS_ofw {A : List (Nat × List Nat)} {pc t : Nat} {off : Int} {s : List Nat} {st : List Value} (h : tgSw A pc off s = true) (ht : am_tgt pc off = some t) (g : TSw s st) : TSw (aSw A t) st := by
  unfold tgSw at h
  rw [ht] at h
  exact TS_lew h g
theorem o_ww {A : List (Nat × List Nat)} {pc : Nat} {s : List Nat} {st : List Value} {v : Value} (hc : leSw (2 :: s) (aSw A pc) = true) (hs : TSw s st) (hv : clnw v) (h1 : v.category = 1) : TSw (aSw A pc) (v :: st) := TS_lew (s := 2 :: s) hc ⟨⟨cln_wkw hv, fun _ => hv, fun _ => h1⟩, hs⟩
theorem o_lw {A : List (Nat × List Nat)} {pc : Nat} {s : List Nat} {st : List Value} {v : Value} (hc : leSw (0 :: s) (aSw A pc) = true) (hs : TSw s st) (hv : clnw v) : TSw (aSw A pc) (v :: st) := TS_lew (s := 0 :: s) hc ⟨⟨cln_wkw hv, fun _ => hv, fun e => absurd (show (0 : Nat) = 2 from e) (by decide)⟩, hs⟩
theorem o_bw {A : List (Nat × List Nat)} {pc t : Nat} {off : Int} {s : List Nat} {st : List Value} {c : Prop} [Decidable c] (h : (leSw s (aSw A (pc + 3)) && tgSw A pc off s) = true) (ht : am_tgt pc off = some t) (g : TSw s st) : TSw (aSw A (if c then pc + 3 else t)) st ∧ TSw (aSw A (if c then t else pc + 3)) st := by
  rw [Bool.and_eq_true] at h
  have h1 := TS_lew h.1 g
  have h2 := tgS_ofw h.2 ht g
  by_cases e : c
  · rw [if_pos e, if_pos e]
    exact ⟨h1, h2⟩
  · rw [if_neg e, if_neg e]
    exact ⟨h2, h1⟩
def nclw (s : List Nat) : Bool := !(Nat.beq (hdSw s) 1)
def t2w (s : List Nat) : List Nat := tlSw (tlSw s)
def t3w (s : List Nat) : List Nat := tlSw (t2w s)
def revSw : Nat → List Nat → List Nat → List Nat
  | 0, _, acc => acc
  | n + 1, s, acc => revSw n (tlSw s) (hdSw s :: acc)
def drpSw : Nat → List Nat → List Nat
  | 0, s => s
  | n + 1, s => drpSw n (tlSw s)
/-- may these go into a method's first locals? -/
def lbOKw (dl : List Nat) : Nat → List Nat → Bool
  | _, [] => true
  | i, b :: lb => bif Nat.beq b 2 then lbOKw dl (i + 1) lb else ((!(Nat.beq b 1) || dmw dl i) && ndw lb)
def retSw (r : Option FieldType) (s : List Nat) : List Nat := match r with
  | none => s
  | some .int => 2 :: s
  | some .boolean => 2 :: s
  | some _ => 0 :: s
section OWw
variable (P : List am_M) (G : Nat → Bool) (dls : Nat → List Nat) (T : am_T) (dl : List Nat) (A : List (Nat × List Nat))
def ckCw (i pc : Nat) (inst : Bool) (s : List Nat) : Bool := match am_find i T.2.2.2.2.2 with
  | none => false
  | some j => bif Nat.blt j 4 then (bif Nat.beq j 3 then nclw (t2w s) && leSw (tlSw (tlSw (t3w s))) (aSw A (pc + 3)) else (bif Nat.beq j 0 then false else leSw (2 :: t2w s) (aSw A (pc + 3))))
    else match P[j - 4]? with
      | none => false
      | some M => G (j - 4) && (bif inst then lbOKw (dls (j - 4)) 0 ((bif nclw (drpSw M.2.2.2.2.2.2.1 s) then 2 else 1) :: revSw M.2.2.2.2.2.2.1 s []) && leSw (retSw M.2.2.2.1 (tlSw (drpSw M.2.2.2.2.2.2.1 s))) (aSw A (pc + 3)) else lbOKw (dls (j - 4)) 0 (revSw M.2.2.2.2.2.2.1 s []) && leSw (retSw M.2.2.2.1 (drpSw M.2.2.2.2.2.2.1 s)) (aSw A (pc + 3)))
/-- is this step allowed with these labels, and are those behind it as the table says? -/
def ckIw (ins : Instr) (pc : Nat) (s : List Nat) : Bool := match ins with
  | .iconst _ => leSw (2 :: s) (aSw A (pc + 1))
  | .bipush _ => leSw (2 :: s) (aSw A (pc + 2))
  | .sipush _ => leSw (2 :: s) (aSw A (pc + 3))
  | .lconst _ => leSw (0 :: s) (aSw A (pc + 1))
  | .iload_n _ => leSw (2 :: s) (aSw A (pc + 1))
  | .iload _ => leSw (2 :: s) (aSw A (pc + 2))
  | .lload_n _ => leSw (0 :: s) (aSw A (pc + 1))
  | .lload _ => leSw (0 :: s) (aSw A (pc + 2))
  | .aload_n i => leSw (alblw dl i.val :: s) (aSw A (pc + 1))
  | .aload i => leSw (alblw dl i :: s) (aSw A (pc + 2))
  | .istore_n _ => leSw (tlSw s) (aSw A (pc + 1))
  | .istore _ => leSw (tlSw s) (aSw A (pc + 2))
  | .astore_n i => (dmw dl i.val || nclw s) && leSw (tlSw s) (aSw A (pc + 1))
  | .astore i => (dmw dl i || nclw s) && leSw (tlSw s) (aSw A (pc + 2))
  | .lstore_n _ => leSw (tlSw s) (aSw A (pc + 1))
  | .lstore _ => leSw (tlSw s) (aSw A (pc + 2))
  | .iinc _ _ => leSw s (aSw A (pc + 3))
  | .iadd => leSw (2 :: t2w s) (aSw A (pc + 1))
  | .isub => leSw (2 :: t2w s) (aSw A (pc + 1))
  | .imul => leSw (2 :: t2w s) (aSw A (pc + 1))
  | .iand => leSw (2 :: t2w s) (aSw A (pc + 1))
  | .ior => leSw (2 :: t2w s) (aSw A (pc + 1))
  | .ixor => leSw (2 :: t2w s) (aSw A (pc + 1))
  | .ishl => leSw (2 :: t2w s) (aSw A (pc + 1))
  | .ishr => leSw (2 :: t2w s) (aSw A (pc + 1))
  | .idiv => leSw (2 :: t2w s) (aSw A (pc + 1))
  | .irem => leSw (2 :: t2w s) (aSw A (pc + 1))
  | .iushr => leSw (2 :: t2w s) (aSw A (pc + 1))
  | .ladd => leSw (0 :: t2w s) (aSw A (pc + 1))
  | .lsub => leSw (0 :: t2w s) (aSw A (pc + 1))
  | .lmul => leSw (0 :: t2w s) (aSw A (pc + 1))
  | .land => leSw (0 :: t2w s) (aSw A (pc + 1))
  | .lor => leSw (0 :: t2w s) (aSw A (pc + 1))
  | .lxor => leSw (0 :: t2w s) (aSw A (pc + 1))
  | .lshl => leSw (0 :: t2w s) (aSw A (pc + 1))
  | .lshr => leSw (0 :: t2w s) (aSw A (pc + 1))
  | .lushr => leSw (0 :: t2w s) (aSw A (pc + 1))
  | .lcmp => leSw (2 :: t2w s) (aSw A (pc + 1))
  | .i2l => leSw (0 :: tlSw s) (aSw A (pc + 1))
  | .l2i => leSw (2 :: tlSw s) (aSw A (pc + 1))
  | .i2b => leSw (2 :: tlSw s) (aSw A (pc + 1))
  | .dup => leSw (hdSw s :: s) (aSw A (pc + 1))
  | .pop => leSw (tlSw s) (aSw A (pc + 1))
  | .dup2 => leSw (hdSw s :: hdSw (tlSw s) :: s) (aSw A (pc + 1))
  | .ifCond _ off => leSw (tlSw s) (aSw A (pc + 3)) && tgSw A pc off (tlSw s)
  | .if_icmp _ off => leSw (t2w s) (aSw A (pc + 3)) && tgSw A pc off (t2w s)
  | .goto off => tgSw A pc off s
  | .tableswitch d _ _ offs => tgSw A pc d (tlSw s) && offs.toList.all (fun off => tgSw A pc off (tlSw s))
  | .lookupswitch d ps => tgSw A pc d (tlSw s) && ps.toList.all (fun q => tgSw A pc q.2 (tlSw s))
  | .getfield i => (match am_find i T.1 with
    | some q => leSw ((bif dDw q.1 q.2 || !(nclw s) then 1 else 0) :: tlSw s) (aSw A (pc + 3))
    | none => false)
  | .putfield i => (match am_find i T.2.1 with
    | some q => nclw (tlSw s) && ((dDw q.1 q.2 || nclw s) && leSw (t2w s) (aSw A (pc + 3)))
    | none => false)
  | .iaload => leSw (0 :: t2w s) (aSw A (pc + 1))
  | .laload => leSw (0 :: t2w s) (aSw A (pc + 1))
  | .baload => leSw (0 :: t2w s) (aSw A (pc + 1))
  | .aaload => leSw ((bif nclw (tlSw s) then 0 else 1) :: t2w s) (aSw A (pc + 1))
  | .arraylength => leSw (2 :: tlSw s) (aSw A (pc + 1))
  | .iastore => nclw (t2w s) && leSw (t3w s) (aSw A (pc + 1))
  | .lastore => nclw (t2w s) && leSw (t3w s) (aSw A (pc + 1))
  | .aastore => nclw s && (nclw (t2w s) && leSw (t3w s) (aSw A (pc + 1)))
  | .ldc _ => leSw (2 :: s) (aSw A (pc + 2))
  | .ldc2_w _ => leSw (0 :: s) (aSw A (pc + 3))
  | .ireturn => true
  | .lreturn => true
  | .return_ => true
  | .areturn => nclw s
  | .invokestatic i => ckCw P G dls T A i pc false s
  | .invokespecial i => ckCw P G dls T A i pc true s
  | .invokevirtual i => ckCw P G dls T A i pc true s
  | _ => false
end OWw
theorem ncl_ofw {s : List Nat} (h : nclw s = true) : hdSw s ≠ 1 := nb1w h
theorem lk_ofw {A : List (Nat × List Nat)} {pc : Nat} {s : List Nat} {k d : Int} : ∀ {l : List (Int × Int)}, tgSw A pc d s = true → l.all (fun q => tgSw A pc q.2 s) = true → tgSw A pc (Op.lookupswitch.offset l d k) s = true
  | [], h, _ => h
  | (a, o) :: r, h, g => by
    have g2 : (tgSw A pc o s && r.all (fun q => tgSw A pc q.2 s)) = true := g
    rw [Bool.and_eq_true] at g2
    show tgSw A pc (if a = k then o else Op.lookupswitch.offset r d k) s = true
    split
    · exact g2.1
    · exact lk_ofw h g2.2
theorem o_asw {dl : List Nat} {A : List (Nat × List Nat)} {pc i x : Nat} {s : List Nat} {st : List Value} {l : am_L} (hc : ((dmw dl i || nclw s) && leSw (tlSw s) (aSw A pc)) = true) (hs : TSw s (.ref x :: st)) (hl : TLw dl l) : TSw (aSw A pc) st ∧ TLw dl (am_st1 i (.ref x) l) := by
  rw [Bool.and_eq_true, Bool.or_eq_true] at hc
  refine ⟨TS_lew hc.2 hs.2, TL_st1w hl ⟨hs.1.1, fun e => hs.1.2.1 ?_⟩⟩
  rcases hc.1 with q | q
  · rw [e] at q
    cases q
  · exact ncl_ofw q
set_option maxHeartbeats 4000000 in
set_option maxRecDepth 100000 in
theorem own_purew {P : List am_M} {G : Nat → Bool} {dls : Nat → List Nat} {T : am_T} {dl : List Nat} {A : List (Nat × List Nat)} {nL : Nat} {ins : Instr} {len pc : Nat} {l : am_L} {st : List Value} {pc' : Nat} {l' : am_L} {st' : List Value} {s : List Nat} (h : am_pure nL ins len pc l st = some (pc', l', st')) (hc : ckIw P G dls T dl A ins pc s = true) (hs : TSw s st) (hl : TLw dl l) : TSw (aSw A pc') st' ∧ TLw dl l' := by
  unfold am_pure at h
  split at h
  · cases h; exact ⟨o_ww hc hs True.intro rfl, hl⟩
  · cases h; exact ⟨o_ww hc hs True.intro rfl, hl⟩
  · cases h; exact ⟨o_ww hc hs True.intro rfl, hl⟩
  · cases h; exact ⟨o_lw hc hs True.intro, hl⟩
  · obtain ⟨x, hg, e⟩ := Option.map_eq_some_iff.mp h; cases e; exact ⟨o_ww hc hs True.intro rfl, hl⟩
  · obtain ⟨x, hg, e⟩ := Option.map_eq_some_iff.mp h; cases e; exact ⟨o_ww hc hs True.intro rfl, hl⟩
  · obtain ⟨x, hg, e⟩ := Option.map_eq_some_iff.mp h; cases e; exact ⟨o_lw hc hs True.intro, hl⟩
  · obtain ⟨x, hg, e⟩ := Option.map_eq_some_iff.mp h; cases e; exact ⟨o_lw hc hs True.intro, hl⟩
  · obtain ⟨x, hg, e⟩ := Option.map_eq_some_iff.mp h; cases e; exact ⟨TS_lew (s := alblw dl _ :: s) hc ⟨TL_getw hl hg, hs⟩, hl⟩
  · obtain ⟨x, hg, e⟩ := Option.map_eq_some_iff.mp h; cases e; exact ⟨TS_lew (s := alblw dl _ :: s) hc ⟨TL_getw hl hg, hs⟩, hl⟩
  · split at h
    · cases h; exact ⟨TS_lew hc hs.2, TL_st1w hl ⟨True.intro, fun _ => True.intro⟩⟩
    · cases h
  · split at h
    · cases h; exact ⟨TS_lew hc hs.2, TL_st1w hl ⟨True.intro, fun _ => True.intro⟩⟩
    · cases h
  · split at h
    · cases h; exact o_asw hc hs hl
    · cases h
  · split at h
    · cases h; exact o_asw hc hs hl
    · cases h
  · split at h
    · cases h; exact ⟨TS_lew hc hs.2, TL_st2w hl ⟨True.intro, fun _ => True.intro⟩⟩
    · cases h
  · split at h
    · cases h; exact ⟨TS_lew hc hs.2, TL_st2w hl ⟨True.intro, fun _ => True.intro⟩⟩
    · cases h
  · split at h
    · obtain ⟨x, hg, e⟩ := Option.map_eq_some_iff.mp h; cases e; exact ⟨TS_lew hc hs, TL_st1w hl ⟨True.intro, fun _ => True.intro⟩⟩
    · cases h
  · cases h; exact ⟨o_ww hc hs.2.2 True.intro rfl, hl⟩
  · cases h; exact ⟨o_ww hc hs.2.2 True.intro rfl, hl⟩
  · cases h; exact ⟨o_ww hc hs.2.2 True.intro rfl, hl⟩
  · cases h; exact ⟨o_ww hc hs.2.2 True.intro rfl, hl⟩
  · cases h; exact ⟨o_ww hc hs.2.2 True.intro rfl, hl⟩
  · cases h; exact ⟨o_ww hc hs.2.2 True.intro rfl, hl⟩
  · cases h; exact ⟨o_ww hc hs.2.2 True.intro rfl, hl⟩
  · cases h; exact ⟨o_ww hc hs.2.2 True.intro rfl, hl⟩
  · split at h
    · cases h
    · cases h; exact ⟨o_ww hc hs.2.2 True.intro rfl, hl⟩
  · split at h
    · cases h
    · cases h; exact ⟨o_ww hc hs.2.2 True.intro rfl, hl⟩
  · cases h; exact ⟨o_ww hc hs.2.2 True.intro rfl, hl⟩
  · cases h; exact ⟨o_lw hc hs.2.2 True.intro, hl⟩
  · cases h; exact ⟨o_lw hc hs.2.2 True.intro, hl⟩
  · cases h; exact ⟨o_lw hc hs.2.2 True.intro, hl⟩
  · cases h; exact ⟨o_lw hc hs.2.2 True.intro, hl⟩
  · cases h; exact ⟨o_lw hc hs.2.2 True.intro, hl⟩
  · cases h; exact ⟨o_lw hc hs.2.2 True.intro, hl⟩
  · cases h; exact ⟨o_lw hc hs.2.2 True.intro, hl⟩
  · cases h; exact ⟨o_lw hc hs.2.2 True.intro, hl⟩
  · cases h; exact ⟨o_lw hc hs.2.2 True.intro, hl⟩
  · cases h; exact ⟨o_ww hc hs.2.2 True.intro rfl, hl⟩
  · cases h; exact ⟨o_lw hc hs.2 True.intro, hl⟩
  · cases h; exact ⟨o_ww hc hs.2 True.intro rfl, hl⟩
  · cases h; exact ⟨o_ww hc hs.2 True.intro rfl, hl⟩
  · split at h
    · cases h; exact ⟨TS_lew (s := hdSw s :: s) hc ⟨hs.1, hs⟩, hl⟩
    · cases h
  · split at h
    · cases h; exact ⟨TS_lew hc hs.2, hl⟩
    · cases h
  · split at h
    · cases h; exact ⟨TS_lew (s := hdSw s :: hdSw (tlSw s) :: s) hc ⟨hs.1, hs.2.1, hs⟩, hl⟩
    · cases h
  · obtain ⟨t, ht, e⟩ := Option.map_eq_some_iff.mp h; cases e; exact ⟨(o_bw hc ht hs.2).1, hl⟩
  · obtain ⟨t, ht, e⟩ := Option.map_eq_some_iff.mp h; cases e; exact ⟨(o_bw hc ht hs.2.2).1, hl⟩
  · obtain ⟨t, ht, e⟩ := Option.map_eq_some_iff.mp h; cases e; exact ⟨(o_bw hc ht hs.2).2, hl⟩
  · obtain ⟨t, ht, e⟩ := Option.map_eq_some_iff.mp h; cases e; exact ⟨(o_bw hc ht hs.2).2, hl⟩
  · obtain ⟨t, ht, e⟩ := Option.map_eq_some_iff.mp h; cases e; exact ⟨(o_bw hc ht hs.2).2, hl⟩
  · obtain ⟨t, ht, e⟩ := Option.map_eq_some_iff.mp h; cases e; exact ⟨(o_bw hc ht hs.2).2, hl⟩
  · obtain ⟨t, ht, e⟩ := Option.map_eq_some_iff.mp h; cases e; exact ⟨(o_bw hc ht hs.2).2, hl⟩
  · obtain ⟨t, ht, e⟩ := Option.map_eq_some_iff.mp h; cases e; exact ⟨(o_bw hc ht hs.2.2).2, hl⟩
  · obtain ⟨t, ht, e⟩ := Option.map_eq_some_iff.mp h; cases e; exact ⟨(o_bw hc ht hs.2.2).2, hl⟩
  · obtain ⟨t, ht, e⟩ := Option.map_eq_some_iff.mp h; cases e; exact ⟨(o_bw hc ht hs.2.2).2, hl⟩
  · obtain ⟨t, ht, e⟩ := Option.map_eq_some_iff.mp h; cases e; exact ⟨(o_bw hc ht hs.2.2).2, hl⟩
  · obtain ⟨t, ht, e⟩ := Option.map_eq_some_iff.mp h; cases e; exact ⟨(o_bw hc ht hs.2.2).2, hl⟩
  · obtain ⟨t, ht, e⟩ := Option.map_eq_some_iff.mp h; cases e; exact ⟨tgS_ofw hc ht hs, hl⟩
  · have hc := (Bool.and_eq_true _ _).mp hc
    split at h
    · obtain ⟨t, ht, e⟩ := Option.map_eq_some_iff.mp h; cases e; exact ⟨tgS_ofw hc.1 ht hs.2, hl⟩
    · split at h
      · rename_i ho
        obtain ⟨t, ht, e⟩ := Option.map_eq_some_iff.mp h; cases e; exact ⟨tgS_ofw (List.all_eq_true.mp hc.2 _ (List.mem_of_getElem? ho)) ht hs.2, hl⟩
      · cases h
  · have hc := (Bool.and_eq_true _ _).mp hc
    split at h
    · obtain ⟨t, ht, e⟩ := Option.map_eq_some_iff.mp h; cases e; exact ⟨tgS_ofw (lk_ofw hc.1 hc.2) ht hs.2, hl⟩
    · cases h
  · cases h
/-- the sides are as they were -/
def KDw (S S' : am_S) : Prop := ∀ a, bdcw a = true → am_nth S' a = am_nth S a
theorem KD_rfw (S : am_S) : KDw S S := fun _ _ => rfl
theorem KD_trw {S1 S2 S3 : am_S} (h : KDw S1 S2) (g : KDw S2 S3) : KDw S1 S3 := fun a ha => (g a ha).trans (h a ha)
theorem bdc_posw {a : Nat} (h : bdcw a = true) : ∃ k, a = k + 1 := by
  cases a with
  | zero => cases h
  | succ k => exact ⟨k, rfl⟩
/-- clean cells name clean cells -/
def WOw (S : am_S) : Prop := (∀ (a z ci : Nat) (fs : List Value), 0 < a → a < 1826 → am_nth S a = some (z, some (.inr (ci, fs))) → ∀ (k : Nat) (v : Value), fs[k]? = some v → wkvw v ∧ (bdcw a = false → dDw ci k = false → clnw v)) ∧ ∀ (a z : Nat) (ty : FieldType) (n : Nat) (d : Value) (u : List (Nat × Value)), 0 < a → a < 1826 → am_nth S a = some (z, some (.inl (ty, n, d, u))) → ∀ j, j < n → wkvw (am_fn d u j) ∧ (rty ty = false ∨ a ≠ 377 → clnw (am_fn d u j))
theorem KD_setw {S : am_S} {k : Nat} {x0 x : am_C} (h : am_nth S (k + 1) = some x0) (hb : bdcw (k + 1) = false) : KDw S (am_set S (k + 1) x) := by
  intro a ha
  obtain ⟨j, rfl⟩ := bdc_posw ha
  rw [am_nth_set x h j, if_neg (fun e => by rw [e, hb] at ha; cases ha)]
theorem WO_arrw {S : am_S} {k z z' n : Nat} {ty : FieldType} {d : Value} {u u' : List (Nat × Value)} (w : WOw S) (h : am_nth S (k + 1) = some (z, some (.inl (ty, n, d, u)))) (hu : ∀ j, j < n → wkvw (am_fn d u' j) ∧ (rty ty = false ∨ k + 1 ≠ 377 → clnw (am_fn d u' j))) : WOw (am_set S (k + 1) (z', some (.inl (ty, n, d, u')))) := by
  refine ⟨fun a z1 ci fs a0 a1 e => ?_, fun a z1 ty1 n1 d1 u1 a0 a1 e => ?_⟩
  · obtain ⟨j, rfl⟩ : ∃ j, a = j + 1 := ⟨a - 1, by omega⟩
    rw [am_nth_set _ h j] at e
    by_cases q : j = k
    · rw [if_pos q] at e
      cases e
    · rw [if_neg q] at e
      exact w.1 _ z1 ci fs a0 a1 e
  · obtain ⟨j, rfl⟩ : ∃ j, a = j + 1 := ⟨a - 1, by omega⟩
    rw [am_nth_set _ h j] at e
    by_cases q : j = k
    · subst q
      rw [if_pos rfl] at e
      cases e
      exact hu
    · rw [if_neg q] at e
      exact w.2 _ z1 ty1 n1 d1 u1 a0 a1 e
theorem WO_setaw {S S' : am_S} {a : Nat} {i : Int32} {ty : FieldType} {v : Value} (w : WOw S) (ha : clnw (.ref a)) (hv : clnw v) (h : am_seta S a i ty v = some S') : KDw S S' ∧ WOw S' := by
  unfold am_seta at h
  split at h
  · cases h
  · rename_i k z t n d u hk
    split at h
    · cases h
      refine ⟨KD_setw hk ha.2, WO_arrw w hk (fun j hj => ?_)⟩
      rw [am_fn_cons]
      unfold updV
      split
      · exact ⟨cln_wkw hv, fun _ => hv⟩
      · exact w.2 _ _ _ _ _ _ ha.1.1 ha.1.2 hk j hj
    · cases h
  · cases h
theorem WO_getaw {S : am_S} {a : Nat} {i : Int32} {ty : FieldType} {v : Value} (w : WOw S) (ha : wkvw (.ref a)) (h : am_geta S a i ty = some v) : wkvw v ∧ (rty ty = false ∨ a ≠ 377 → clnw v) := by
  unfold am_geta at h
  split at h
  · rename_i z t n d u hk
    split at h
    · rename_i hc
      cases h
      have q := w.2 _ _ _ _ _ _ ha.1 ha.2 hk _ (show i.toNatClampNeg < n by have := hc.2; omega)
      rw [hc.1] at q
      exact q
    · cases h
  · cases h
theorem WO_getfw {S : am_S} {a ci k : Nat} {v : Value} (w : WOw S) (ha : wkvw (.ref a)) (h : am_getf S a ci k = some v) : wkvw v ∧ (bdcw a = false → dDw ci k = false → clnw v) := by
  unfold am_getf at h
  split at h
  · rename_i z cj fs hk
    split at h
    · rename_i hc
      cases hc
      exact w.1 a z _ fs ha.1 ha.2 hk k v h
    · cases h
  · cases h
theorem WO_putfw {S : am_S} {a z cj k : Nat} {fs : List Value} {v : Value} (w : WOw S) (ha : clnw (.ref a)) (hv : wkvw v ∧ (dDw cj k = false → clnw v)) (h : am_nth S a = some (z, some (.inr (cj, fs)))) : KDw S (am_set S a (z, some (.inr (cj, fs.set k v)))) ∧ WOw (am_set S a (z, some (.inr (cj, fs.set k v)))) := by
  obtain ⟨p, rfl⟩ : ∃ j, a = j + 1 := ⟨a - 1, by have h9 : 0 < a := ha.1.1; omega⟩
  refine ⟨KD_setw h ha.2, fun b z1 ci fs1 b0 b1 e => ?_, fun b z1 ty1 n1 d1 u1 b0 b1 e => ?_⟩
  · obtain ⟨j, rfl⟩ : ∃ j, b = j + 1 := ⟨b - 1, by omega⟩
    rw [am_nth_set _ h j] at e
    by_cases q : j = p
    · rw [if_pos q] at e
      cases e
      intro k2 v2 h2
      by_cases q2 : k2 = k
      · rw [q2] at h2 ⊢
        have e3 : v2 = v := by
          have h3 : k < (fs.set k v).length := (List.getElem?_eq_some_iff.mp h2).1
          rw [List.length_set] at h3
          rw [List.getElem?_set_self h3] at h2
          exact (Option.some.inj h2).symm
        rw [e3]
        exact ⟨hv.1, fun _ => hv.2⟩
      · rw [List.getElem?_set_ne (fun e9 => q2 e9.symm)] at h2
        rw [q]
        exact w.1 _ z cj fs ha.1.1 ha.1.2 h k2 v2 h2
    · rw [if_neg q] at e
      exact w.1 _ z1 ci fs1 b0 b1 e
  · obtain ⟨j, rfl⟩ : ∃ j, b = j + 1 := ⟨b - 1, by omega⟩
    rw [am_nth_set _ h j] at e
    by_cases q : j = p
    · rw [if_pos q] at e
      cases e
    · rw [if_neg q] at e
      exact w.2 _ z1 ty1 n1 d1 u1 b0 b1 e
set_option maxHeartbeats 4000000 in
theorem own_heapw {P : List am_M} {G : Nat → Bool} {dls : Nat → List Nat} {dl : List Nat} {A : List (Nat × List Nat)} {cl : List vw_C} {tyL : List (List FieldType)} {T : am_T} {ins : Instr} {len pc : Nat} {st : List Value} {S : am_S} {pc' : Nat} {st' : List Value} {S' : am_S} {dc ds : Nat} {s : List Nat} (h : am_heap cl tyL T ins len pc st S = some (pc', st', S', dc, ds)) (hc : ckIw P G dls T dl A ins pc s = true) (hs : TSw s st) (w : WOw S) : TSw (aSw A pc') st' ∧ KDw S S' ∧ WOw S' := by
  unfold am_heap at h
  split at h
  · rename_i i a st0
    have hc : (match am_find i T.1 with | some q => leSw ((bif dDw q.1 q.2 || !(nclw s) then 1 else 0) :: tlSw s) (aSw A (pc + 3)) | none => false) = true := hc
    split at h
    · rename_i ci k hi
      rw [hi] at hc
      obtain ⟨v, hv, e9⟩ := Option.map_eq_some_iff.mp h; cases e9
      have g := WO_getfw w hs.1.1 hv
      refine ⟨TS_lew hc ⟨⟨g.1, fun hb => ?_, fun hb => ?_⟩, hs.2⟩, KD_rfw _, w⟩
      · have hb : (bif dDw ci k || !(nclw s) then 1 else 0) ≠ 1 := hb
        cases h1 : dDw ci k with
        | true =>
          rw [h1] at hb
          exact absurd rfl hb
        | false =>
          rw [h1] at hb
          cases h2 : nclw s with
          | false =>
            rw [h2] at hb
            exact absurd rfl hb
          | true => exact g.2 (hs.1.2.1 (ncl_ofw h2)).2 h1
      · have hb : (bif dDw ci k || !(nclw s) then 1 else 0) = 2 := hb
        cases h1 : (dDw ci k || !(nclw s)) with
        | true =>
          rw [h1] at hb
          cases hb
        | false =>
          rw [h1] at hb
          cases hb
    · cases h
  · rename_i i v a st0
    have hc : (match am_find i T.2.1 with | some q => nclw (tlSw s) && ((dDw q.1 q.2 || nclw s) && leSw (t2w s) (aSw A (pc + 3))) | none => false) = true := hc
    split at h
    · rename_i ci k hi
      rw [hi] at hc
      have hc : (nclw (tlSw s) && ((dDw ci k || nclw s) && leSw (t2w s) (aSw A (pc + 3)))) = true := hc
      rw [Bool.and_eq_true, Bool.and_eq_true, Bool.or_eq_true] at hc
      split at h
      · rename_i z cj fs hk
        split at h
        · split at h
          · rename_i hq
            cases h
            have g := WO_putfw (k := k) (v := v) w (hs.2.1.2.1 (ncl_ofw hc.1)) ⟨hs.1.1, fun e => hs.1.2.1 (by
              rw [hq.1] at e
              rcases hc.2.1 with q | q
              · rw [e] at q
                cases q
              · exact ncl_ofw q)⟩ hk
            exact ⟨TS_lew hc.2.2 hs.2.2, g.1, g.2⟩
          · cases h
        · cases h
      · cases h
    · cases h
  · cases hc
  · cases hc
  · cases hc
  · obtain ⟨v, hv, e9⟩ := Option.map_eq_some_iff.mp h; cases e9; exact ⟨o_lw hc hs.2.2 ((WO_getaw w hs.2.1.1 hv).2 (Or.inl rfl)), KD_rfw _, w⟩
  · obtain ⟨v, hv, e9⟩ := Option.map_eq_some_iff.mp h; cases e9; exact ⟨o_lw hc hs.2.2 ((WO_getaw w hs.2.1.1 hv).2 (Or.inl rfl)), KD_rfw _, w⟩
  · split at h
    · rename_i hv
      cases h; exact ⟨o_lw hc hs.2.2 ((WO_getaw w hs.2.1.1 hv).2 (Or.inl rfl)), KD_rfw _, w⟩
    · obtain ⟨v, hv, e9⟩ := Option.map_eq_some_iff.mp h; cases e9; exact ⟨o_lw hc hs.2.2 ((WO_getaw w hs.2.1.1 hv).2 (Or.inl rfl)), KD_rfw _, w⟩
  · split at h
    · obtain ⟨v, hv, e9⟩ := Option.map_eq_some_iff.mp h; cases e9
      have g := WO_getaw w hs.2.1.1 hv
      refine ⟨TS_lew hc ⟨⟨g.1, fun hb => ?_, fun hb => ?_⟩, hs.2.2⟩, KD_rfw _, w⟩
      · have hb : (bif nclw (tlSw s) then 0 else 1) ≠ 1 := hb
        cases h1 : nclw (tlSw s) with
        | false =>
          rw [h1] at hb
          exact absurd rfl hb
        | true =>
          have hq := (hs.2.1.2.1 (ncl_ofw h1)).2
          exact g.2 (Or.inr (fun e => by rw [e] at hq; exact absurd hq (by decide)))
      · have hb : (bif nclw (tlSw s) then 0 else 1) = 2 := hb
        cases h1 : nclw (tlSw s) with
        | false =>
          rw [h1] at hb
          cases hb
        | true =>
          rw [h1] at hb
          cases hb
    · cases h
  · split at h
    · cases h; exact ⟨o_ww hc hs.2 True.intro rfl, KD_rfw _, w⟩
    · cases h
  · have hc := (Bool.and_eq_true _ _).mp hc
    obtain ⟨v, hv, e9⟩ := Option.map_eq_some_iff.mp h; cases e9
    have g := WO_setaw w (hs.2.2.1.2.1 (ncl_ofw hc.1)) (by exact True.intro) hv
    exact ⟨TS_lew hc.2 hs.2.2.2, g.1, g.2⟩
  · have hc := (Bool.and_eq_true _ _).mp hc
    obtain ⟨v, hv, e9⟩ := Option.map_eq_some_iff.mp h; cases e9
    have g := WO_setaw w (hs.2.2.1.2.1 (ncl_ofw hc.1)) (by exact True.intro) hv
    exact ⟨TS_lew hc.2 hs.2.2.2, g.1, g.2⟩
  · cases hc
  · have hc : (nclw s && (nclw (t2w s) && leSw (t3w s) (aSw A (pc + 1)))) = true := hc
    rw [Bool.and_eq_true, Bool.and_eq_true] at hc
    split at h
    · split at h
      · obtain ⟨v, hv, e9⟩ := Option.map_eq_some_iff.mp h; cases e9
        have g := WO_setaw w (hs.2.2.1.2.1 (ncl_ofw hc.2.1)) (hs.1.2.1 (ncl_ofw hc.1)) hv
        exact ⟨TS_lew hc.2.2 hs.2.2.2, g.1, g.2⟩
      · cases h
    · cases h
  · split at h
    · cases h; exact ⟨o_ww hc hs True.intro rfl, KD_rfw _, w⟩
    · cases h
  · split at h
    · cases h; exact ⟨o_lw hc hs True.intro, KD_rfw _, w⟩
    · cases h
  · cases h
theorem TS_drpw : ∀ (n : Nat) {s : List Nat} {st : List Value}, n ≤ st.length → TSw s st → TSw (drpSw n s) (st.drop n)
  | 0, _, _, _, g => g
  | n + 1, s, [], hn, _ => absurd hn (by simp)
  | n + 1, s, v :: st, hn, g => TS_drpw n (Nat.le_of_succ_le_succ hn) g.2
theorem TS_revw : ∀ (n : Nat) {s acc : List Nat} {st av : List Value}, n ≤ st.length → TSw s st → TSw acc av → TSw (revSw n s acc) ((st.take n).reverse ++ av)
  | 0, _, _, _, _, _, _, ga => ga
  | n + 1, s, acc, [], av, hn, _, _ => absurd hn (by simp)
  | n + 1, s, acc, v :: st, av, hn, g, ga => by
    have q := TS_revw n (acc := hdSw s :: acc) (av := v :: av) (Nat.le_of_succ_le_succ hn) g.2 ⟨g.1, ga⟩
    rw [List.take_succ_cons, List.reverse_cons, List.append_assoc]
    exact q
theorem nd_clw : ∀ {s : List Nat} {st : List Value}, ndw s = true → TSw s st → ∀ v ∈ st, clnw v
  | _, [], _, _, v, hv => by cases hv
  | [], w :: st, _, g, v, hv => by
    rcases List.mem_cons.mp hv with e | e
    · rw [e]
      exact g.1.2.1 (by decide)
    · exact nd_clw (s := []) rfl g.2 v e
  | b :: s, w :: st, h, g, v, hv => by
    have h : ((!(Nat.beq b 1)) && ndw s) = true := h
    rw [Bool.and_eq_true] at h
    rcases List.mem_cons.mp hv with e | e
    · rw [e]
      exact g.1.2.1 (nb1w h.1)
    · exact nd_clw h.2 g.2 v e
theorem TL_allw {dl : List Nat} : ∀ (as : List Value) (i : Nat), (∀ v ∈ as, clnw v) → TLw dl (lv_args i as)
  | [], _, _ => fun q hq => by cases hq
  | v :: as, i, h => by
    intro q hq
    rcases List.mem_cons.mp hq with e | e
    · rw [e]
      have := h v (List.mem_cons_self ..)
      exact ⟨cln_wkw this, fun _ => this⟩
    · exact TL_allw as _ (fun v hv => h v (List.mem_cons_of_mem _ hv)) q e
theorem TL_argsw {dl : List Nat} : ∀ (as : List Value) (i : Nat) (lb : List Nat), lbOKw dl i lb = true → TSw lb as → TLw dl (lv_args i as)
  | as, i, [], _, g => TL_allw as i (nd_clw (s := []) rfl g)
  | [], _, _ :: _, _, _ => fun q hq => by cases hq
  | v :: as, i, b :: lb, h, g => by
    have h : (bif Nat.beq b 2 then lbOKw dl (i + 1) lb else ((!(Nat.beq b 1) || dmw dl i) && ndw lb)) = true := h
    have g1 : tvw b v := g.1
    have g2 : TSw lb as := g.2
    intro q hq
    have hq : q ∈ (i, v) :: lv_args (if v.category = 2 then i + 2 else i + 1) as := hq
    cases hb : Nat.beq b 2 with
    | true =>
      rw [hb] at h
      have e2 := Nat.eq_of_beq_eq_true hb
      rw [if_neg (by rw [g1.2.2 e2]; decide)] at hq
      rcases List.mem_cons.mp hq with e | e
      · rw [e]
        exact ⟨g1.1, fun _ => g1.2.1 (by omega)⟩
      · exact TL_argsw as (i + 1) lb h g2 q e
    | false =>
      rw [hb] at h
      have h : ((!(Nat.beq b 1) || dmw dl i) && ndw lb) = true := h
      rw [Bool.and_eq_true, Bool.or_eq_true] at h
      rcases List.mem_cons.mp hq with e | e
      · rw [e]
        refine ⟨g1.1, fun hd => ?_⟩
        rcases h.1 with r | r
        · exact g1.2.1 (nb1w r)
        · have hd : dmw dl i = false := hd
          rw [hd] at r
          cases r
      · exact TL_allw as _ (nd_clw h.2 g2) q e
/-- an answer -/
def RVdw (ret : Option FieldType) (r : Option Value) : Prop := match ret with
  | none => r = none
  | some ty => ∃ v, r = some v ∧ clnw v ∧ (ty = .int ∨ ty = .boolean → v.category = 1)
theorem RVd_tsw {ret : Option FieldType} {r : Option Value} {s : List Nat} {st : List Value} (h : RVdw ret r) (g : TSw s st) : TSw (retSw ret s) (r.toList ++ st) := by
  cases ret with
  | none =>
    have h : r = none := h
    rw [h]
    exact g
  | some ty =>
    obtain ⟨v, rfl, h1, h2⟩ := h
    have h0 : tvw 0 v := ⟨cln_wkw h1, fun _ => h1, fun e => absurd e (by decide)⟩
    cases ty
    case int => exact ⟨⟨cln_wkw h1, fun _ => h1, fun _ => h2 (Or.inl rfl)⟩, g⟩
    case boolean => exact ⟨⟨cln_wkw h1, fun _ => h1, fun _ => h2 (Or.inr rfl)⟩, g⟩
    all_goals exact ⟨h0, g⟩
theorem own_retw {P : List am_M} {G : Nat → Bool} {dls : Nat → List Nat} {T : am_T} {dl : List Nat} {A : List (Nat × List Nat)} {ret : Option FieldType} {ins : Instr} {len pc : Nat} {st : List Value} {r : Option Value} {s : List Nat} (h : am_ret ret ins len st = some r) (hc : ckIw P G dls T dl A ins pc s = true) (hs : TSw s st) : RVdw ret r := by
  unfold am_ret at h
  split at h
  · split at h
    · cases h
      exact ⟨_, rfl, True.intro, fun _ => rfl⟩
    · split at h
      · cases h
        exact ⟨_, rfl, True.intro, fun _ => rfl⟩
      · cases h
    · cases h
  · split at h
    · cases h
      exact ⟨_, rfl, True.intro, fun e => by rcases e with e | e <;> cases e⟩
    · cases h
  · split at h
    · cases h
      exact ⟨_, rfl, hs.1.2.1 (ncl_ofw hc), fun _ => rfl⟩
    · cases h
  · split at h
    · cases h
      rfl
    · cases h
  · cases h
/-- a method is as the tables say -/
def ckMw (P : List am_M) (G : Nat → Bool) (dls : Nat → List Nat) (tbs : Nat → List (Nat × List Nat)) (i : Nat) (M : am_M) : Bool := M.2.2.2.2.2.1.all (fun q => ckIw P G dls M.2.2.2.2.1 (dls i) (tbs i) q.2.1 q.1 (aSw (tbs i) q.1)) && ndw (aSw (tbs i) 0)
theorem cix_ckw {P : List am_M} {G : Nat → Bool} {dls : Nat → List Nat} {T : am_T} {dl : List Nat} {A : List (Nat × List Nat)} {ins : Instr} {len pc i : Nat} {s : List Nat} (h : am_cix ins len = some i) (hc : ckIw P G dls T dl A ins pc s = true) : (ins = .invokestatic i ∧ ckCw P G dls T A i pc false s = true) ∨ ((ins = .invokespecial i ∨ ins = .invokevirtual i) ∧ ckCw P G dls T A i pc true s = true) := by
  unfold am_cix at h
  split at h
  · cases h
    exact Or.inl ⟨rfl, hc⟩
  · cases h
    exact Or.inr ⟨Or.inl rfl, hc⟩
  · cases h
    exact Or.inr ⟨Or.inr rfl, hc⟩
  · cases h
theorem cpy_intw {f : Nat → Value} {sp n k : Nat} (ha : ∀ x ∈ List.range n, (match f (sp + x) with | .int _ => true | _ => false) = true) (hk : k < n) : clnw (f (sp + k)) := by
  have h := ha k (List.mem_range.mpr hk)
  cases e : f (sp + k)
  case ref a =>
    rw [e] at h
    cases h
  all_goals exact True.intro
theorem own_libw {P : List am_M} {G : Nat → Bool} {dls : Nat → List Nat} {T : am_T} {A : List (Nat × List Nat)} {j i pc : Nat} {ins : Instr} {st st' : List Value} {S S' : am_S} {s : List Nat} {b : Bool} (h : am_lib j ins st S = some (st', S')) (hi : am_find i T.2.2.2.2.2 = some j) (hj : j < 4) (hc : ckCw P G dls T A i pc b s = true) (hs : TSw s st) (w : WOw S) : TSw (aSw A (pc + 3)) st' ∧ KDw S S' ∧ WOw S' := by
  unfold ckCw at hc
  rw [hi] at hc
  have hc : (bif Nat.blt j 4 then (bif Nat.beq j 3 then nclw (t2w s) && leSw (tlSw (tlSw (t3w s))) (aSw A (pc + 3)) else (bif Nat.beq j 0 then false else leSw (2 :: t2w s) (aSw A (pc + 3)))) else _) = true := hc
  unfold am_lib at h
  split at h
  · exact absurd (show false = true from hc) (by decide)
  · split at h
    · cases h
      exact ⟨o_ww hc hs.2.2 True.intro rfl, KD_rfw _, w⟩
    · cases h
  · split at h
    · cases h
      exact ⟨o_ww hc hs.2.2 True.intro rfl, KD_rfw _, w⟩
    · cases h
  · have hc : (nclw (t2w s) && leSw (tlSw (tlSw (t3w s))) (aSw A (pc + 3))) = true := hc
    rw [Bool.and_eq_true] at hc
    split at h
    · rename_i z0 n0 df uf z1 n1 dg ug hf hg
      split at h
      · rename_i hq
        cases h
        have hd := hs.2.2.1.2.1 (ncl_ofw hc.1)
        refine ⟨TS_lew hc.2 hs.2.2.2.2.2, KD_setw hg hd.2, WO_arrw w hg (fun q h9 => ?_)⟩
        rw [am_cpy_fn]
        unfold va_cpy
        split
        · rename_i hr
          have ha := List.all_eq_true.mp hq.2.2.2.2.2.2
          exact ⟨cln_wkw (cpy_intw ha (by omega)), fun _ => cpy_intw ha (by omega)⟩
        · exact w.2 _ _ _ _ _ _ hd.1.1 hd.1.2 hg q h9
      · cases h
    · cases h
  · cases h
theorem own_partsw {P : List am_M} {j : Nat} {ins : Instr} {st as rest : List Value} {S : am_S} {M : am_M} (h : am_own P j ins st S = some (M, as, rest)) : M.2.2.2.2.2.2.1 ≤ st.length ∧ (((∃ i, ins = .invokestatic i) ∧ as = (st.take M.2.2.2.2.2.2.1).reverse ∧ rest = st.drop M.2.2.2.2.2.2.1) ∨ ∃ b, ((∃ i, ins = .invokespecial i) ∨ ∃ i, ins = .invokevirtual i) ∧ as = .ref b :: (st.take M.2.2.2.2.2.2.1).reverse ∧ st.drop M.2.2.2.2.2.2.1 = .ref b :: rest) := by
  unfold am_own at h
  split at h
  · cases h
  · split at h
    · cases h
    · rename_i hn
      split at h
      · split at h
        · cases h
          exact ⟨Nat.le_of_not_lt hn, Or.inl ⟨⟨_, rfl⟩, rfl, by first | rfl | assumption⟩⟩
        · cases h
      · split at h
        · cases h
          exact ⟨Nat.le_of_not_lt hn, Or.inr ⟨_, Or.inl ⟨_, rfl⟩, rfl, by first | rfl | assumption⟩⟩
        · cases h
      · split at h
        · split at h
          · cases h
            exact ⟨Nat.le_of_not_lt hn, Or.inr ⟨_, Or.inr ⟨_, rfl⟩, rfl, by first | rfl | assumption⟩⟩
          · cases h
        · cases h
      · cases h
/-- a call: what its method gets, what is left -/
theorem own_callw {P : List am_M} {G : Nat → Bool} {dls : Nat → List Nat} {T : am_T} {A : List (Nat × List Nat)} {j i pc : Nat} {ins : Instr} {st as rest : List Value} {S : am_S} {M' : am_M} {s : List Nat} (ho : am_own P (j - 4) ins st S = some (M', as, rest)) (hM' : P[j - 4]? = some M') (hi : am_find i T.2.2.2.2.2 = some j) (hj : ¬ j < 4) (hc : (ins = .invokestatic i ∧ ckCw P G dls T A i pc false s = true) ∨ ((ins = .invokespecial i ∨ ins = .invokevirtual i) ∧ ckCw P G dls T A i pc true s = true)) (hs : TSw s st) : G (j - 4) = true ∧ TLw (dls (j - 4)) (lv_args 0 as) ∧ ∀ r, RVdw M'.2.2.2.1 r → TSw (aSw A (pc + 3)) (r.toList ++ rest) := by
  have hb : Nat.blt j 4 = false := by
    cases e : Nat.blt j 4
    · rfl
    · exact absurd (Nat.le_of_ble_eq_true e) (by omega)
  obtain ⟨hn, hq⟩ := own_partsw ho
  have hv : TSw (revSw M'.2.2.2.2.2.2.1 s []) (st.take M'.2.2.2.2.2.2.1).reverse := by
    have q := TS_revw M'.2.2.2.2.2.2.1 (acc := []) (av := []) hn hs True.intro
    rw [List.append_nil] at q
    exact q
  have hd := TS_drpw M'.2.2.2.2.2.2.1 hn hs
  rcases hq with ⟨⟨i9, e0⟩, e1, e2⟩ | ⟨b, e0, e1, e2⟩
  · rcases hc with ⟨-, hc⟩ | ⟨q, -⟩
    · unfold ckCw at hc
      rw [hi] at hc
      have hc : (bif Nat.blt j 4 then _ else (match P[j - 4]? with | none => false | some M => G (j - 4) && (lbOKw (dls (j - 4)) 0 (revSw M.2.2.2.2.2.2.1 s []) && leSw (retSw M.2.2.2.1 (drpSw M.2.2.2.2.2.2.1 s)) (aSw A (pc + 3))))) = true := hc
      rw [hb, hM'] at hc
      have hc : (G (j - 4) && (lbOKw (dls (j - 4)) 0 (revSw M'.2.2.2.2.2.2.1 s []) && leSw (retSw M'.2.2.2.1 (drpSw M'.2.2.2.2.2.2.1 s)) (aSw A (pc + 3)))) = true := hc
      rw [Bool.and_eq_true, Bool.and_eq_true] at hc
      rw [e1, e2]
      exact ⟨hc.1, TL_argsw _ 0 _ hc.2.1 hv, fun r hr => TS_lew hc.2.2 (RVd_tsw hr hd)⟩
    · rw [e0] at q
      rcases q with q | q <;> cases q
  · rcases hc with ⟨q, -⟩ | ⟨-, hc⟩
    · rw [q] at e0
      rcases e0 with ⟨i9, e⟩ | ⟨i9, e⟩ <;> cases e
    · unfold ckCw at hc
      rw [hi] at hc
      have hc : (bif Nat.blt j 4 then _ else (match P[j - 4]? with | none => false | some M => G (j - 4) && (lbOKw (dls (j - 4)) 0 ((bif nclw (drpSw M.2.2.2.2.2.2.1 s) then 2 else 1) :: revSw M.2.2.2.2.2.2.1 s []) && leSw (retSw M.2.2.2.1 (tlSw (drpSw M.2.2.2.2.2.2.1 s))) (aSw A (pc + 3))))) = true := hc
      rw [hb, hM'] at hc
      have hc : (G (j - 4) && (lbOKw (dls (j - 4)) 0 ((bif nclw (drpSw M'.2.2.2.2.2.2.1 s) then 2 else 1) :: revSw M'.2.2.2.2.2.2.1 s []) && leSw (retSw M'.2.2.2.1 (tlSw (drpSw M'.2.2.2.2.2.2.1 s))) (aSw A (pc + 3)))) = true := hc
      rw [Bool.and_eq_true, Bool.and_eq_true] at hc
      rw [e2] at hd
      refine ⟨hc.1, ?_, fun r hr => TS_lew hc.2.2 (RVd_tsw hr hd.2)⟩
      rw [e1]
      refine TL_argsw _ 0 _ hc.2.1 ⟨?_, hv⟩
      show tvw (bif nclw (drpSw M'.2.2.2.2.2.2.1 s) then 2 else 1) (.ref b)
      refine ⟨hd.1.1, fun hq => ?_, fun _ => rfl⟩
      cases e : nclw (drpSw M'.2.2.2.2.2.2.1 s) with
      | true => exact hd.1.2.1 (ncl_ofw e)
      | false =>
        rw [e] at hq
        exact absurd rfl hq
set_option maxHeartbeats 4000000 in
theorem own_runw {P : List am_M} {cl : List vw_C} {tyL : List (List FieldType)} {G : Nat → Bool} {dls : Nat → List Nat} {tbs : Nat → List (Nat × List Nat)} (hP : ∀ (i : Nat) (M : am_M), P[i]? = some M → G i = true → ckMw P G dls tbs i M = true) : ∀ (f d i : Nat) (M : am_M) (pc : Nat) (l : am_L) (st : List Value) (S : am_S) (r : Option Value) (S' : am_S) (c n : Nat), P[i]? = some M → G i = true → TSw (aSw (tbs i) pc) st → TLw (dls i) l → WOw S → am_run P cl tyL f d M pc l st S = some (r, S', c, n) → KDw S S' ∧ WOw S' ∧ RVdw M.2.2.2.1 r := by
  intro f
  induction f with
  | zero =>
    intro d i M pc l st S r S' c n _ _ _ _ _ h
    cases h
  | succ f ih =>
    intro d i M pc l st S r S' c n hM hG hs hl w h
    have hk := hP i M hM hG
    unfold ckMw at hk
    rw [Bool.and_eq_true] at hk
    unfold am_run at h
    split at h
    · cases h
    · rename_i ins len hf
      have hc : ckIw P G dls M.2.2.2.2.1 (dls i) (tbs i) ins pc (aSw (tbs i) pc) = true := List.all_eq_true.mp hk.1 _ (am_find_mem hf)
      split at h
      · rename_i pc' l' st' hp
        obtain ⟨g1, g2⟩ := own_purew hp hc hs hl
        exact ih _ _ _ _ _ _ _ _ _ _ _ hM hG g1 g2 w h
      · split at h
        · rename_i hh
          obtain ⟨q, hq, e9⟩ := Option.map_eq_some_iff.mp h
          obtain ⟨r1, S1, c1, n1⟩ := q
          cases e9
          obtain ⟨g1, g2, g3⟩ := own_heapw hh hc hs w
          obtain ⟨k1, k2, k3⟩ := ih _ _ _ _ _ _ _ _ _ _ _ hM hG g1 hl g3 hq
          exact ⟨KD_trw g2 k1, k2, k3⟩
        · split at h
          · rename_i hr
            cases h
            exact ⟨KD_rfw _, w, own_retw hr hc hs⟩
          · split at h
            · cases h
            · split at h
              · cases h
              · rename_i i9 hx
                have hcc := cix_ckw hx hc
                split at h
                · cases h
                · rename_i j hj
                  split at h
                  · rename_i hlt
                    split at h
                    · rename_i st' S1 hl9
                      obtain ⟨g1, g2, g3⟩ : TSw (aSw (tbs i) (pc + 3)) st' ∧ KDw S S1 ∧ WOw S1 := hcc.elim (fun q => own_libw hl9 hj hlt q.2 hs w) (fun q => own_libw hl9 hj hlt q.2 hs w)
                      obtain ⟨k1, k2, k3⟩ := ih _ _ _ _ _ _ _ _ _ _ _ hM hG g1 hl g3 h
                      exact ⟨KD_trw g2 k1, k2, k3⟩
                    · cases h
                  · rename_i hlt
                    split at h
                    · cases h
                    · rename_i M' as rest ho
                      have hM' := own_at ho
                      split at h
                      · cases h
                      · rename_i r1 S1 c1 n1 hr
                        obtain ⟨q, hq, e9⟩ := Option.map_eq_some_iff.mp h
                        obtain ⟨r2, S2, c2, n2⟩ := q
                        cases e9
                        obtain ⟨a1, a2, a3⟩ := own_callw ho hM' hj hlt hcc hs
                        have hn : ndw (aSw (tbs (j - 4)) 0) = true := by
                          have q9 := hP _ _ hM' a1
                          unfold ckMw at q9
                          rw [Bool.and_eq_true] at q9
                          exact q9.2
                        obtain ⟨b1, b2, b3⟩ := ih _ _ _ _ _ _ _ _ _ _ _ hM' a1 (show TSw (aSw (tbs (j - 4)) 0) [] from True.intro) a2 w hr
                        obtain ⟨k1, k2, k3⟩ := ih _ _ _ _ _ _ _ _ _ _ _ hM hG (a3 _ b3) hl b2 hq
                        exact ⟨KD_trw b1 k1, k2, k3⟩
/-- the methods, what in them may name a side -/
def oGw (i : Nat) : Bool := [3, 4, 5, 6, 7, 8, 10, 11, 12, 13, 14, 15, 16, 17, 18, 19, 20, 21, 22, 23, 24, 27, 28, 29, 30, 31, 32, 33, 35, 36, 37, 38, 39, 41, 42, 43, 44, 45, 48, 49, 50, 51, 52, 53, 54, 55, 56, 57, 58, 59, 60, 62, 63, 64, 65, 66, 67, 68, 69, 70, 71, 72, 73, 74, 75, 76, 77, 78, 79, 80, 81, 82, 83, 84, 85, 86, 88, 89, 90, 91, 92, 94, 95, 96, 97, 98, 99, 100, 115, 116, 117, 118, 119, 120, 121, 122, 123, 124, 125, 126, 127, 128, 129, 130, 131, 132, 133, 134, 135, 136, 137, 138, 139, 140, 141, 142, 144, 145, 146, 147, 149, 150, 151].any (Nat.beq i)
def oDw (i : Nat) : List Nat := (am_find i [(54, [1]), (88, [1]), (98, [3])]).getD []
def oTw (i : Nat) : List (Nat × List Nat) := (am_find i [(10, [(42, [1]), (43, [0, 1]), (44, [1]), (45, [0, 1])]), (54, [(16, [1]), (19, [1]), (40, [1]), (43, [1]), (44, [0, 1]), (45, [0, 0, 1]), (48, [0, 0, 1]), (49, [0, 0, 0, 1]), (52, [0, 0, 0, 1]), (54, [0, 0, 0, 0, 1])]), (88, [(14, [1]), (17, [1]), (21, [1]), (24, [1]), (26, [0, 1])]), (98, [(25, [1]), (28, [1]), (32, [1]), (35, [1]), (37, [0, 1]), (87, [1]), (89, [0, 1]), (91, [0, 0, 1]), (92, [0, 0, 0, 1]), (93, [0, 0, 1])]), (99, [(1, [2]), (2, [2, 2]), (6, [2]), (9, [2]), (11, [2]), (15, [2]), (19, [2]), (23, [2]), (24, [2, 2]), (25, [2, 2, 2]), (28, [2]), (31, [2]), (35, [2]), (36, [2, 2]), (41, [2]), (42, [2, 2]), (45, [0, 2]), (49, [2]), (54, [2]), (55, [2, 2]), (56, [2, 2, 2]), (59, [2]), (68, [2]), (69, [2, 2]), (70, [2, 2, 2]), (71, [2, 2, 2, 2]), (74, [1, 2, 2, 2]), (75, [2, 1, 2, 2, 2]), (78, [0, 1, 2, 2, 2]), (81, [2]), (85, [2]), (87, [2]), (88, [2, 2]), (91, [0, 2]), (95, [2]), (96, [2, 2]), (99, [0, 2]), (100, [2, 0, 2]), (101, [2, 2]), (105, [2]), (108, [2]), (113, [2]), (117, [2]), (121, [2])]), (117, [(1, [2]), (2, [2, 2]), (7, [2]), (11, [2]), (12, [2, 2]), (15, [2]), (18, [2]), (19, [2, 2]), (24, [2]), (26, [2]), (30, [2]), (31, [2, 2]), (34, [2]), (35, [2, 2]), (40, [2]), (42, [2]), (46, [2]), (47, [2, 2]), (48, [2, 2, 2]), (51, [0, 2, 2]), (54, [1, 2, 2]), (55, [2, 1, 2, 2]), (58, [0, 1, 2, 2]), (61, [2]), (65, [2]), (66, [2, 2]), (69, [2]), (74, [2])])]).getD []
set_option maxRecDepth 1000000 in
theorem oG_allw : (List.range 273).all (fun i => !(oGw i) || (match at_P[i]? with | some M => ckMw at_P oGw oDw oTw i M | none => true)) = true := by decide +kernel
theorem oG_Pw : ∀ (i : Nat) (M : am_M), at_P[i]? = some M → oGw i = true → ckMw at_P oGw oDw oTw i M = true := by
  intro i M h hg
  have hi : i < 273 := by
    have := (List.getElem?_eq_some_iff.mp h).1
    rw [len_P] at this
    exact this
  have q := List.all_eq_true.mp oG_allw i (List.mem_range.mpr hi)
  rw [h, hg] at q
  exact q
