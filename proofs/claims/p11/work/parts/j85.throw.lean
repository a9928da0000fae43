/-! a method of ours that throws, and the call of it that its caller catches -/
/-- a static of a class that is there from the start: it holds a reference or null -/
def am_St (C n d : String) (Hb : Heap) (U : State) : Prop := ∃ (c : ClassId) (k : Class) (i : Nat) (f : Field) (a : Nat) (cell : Cell) (v : Value), U.vm.findClass C = some c ∧ U.fieldFound? C n d = some (c, k, i, f) ∧ f.isStatic = true ∧ k.statics = some a ∧ Hb[a]? = some cell ∧ cell.vm.isStatics = true ∧ cell.cls = c ∧ f.slot < cell.slots.size ∧ k.staticTypes[f.slot]? = some f.type ∧ cell.slots[f.slot]? = some v ∧ (v = .null ∨ ∃ t, v = .ref t)
theorem am_St.of {A : Array Value} {s : State} {C n d : String} (hl : (Cond.laysStatic C n d).before A s = true) (h : (Cond.isRef (.static C n d)).before A s = true) : am_St C n d s.heap s := by
  obtain ⟨c, k, i, f, a, cell, hc, hi, hst, ha, hcell, hs, hcls, hlt, hty⟩ := Cond.laysStatic_spec hl
  cases hv : (Term.static C n d).eval A s none [] s with
  | none => simp [Cond.before, Cond.holds, Cond.value, hv] at h
  | some w =>
    simp only [Cond.before, Cond.holds, Cond.value, hv] at h
    obtain ⟨hst', a', cell', ha', hcell', -, hslot⟩ := Term.static_spec hi hv
    cases ha.symm.trans ha'
    cases hcell.symm.trans hcell'
    refine ⟨c, k, i, f, a, cell, w, hc, hi, hst, ha, hcell, hs, hcls, hlt, hty, hslot, ?_⟩
    cases w with
    | null => exact Or.inl rfl
    | ref t => exact Or.inr ⟨t, rfl⟩
    | _ => simp at h
theorem am_St.moved {C n d : String} {Hb : Heap} {u U : State} (hvm : u.vm.Alike U.vm) (h : am_St C n d Hb u) : am_St C n d Hb U := by
  obtain ⟨c, k, i, f, a, cell, v, h1, h2, h3, h4, h5, h6, h7, h8, h9, h10, h11⟩ := h
  obtain ⟨k', hi', he⟩ := State.fieldFound?_setVm hvm h2
  exact ⟨c, k', i, f, a, cell, v, by rw [hvm.findClass]; exact h1, hi', h3, by rw [he]; exact h4, h5, h6, h7, h8, by rw [he]; exact h9, h10, h11⟩
theorem am_St.use {C n d : String} {Hb : Heap} {U : State} (A : Array Value) (h : am_St C n d Hb U) (hH : ∀ q : Nat, q < Hb.size → U.heap[q]? = Hb[q]?) : (Cond.laysStatic C n d).before A U = true ∧ (Cond.isRef (.static C n d)).before A U = true := by
  obtain ⟨c, k, i, f, a, cell, v, h1, h2, h3, h4, h5, h6, h7, h8, h9, h10, h11⟩ := h
  have h5' : U.heap[a]? = some cell := (hH a (Array.getElem?_eq_some_iff.mp h5).1).trans h5
  have he : (Term.static C n d).eval A U none [] U = some v := by simp [Term.eval, State.fieldNamed?, h2, h3, h4, h5', h6, h10]
  refine ⟨by simp [Cond.before, Cond.holds, Cond.value, h1, h2, h3, h4, h5', h6, h7, h8, h9], ?_⟩
  simp only [Cond.before, Cond.holds, Cond.value, he]
  rcases h11 with e | ⟨x, e⟩ <;> simp [e]
def am_sw : List Cond := [.laysStatic "java/lang/Throwable" "UNASSIGNED_STACK" "[Ljava/lang/StackTraceElement;", .isRef (.static "java/lang/Throwable" "UNASSIGNED_STACK" "[Ljava/lang/StackTraceElement;"), .laysStatic "java/lang/Throwable" "SUPPRESSED_SENTINEL" "Ljava/util/List;", .isRef (.static "java/lang/Throwable" "SUPPRESSED_SENTINEL" "Ljava/util/List;")]
/-- words on the tables that are carried by hand -/
def am_dw : List Cond := [.castable "java/lang/IllegalArgumentException" "java/lang/IllegalArgumentException", .castable "java/lang/IllegalStateException" "java/lang/IllegalStateException", .declares ⟨"java/lang/RuntimeException", "<init>", "(Ljava/lang/String;)V"⟩, .declares ⟨"java/lang/Exception", "<init>", "(Ljava/lang/String;)V"⟩, .declares ⟨"java/lang/Throwable", "<init>", "(Ljava/lang/String;)V"⟩]
theorem am_cast_moved {A A' : Array Value} {u U : State} {a b : String} (hvm : u.vm.Alike U.vm) (h : (Cond.castable a b).before A u = true) : (Cond.castable a b).before A' U = true := by
  have e1 : U.vm.findClass a = u.vm.findClass a := hvm.findClass ..
  have e2 : U.vm.findClass b = u.vm.findClass b := hvm.findClass ..
  have e3 : ∀ x y, U.vm.assignable x y = u.vm.assignable x y := fun x y => by rw [hvm.assignable]
  simp only [Cond.before, Cond.holds, Cond.value, e1, e2, e3] at h ⊢
  exact h
theorem am_dw_moved {A A' : Array Value} {u U : State} (hvm : u.vm.Alike U.vm) (h : ∀ w ∈ am_dw, w.before A u = true) : ∀ w ∈ am_dw, w.before A' U = true := by
  intro w hw
  have h0 := h w hw
  have hU : U.setVm U.vm = U := rfl
  have key : w.onTables = true → w.before A (u.setVm U.vm) = true → w.before A' U = true := fun ho h1 => by
    have e := Cond.onTables_vm (A := A) (A' := A') (U := u) (U' := U) U.vm w ho
    rw [hU] at e
    rw [← e]
    exact h1
  unfold am_dw at hw
  simp only [List.mem_cons, List.not_mem_nil, or_false] at hw
  rcases hw with rfl | rfl | rfl | rfl | rfl
  · exact am_cast_moved hvm h0
  · exact am_cast_moved hvm h0
  · exact key rfl (by rw [Cond.declares_setVm hvm]; exact h0)
  · exact key rfl (by rw [Cond.declares_setVm hvm]; exact h0)
  · exact key rfl (by rw [Cond.declares_setVm hvm]; exact h0)
/-- what throwing wants beside the tables: Throwable's two statics, the text, those words -/
def am_TX (Hb : Heap) (own : String) (ix : Nat) (tx : String) (U : State) : Prop := am_St "java/lang/Throwable" "UNASSIGNED_STACK" "[Ljava/lang/StackTraceElement;" Hb U ∧ am_St "java/lang/Throwable" "SUPPRESSED_SENTINEL" "Ljava/util/List;" Hb U ∧ (∃ q, vk_R own ix tx q U) ∧ ∀ w ∈ am_dw, w.before #[] U = true
theorem am_TX.warm {Hb : Heap} {own tx : String} {ix : Nat} {s U : State} (hW : s.WarmedH U.vm) (h : am_TX Hb own ix tx s) : am_TX Hb own ix tx U := ⟨h.1.moved hW.alike, h.2.1.moved hW.alike, h.2.2.1.elim fun q hq => ⟨q, hq.warm hW⟩, am_dw_moved hW.alike h.2.2.2⟩
theorem am_TX.same {Hb : Heap} {own tx : String} {ix : Nat} {s U : State} (hv : U.vm = s.vm) (h : am_TX Hb own ix tx s) : am_TX Hb own ix tx U := ⟨h.1.moved (by rw [hv]; exact Vm.Alike.refl _), h.2.1.moved (by rw [hv]; exact Vm.Alike.refl _), h.2.2.1.elim fun q hq => ⟨q, hq.same hv⟩, am_dw_moved (by rw [hv]; exact Vm.Alike.refl _) h.2.2.2⟩
theorem am_TX.words {Hb : Heap} {own tx : String} {ix : Nat} {U : State} (A : Array Value) (h : am_TX Hb own ix tx U) (hH : ∀ q : Nat, q < Hb.size → U.heap[q]? = Hb[q]?) : ∀ w ∈ am_sw ++ am_dw, w.before A U = true := by
  intro w hw
  rcases (List.mem_append.mp hw).symm with hw | hw
  · exact am_dw_moved (Vm.Alike.refl _) h.2.2.2 w hw
  unfold am_sw at hw
  simp only [List.mem_cons, List.not_mem_nil, or_false] at hw
  rcases hw with rfl | rfl | rfl | rfl
  · exact (h.1.use A hH).1
  · exact (h.1.use A hH).2
  · exact (h.2.1.use A hH).1
  · exact (h.2.1.use A hH).2
/-- steps that leave heap and writes as they are -/
def am_ro (M : am_M) (S : am_S) : Nat → Nat → am_L → List Value → Option (Nat × am_L × List Value)
  | 0, pc, l, st => some (pc, l, st)
  | n + 1, pc, l, st => match am_find pc M.2.2.2.2.2.1 with
    | none => none
    | some (ins, len) => match am_pure M.2.2.1 ins len pc l st with
      | some (pc', l', st') => am_ro M S n pc' l' st'
      | none => match ins, len, st with
        | .getfield i, 3, .ref a :: st => (match am_find i M.2.2.2.2.1.1 with
          | some (ci, k) => (match am_getf S a ci k with
            | some v => am_ro M S n (pc + 3) l (v :: st)
            | none => none)
          | none => none)
        | .iaload, 1, .int i :: .ref a :: st => (match am_geta S a i .int with
          | some v => am_ro M S n (pc + 1) l (v :: st)
          | none => none)
        | .arraylength, 1, .ref a :: st => (match am_nth S a with
          | some (_, some (.inl (_, k, _, _))) => am_ro M S n (pc + 1) l (.int (Int32.ofNat k) :: st)
          | _ => none)
        | _, _, _ => none
section AMT
variable {p : Program} {l0 : Launch} {e : Env} {R : Room} {s : State} {m : MethodId} {args : Array Value} {below : List Frame} {meth : Method} {c : Code} {H : Heap} {locs : List Loc} {cells slots : Nat} {Q : State → Prop}
variable {cc : ByteArray} {pc : Nat} {ls : Array Slot} {D : va_G} {cl : List vw_C} {tyL : List (List FieldType)} {b : Nat} {Hb : Heap} {S : am_S} {own : String} {Ts : List Cond} {AO : List String} {NL : am_NL} {KL : Nat} {P : List am_M}
theorem am_ro_ok {M : am_M} (hC : am_Cls Ts cl tyL) (hB : am_Body Ts P cl AO NL M) (hIn : am_In Ts D cl AO NL M p s m args meth c) (hR : am_R D cl b Hb S s H) : ∀ (n : Nat) {pc : Nat} {l : am_L} {st : List Value} {ls : Array Slot} {pc' : Nat} {l' : am_L} {st' : List Value}, am_ro M S n pc l st = some (pc', l', st') → lv_has ls M.2.2.1 (am_cl (am_ad b Hb.size) l) →
    (∀ ls' : Array Slot, lv_has ls' M.2.2.1 (am_cl (am_ad b Hb.size) l') → W p l0 e R s m args below meth c H locs cells slots Q (F0 m pc' ls' (st'.map (am_cv (am_ad b Hb.size))))) → W p l0 e R s m args below meth c H locs cells slots Q (F0 m pc ls (st.map (am_cv (am_ad b Hb.size)))) := by
  obtain ⟨hx, hb, hml, hnm, hown, hts, hK⟩ := hIn
  intro n
  induction n with
  | zero =>
    intro pc l st ls pc' l' st' h hl kk
    cases h
    exact kk ls hl
  | succ n ih =>
    intro pc l st ls pc' l' st' h hl kk
    unfold am_ro at h
    split at h
    · cases h
    · rename_i ins len hins
      have hd : decode M.2.1 pc = .ok (ins, len) := hB.2.1 (pc, ins, len) (am_find_mem hins)
      split at h
      · rename_i pc1 l1 st1 hp
        exact am_pure_ok hx hb hd hp hl (fun ls' hl' => ih h hl' kk)
      · split at h
        · split at h
          · rename_i ci k hi
            split at h
            · rename_i v hv
              obtain ⟨r, h1, h2, h3⟩ := hB.1.1 _ (am_find_mem hi)
              exact am_get_ok hx hb hts hC hown hK.1 hR h1 h2 h3 hv hd (ih h hl kk)
            · cases h
          · cases h
        · split at h
          · rename_i v hv
            exact am_iald_ok hx hb hR hv hd (ih h hl kk)
          · cases h
        · split at h
          · rename_i hS
            exact am_alen_ok hx hb hR hS hd (ih h hl kk)
          · cases h
        · cases h
/-- it threw; one cell of six slots is new, nothing else has changed -/
def am_FT (st : State) (o : Outcome) (t : State) : Prop := (∃ x, o = .threw x) ∧ st.WarmedH t.vm ∧ st.sameButNew ({ t with vm := st.vm } : State) [] 1 6
/-- how a callee that throws has ended -/
def am_QT (D : va_G) (cl : List vw_C) (b : Nat) (Hb : Heap) (X : String) (S : am_S) : Array Value → State → Outcome → State → Prop := fun _ st o t => (∃ ce : Cell, o = .threw st.heap.size ∧ t.heap[st.heap.size]? = some ce ∧ st.vm.findClass X = some ce.cls ∧ st.vm.assignable ce.cls ce.cls = true ∧ ce.vm = .none ∧ am_R D cl b Hb (am_add S (6, none)) t t.heap) ∧ am_FT st o t
def am_PT (D : va_G) (cl : List vw_C) (b : Nat) (Hb : Heap) (AO : List String) (NL : am_NL) (own : String) (il : Nat) (tx : String) (as : List Value) (S : am_S) : Array Value → State → Prop := fun a U => am_Pc D cl b Hb AO NL as S a U ∧ am_TX Hb own il tx U
set_option maxHeartbeats 2000000 in
theorem am_metT {d : Nat} {M : am_M} {as : List Value} (hF : am_Fix Ts P cl tyL AO NL KL) (hM : M ∈ P) (hw : am_words as ≤ M.2.2.1) (hst : ∀ e : Env, l0.admits e → e.platform.stackTraces = false) {n pcN : Nat} {l' : am_L} (hrun : am_ro M S n 0 (lv_args 0 as) [] = some (pcN, l', [])) {inw il ic : Nat} {X tx : String} {names : List String}
    (d0 : decode M.2.1 pcN = .ok (.new inw, 3)) (d1 : decode M.2.1 (pcN + 3) = .ok (.dup, 1)) (d2 : decode M.2.1 (pcN + 4) = .ok (.ldc il, 2)) (d3 : decode M.2.1 (pcN + 6) = .ok (.invokespecial ic, 3)) (d4 : decode M.2.1 (pcN + 9) = .ok (.athrow, 1))
    (hcl : Cond.classLink M.1.cls inw X ∈ Ts) (hin : Cond.instantiable X 6 ∈ Ts) (hini : Cond.initialized X ∈ Ts) (hX : Bundle.fit X = true) (hN : ∀ n ∈ names, Bundle.fit n = true) (hoa : ∀ a ∈ Bundle.ownAtoms M.1.cls ic X names, a ∈ Ts ∨ a ∈ am_sw ++ am_dw) (hdf : names.length + 3 < d) (hdl : 1 + (13 * (names.length + 1) + 42) ≤ d * KL) :
    MetFree l0 M.1 (headSpec (Cond.code M.1 M.2.1 M.2.2.1 M.2.2.2.1 :: Ts) (am_rm KL d 1 6)) (am_PT D cl b Hb AO NL M.1.cls il tx as S) (fun _ _ _ _ _ => True) (am_QT D cl b Hb X S) := by
  obtain ⟨hBody, hpl, hcode, -⟩ := hF.2.2.2.2.2.2.2.2 M hM
  refine MetFree.of_bodyS (code := M.2.1) (maxLocals := M.2.2.1) (ret := M.2.2.2.1) hpl ?_ ?_
  · intro args s m h hn
    obtain ⟨meth, c, h1, h2, h3, h4, h5, h6, -, -⟩ := Cond.code_spec hn (atoms_spec (ws := Cond.code M.1 M.2.1 M.2.2.1 M.2.2.2.1 :: Ts) h _ List.mem_cons_self)
    exact ⟨meth, c, h1, h2, h3, h4, h5, h6⟩
  · intro p e s m args below meth c s₁ B hml hP _
    obtain ⟨⟨rfl, hR, hK⟩, hTX⟩ := hP
    have hts := atoms_spec (ws := Cond.code M.1 M.2.1 M.2.2.1 M.2.2.2.1 :: Ts) B.pre
    have hts' : ∀ w ∈ Ts, w.before (as.map (am_cv (am_ad b Hb.size))).toArray s = true := fun w hw => hts w (List.mem_cons_of_mem _ hw)
    have hlocks := B.notSynchronized
    have hown := findClass_of_methodNamed B.named
    have hl := lv_entry (as.map (am_cv (am_ad b Hb.size))) (n := M.2.2.1) (by rw [am_sl_len]; unfold am_words at hw ⊢; rw [am_words_cv]; exact hw)
    rw [am_args_cv] at hl
    have hempty : c.exceptionTable.toList = [] := by
      obtain ⟨meth', c', h1, h2, -, -, -, -, h7, -⟩ := Cond.code_spec B.named (hts _ List.mem_cons_self)
      have e1 : meth' = meth := Option.some.inj (h1.symm.trans B.method)
      subst e1
      have e2 : s₁.code? m = some c := B.here.code
      rw [B.state] at e2
      have e3 : s.code? m = some c := by rw [State.code?_eq] at e2 ⊢; exact e2
      rw [State.code?_eq, h1] at e3
      have e4 : c' = c := Option.some.inj (h2.symm.trans e3)
      subst e4
      have h8 := Array.isEmpty_iff.mp h7
      rw [h8]
    have hH0 : ∀ q : Nat, q < Hb.size → s.heap[q]? = Hb[q]? := hR.2.2.1
    have hW : W p l0 e (headSpec (Cond.code M.1 M.2.1 M.2.2.1 M.2.2.2.1 :: Ts) (am_rm KL d 1 6)).room s m (as.map (am_cv (am_ad b Hb.size))).toArray below meth c s.heap [] 0 0 (fun t => ∃ o, t.status = .running ∧ Ended t below o ∧ am_QT D cl b Hb X S (as.map (am_cv (am_ad b Hb.size))).toArray s o t) (entryFrame m (as.map (am_cv (am_ad b Hb.size))).toArray M.2.2.1) := by
      rw [lg_entry_eq]
      refine am_ro_ok (st := []) hF.1 hBody ⟨B.exec, B.bytes, hml, (name_of_methodNamed B.named B.method).1, hown, hts', hK⟩ hR n hrun hl (fun ls1 hl1 => ?_)
      refine W.newc B.exec B.bytes hown (hts' _ hcl) (hts' _ hin) (hts' _ hini) rfl d0 (by show 0 + 1 ≤ 1; omega) (by show 0 + 6 ≤ 6; omega) (fun cC kC q1 q2 q3 q4 => ?_)
      have hal : am_ad b Hb.size (am_len S) = s.heap.size := by
        show Hb.size + S.2.1 = s.heap.size
        exact hR.2.1.symm
      have e0 : (Value.ref s.heap.size :: List.map (am_cv (am_ad b Hb.size)) []) = List.map (am_cv (am_ad b Hb.size)) [.ref (am_len S)] := by
        show [Value.ref s.heap.size] = [Value.ref (am_ad b Hb.size (am_len S))]
        rw [hal]
      show W _ _ _ _ _ _ _ _ _ _ _ _ _ _ _ (F0 m (pcN + 3) ls1 (Value.ref s.heap.size :: List.map (am_cv (am_ad b Hb.size)) []))
      rw [e0]
      refine am_pure_ok (nL := M.2.2.1) (l := l') (l' := l') (st' := [.ref (am_len S), .ref (am_len S)]) (pc' := pcN + 4) B.exec B.bytes d1 rfl hl1 (fun ls2 hl2 => ?_)
      obtain ⟨q0, hq0⟩ := hTX.2.2.1
      refine va_ldcS B.exec B.bytes hown hq0 d2 ?_
      intro T hT Y
      have hT2 : T.heap = s.heap.push { cls := cC, slots := kC.instanceTypes.map defaultValue, vm := .none } := hT
      obtain ⟨U, a1, a2, a3, a4, a5, ce, a6, a7⟩ := Y.ctorThrowS B.exec (hst e B.admits) (own := M.1.cls) (cls := X) (names := names) (ic := ic) hown hX hN (fun a ha => by
          rcases hoa a ha with q | q
          · exact hts' a q
          · exact hTX.words _ hH0 a q) (fun x hx => by cases hx) (a := s.heap.size) q1 q2 (by rw [hT2]; exact Array.getElem?_push_size) (Nat.le_refl _) (msg := .ref q0) rfl
        (g := F0 m (pcN + 6) ls2 (.ref q0 :: List.map (am_cv (am_ad b Hb.size)) [.ref (am_len S), .ref (am_len S)])) rfl (by rw [hml]; exact hl2.1) rfl rfl (rest := []) (by
          show Value.ref q0 :: [Value.ref (am_ad b Hb.size (am_len S)), Value.ref (am_ad b Hb.size (am_len S))] = _
          rw [hal]) (by rw [B.bytes]; exact d3) (by rw [B.bytes]; exact d4) (by rw [hempty]; intro x hx; cases hx) (by show names.length + 3 < d; exact hdf) (by show 2 * 0 + 1 + _ ≤ d * KL; omega)
      refine ⟨U, a1, .threw s.heap.size, a2, a3, ⟨ce, rfl, a6, a7.cls, a7.self, a7.vm, ?_⟩, ⟨_, rfl⟩, a4, a5⟩
      obtain ⟨-, z1, z2, -, -, z5⟩ := a5
      have z3 : U.heap.size = s.heap.size + 1 := by
        have : s.heap.size < U.heap.size := (Array.getElem?_eq_some_iff.mp a6).1
        have z2 : U.heap.size ≤ s.heap.size + (0 + 1) := z2
        omega
      have hR1 := (am_R.new (z := 6) (x := none) (H1 := U.heap) hR (fun y hy => by cases hy) z3 (fun q hq => by
        have hc0 : s.heap[q]? = some s.heap[q] := Array.getElem?_eq_getElem hq
        obtain ⟨c', y1, y2, y3, y4⟩ := z5 q _ hc0
        have y1 : U.heap[q]? = some c' := y1
        rw [y1, hc0, y2]
        have : c'.slots = s.heap[q].slots := by
          apply Array.ext_getElem?
          intro i
          exact y4 i (by simp)
        rw [this])).1
      exact hR1.moved a4.alike
    have hh0 : s₁.heap = s.heap := by rw [B.state]; rfl
    obtain ⟨t, a1, o, b1, b2, b3⟩ := hW s₁ hh0 (Stand.of_body B)
    exact ⟨t, o, a1, b1, b2, b3⟩
/-- the search for a handler: the table's one entry takes it; its class may not have been looked up yet -/
theorem am_search {u : State} {g : JFrame} {a : Addr} {cd : Code} {me : Method} {xe : ExceptionTableEntry} {cT : ClassId} {cell : Cell} {vm' : Vm} (hm : u.vm.method? g.method = some me) (hc : me.code = some cd) (ht : cd.exceptionTable.toList = [xe]) (hcov : covers xe g.pc = true) (h0 : xe.catchType ≠ 0) (hg : (resolveClass g.method.cls xe.catchType).Gives e.toSetting u.vm (.ok cT) vm') (hal : u.vm.Alike vm') (hsz : vm'.classes.size ≤ u.vm.classes.size) (hcell : u.heap[a]? = some cell) (hobj : ∀ k, cell.vm ≠ .statics k) (hk : ∃ k, u.vm.classes[cell.cls]? = some k) (hcl : ∃ k, u.vm.classes[cT]? = some k) (hfit : u.vm.assignable cell.cls cT = true) (Qh : Handler → Pre) (E : CtlPost) (d : Bool) (acts : List Action) : wp (findHandler g a) Qh E e d acts u ↔ Qh (.found xe.handlerPc) d acts (u.setVm vm') := by
  obtain ⟨ha, hb⟩ := hg.op (op := VmOp.resolveClass g.method.cls xe.catchType) rfl
  obtain ⟨k1, h1⟩ := hk
  obtain ⟨k2, h2⟩ := hcl
  obtain ⟨k3, h3, -⟩ := hal.2.2 _ _ h1
  obtain ⟨k4, h4, -⟩ := hal.2.2 _ _ h2
  have h5 : vm'.assignable cell.cls cT = true := by rw [hal.assignable]; exact hfit
  rw [W.findHandler_eq hm hc, ht]
  simp only [covers] at hcov
  simp [findHandler.go, hcov, h0, ha, hb, hcell, hobj, h3, h4, h5, hsz, VmOp.dirties, VmOp.acts]
/-- .. and the step that it is -/
theorem am_catch {tb : Tables} {u target : State} {g : JFrame} {cd : Code} {me : Method} {a : Addr} {xe : ExceptionTableEntry} {cT : ClassId} {cell : Cell} {vm' : Vm} (hAt : At u g.method cd below) (hm : u.vm.method? g.method = some me) (hc : me.code = some cd) (ht : cd.exceptionTable.toList = [xe]) (hcov : covers xe g.pc = true) (h0 : xe.catchType ≠ 0) (hg : (resolveClass g.method.cls xe.catchType).Gives e.toSetting u.vm (.ok cT) vm') (hal : u.vm.Alike vm') (hsz : vm'.classes.size ≤ u.vm.classes.size) (hcell : u.heap[a]? = some cell) (hobj : ∀ k, cell.vm ≠ .statics k) (hk : ∃ k, u.vm.classes[cell.cls]? = some k) (hcl : ∃ k, u.vm.classes[cT]? = some k) (hfit : u.vm.assignable cell.cls cT = true)
    (hrest : Steps tb e below ((u.setVm vm').setTop { g with pc := xe.handlerPc, stack := [.ref a] }) target) : Steps tb e below ((u.setTop g).pushFrame (.throwing a)) target := by
  have hv : ((u.setTop g).pushFrame (.throwing a)).vm = u.vm := Stand.throwing_vm u g a
  have hh : ((u.setTop g).pushFrame (.throwing a)).heap = u.heap := Stand.throwing_heap u g a
  have hfind := am_search (e := e) (u := (u.setTop g).pushFrame (.throwing a)) (g := g) (a := a) (cT := cT) (cell := cell) (vm' := vm') (by rw [hv]; exact hm) hc ht hcov h0 (by rw [hv]; exact hg) (by rw [hv]; exact hal) (by rw [hv]; exact hsz) (by rw [hh]; exact hcell) hobj (by rw [hv]; exact hk) (by rw [hv]; exact hcl) (by rw [hv]; exact hfit)
  obtain ⟨hgo, hw⟩ := hAt.throwing a
  refine Steps.head hgo hw ?_
  obtain ⟨g0, hg0⟩ := Option.isSome_iff_exists.mp hAt.top
  obtain ⟨r, hr⟩ := State.topJava?_eq_some.mp hg0
  have hr2 : (u.setVm vm').frames = .java g0 :: r := hr
  have hstep : (stepThrowing e ((u.setTop g).pushFrame (.throwing a)) a (.java g :: r)).Is ((((u.setTop g).pushFrame (.throwing a)).setVm vm').setFrames (.java { g with pc := xe.handlerPc, stack := [.ref a] } :: r)) [] := by
    simp only [stepThrowing, searchFrame, vmDo]
    generalize hres : Sem.go _ e false [] ((u.setTop g).pushFrame (.throwing a)) = res
    obtain ⟨as, rfl, h9⟩ := Sem.eq_ok_of hres (a := Handler.found xe.handlerPc) (s' := ((u.setTop g).pushFrame (.throwing a)).setVm vm') (acts' := []) (by simp [hfind _ _ _ _])
    exact ⟨rfl, h9⟩
  have htail : u.frames.tail = r := by rw [hr]; rfl
  rw [stepThread_throwing (frames_entered hAt.top _), htail, hstep.1]
  rw [State.setTop_of_frames _ hr2] at hrest
  have e1 : (((u.setTop g).pushFrame (.throwing a)).setVm vm').setFrames (.java { g with pc := xe.handlerPc, stack := [.ref a] } :: r) = (u.setVm vm').setFrames (.java { g with pc := xe.handlerPc, stack := [.ref a] } :: r) := by
    rw [State.setTop_of_frames _ hr, State.pushFrame]
    show (((((u.setFrames _).setFrames _).setVm vm')).setFrames _) = _
    rw [State.setFrames_setFrames]
    show (((u.setVm vm').setFrames _).setFrames _) = _
    rw [State.setFrames_setFrames]
  rw [e1]
  exact hrest
/-- a call of a method that throws: to the note of it over the caller's frame -/
theorem am_thrown {U : State} {y : MethodName} {ws : List Cond} {rm : Room} {bytes : ByteArray} {maxL : Nat} {ret : Option FieldType} {Pc : Array Value → State → Prop} {Qt : Array Value → State → Outcome → State → Prop} (hM : MetFree l0 y (headSpec ws rm) Pc (fun _ _ _ _ _ => True) Qt) (hQ : ∀ a st o t, Qt a st o t → am_FT st o t) (X : Stand p l0 e R s m args below meth c U locs cells slots) (hrf : rm.frames + 1 ≤ R.frames) (hrl : 8 + (maxL + 11) + rm.locals ≤ R.locals) (hrc : cells + rm.cells ≤ R.cells) (hrs : slots + rm.slots ≤ R.slots) {a : Array Value} (hws : ∀ w ∈ ws, w.before a U = true) (hcode : (Cond.code y bytes maxL ret).before a U = true) (hini : (Cond.initialized y.cls).before a U = true) {mk : MethodId} (hn : U.methodNamed? y = some mk) {g : JFrame} {ig : Instr} {len : Nat} (hg : g.method = m) (hsize : g.locals.size = c.maxLocals) (hdg : decode c.code g.pc = .ok (ig, len)) (hw8 : 2 * g.monitorRoom + (g.stack.map fun v => v.category).sum ≤ 8) (hP : Pc a (U.calling g mk a)) :
    ∃ (x : Addr) (t : State), Qt a (U.calling g mk a) (.threw x) t ∧ Stand p l0 e R s m args below meth c (({ U with heap := t.heap, slotsUsed := t.slotsUsed } : State).setVm t.vm) locs (cells + 1) (slots + 6) ∧ Steps p.tables e below (doInvoke e (U.setTop g) [] mk a).1 (((({ U with heap := t.heap, slotsUsed := t.slotsUsed } : State).setVm t.vm).setTop g).pushFrame (.throwing x)) := by
  subst hg
  obtain ⟨methY, cY, hmY, hcY, -, hlY, -⟩ := Cond.code_spec hn hcode
  obtain ⟨kY, hkY, -⟩ := className_of_methodNamed hn
  have hat := X.here
  have hfits : (headSpec ws rm).appliesLoose y e.platform (U.calling g mk a) = true :=
    Spec.appliesLoose_calling (g := g) hat hdg hn hkY (Cond.initialized_spec (findClass_of_methodNamed hn) hkY hini) (X.room_calling (g := g) (R' := rm) hsize hmY hcY hrf (by rw [hlY]; omega) hrc hrs) (atoms_intro hws)
  obtain ⟨g0, hg0⟩ := Option.isSome_iff_exists.mp hat.top
  obtain ⟨r, hr⟩ := State.topJava?_eq_some.mp hg0
  obtain ⟨mid, hmid⟩ := hat.above
  have htop : (U.setTop g).frames = .java g :: r := by rw [State.frames_setTop' g hat.top, hr]; rfl
  have hfr : (U.setTop g).frames = (.java g :: mid) ++ below := by rw [State.frames_setTop' g hat.top, hmid]; rfl
  obtain ⟨o, t, hsteps, -, hend, hq⟩ := Steps.callFree hM p X.admits X.cas X.clock (acts := []) hfr hfits hP trivial
  have hq : Qt a (U.calling g mk a) o t := hq
  obtain ⟨⟨x, rfl⟩, hW, hsame⟩ := hQ _ _ _ _ hq
  obtain ⟨z0, z1, z2, z3, z4, z5⟩ := hsame
  have hW' : U.WarmedH t.vm := hW
  have hft : t.frames = .throwing x :: .java g :: r := by
    have h9 : t.frames = .throwing x :: (U.setTop g).frames := hend
    rw [h9, htop]
  have hU : U.sameButNew ({ U with heap := t.heap, slotsUsed := t.slotsUsed } : State) [] 1 6 := by
    refine ⟨?_, z1, z2, z3, z4, z5⟩
    obtain ⟨th, hth, -⟩ := State.frames_cons hr
    show ({ U with heap := t.heap, slotsUsed := t.slotsUsed } : State) = { U.setFrames U.frames with heap := t.heap, slotsUsed := t.slotsUsed }
    rw [State.setFrames_self hth]
  have hr2 : (({ U with heap := t.heap, slotsUsed := t.slotsUsed } : State).setVm t.vm).frames = .java g0 :: r := hr
  have ht : t = (((({ U with heap := t.heap, slotsUsed := t.slotsUsed } : State).setVm t.vm).setTop g).pushFrame (.throwing x)) := by
    have h1 : t = ({ (U.calling g mk a).setFrames t.frames with heap := t.heap, slotsUsed := t.slotsUsed } : State).setVm t.vm := by
      have h2 : t = ({ t with vm := (U.calling g mk a).vm } : State).setVm t.vm := rfl
      rw [z0] at h2
      exact h2
    refine h1.trans ?_
    rw [hft, State.calling_eq hat.top, State.setFrames_setFrames, State.pushFrame, State.frames_setTop _ hr2, State.setTop_of_frames _ hr2, State.setFrames_setFrames]
    rfl
  have hS := X.same.trans (hU.setVm s.vm)
  rw [List.append_nil] at hS
  refine ⟨x, t, hq, ⟨X.admits, X.cas, X.clock, X.frames, X.room, X.hears, X.method, X.code, (hat.setHeapUsed t.heap t.slotsUsed).setVm hW'.alike, X.tail, State.WarmedH.trans X.warmed hW', X.limits, X.bytes, hS⟩, ?_⟩
  rw [← ht]
  exact hsteps
set_option maxHeartbeats 2000000 in
/-- the call of it, caught by the caller's only handler -/
theorem am_caught {d : Nat} {M : am_M} {b0 z : Nat} {fs xs rest : List Value} (hw8 : am_words rest ≤ 8) (hF : am_Fix Ts P cl tyL AO NL KL) (hM : M ∈ P) (hx : p.tables.exec = Jvm.exec) (hb : c.code = cc) (hml : c.maxLocals = ls.size) (hts : ∀ w ∈ Ts, w.before args s = true) (hown : s.vm.findClass own = some m.cls) (hK : am_Kx D cl AO NL s) (hRf : d + 1 ≤ R.frames) (hRl : (d + 1) * KL ≤ R.locals) (hcs : cells + 1 ≤ R.cells) (hss : slots + 6 ≤ R.slots) (hR : am_R D cl b Hb S s H) {i : Nat} (hlk : Cond.methodLink own i M.1 ∈ Ts) {X tx : String} {il : Nat} (hlen : xs.length = M.2.2.2.2.2.2.1) (hS : am_nth S b0 = some (z, some (.inr (M.2.2.2.2.2.2.2, fs)))) (hTX : am_TX Hb M.1.cls il tx s)
    (hMT : MetFree l0 M.1 (headSpec (Cond.code M.1 M.2.1 M.2.2.1 M.2.2.2.1 :: Ts) (am_rm KL d 1 6)) (am_PT D cl b Hb AO NL M.1.cls il tx (.ref b0 :: xs) S) (fun _ _ _ _ _ => True) (am_QT D cl b Hb X S))
    {xe : ExceptionTableEntry} (hsplit : c.exceptionTable.toList = [xe]) (hcov : covers xe pc = true) (hct : xe.catchType ≠ 0) (hclk : Cond.classLink own xe.catchType X ∈ Ts) (hd : decode cc pc = .ok (.invokevirtual i, 3))
    (kk : ∀ (H1 : Heap), am_R D cl b Hb (am_add S (6, none)) s H1 → W p l0 e R s m args below meth c H1 locs (cells + 1) (slots + 6) Q (F0 m xe.handlerPc ls [.ref (am_ad b Hb.size (am_len S))])) :
    W p l0 e R s m args below meth c H locs cells slots Q (F0 m pc ls ((xs.reverse ++ Value.ref b0 :: rest).map (am_cv (am_ad b Hb.size)))) := by
  have hgood := hF.2.2.1
  obtain ⟨-, hpl, hcode, hini, hmh, hpar, hKL, -, -, hvi0⟩ := hF.2.2.2.2.2.2.2.2 M hM
  have hroom : 8 + (M.2.2.1 + 11) + d * KL ≤ R.locals := by
    have : (d + 1) * KL = d * KL + KL := Nat.succ_mul d KL
    omega
  have hpay : ∀ w ∈ (Cond.code M.1 M.2.1 M.2.2.1 M.2.2.2.1 :: Ts), ∀ (a' : Array Value) (U : State), s.WarmedH U.vm → w.before a' U = true := by
    intro w hw a' U hW
    have hw' : w ∈ Ts := by
      rcases List.mem_cons.mp hw with q | q
      · rw [q]; exact hcode
      · exact q
    exact word_at hW (good_of_word (hgood w hw')) (hts w hw')
  obtain ⟨j0, rr, rfl, -, h1, h2, cell, q1, q2, q3, q4⟩ := hR.obj hS
  obtain ⟨hnm, hinst, hsel⟩ := hvi0 rr h1
  have hcls : s.vm.findClass M.1.cls = some cell.cls := by rw [q2, ← hnm]; exact (hK.1.1 _ _ h1).2.1
  have hobj : cell.vm.isStatics = false := by rw [q3]; rfl
  intro T hT Y
  obtain ⟨mk, methM, hnamed, hmethM, hstM, habM⟩ := Cond.instanceMethod_spec (hts _ hinst)
  obtain ⟨methM', cM, hmethM', -, -, -, -, -, -, hsigM⟩ := Cond.code_spec hnamed (hts _ hcode)
  cases hmethM.symm.trans hmethM'
  obtain ⟨c2, r2, m2, w1, w2, w3, w4, kP, hkP, hkPi⟩ := Cond.selects_spec (hts _ hsel)
  cases hcls.symm.trans w1
  cases (State.methodFound?_of_named hnamed hmh).symm.trans w2
  cases hnamed.symm.trans w3
  have hselP : selectMethod e.platform s.vm cell.cls mk = .method mk := by rw [Launch.admits_selectMethod Y.admits]; exact w4
  have hlenS : (xs.map (am_cv (am_ad b Hb.size))).length = methM.sig.parameters.length := by
    rw [hsigM] at hpar
    have hpar : methM.sig.parameters.length = M.2.2.2.2.2.2.1 := Option.some.inj hpar
    rw [List.length_map, hlen, hpar]
  have hstk : (F0 m pc ls ((xs.reverse ++ Value.ref (j0 + 1) :: rest).map (am_cv (am_ad b Hb.size)))).stack = (xs.map (am_cv (am_ad b Hb.size))).reverse ++ .ref (Hb.size + j0) :: rest.map (am_cv (am_ad b Hb.size)) := by
    show (xs.reverse ++ Value.ref (j0 + 1) :: rest).map (am_cv (am_ad b Hb.size)) = _
    rw [List.map_append, List.map_reverse]
    rfl
  obtain ⟨vm₁, X₁, hstep₁⟩ := Y.invokevirtual hx hown (hts _ hlk) hnamed hmethM hstM hkP hkPi hmh (a := Hb.size + j0) (cell := cell) (by rw [hT]; exact q1)
    (fun z h => by rw [h] at hobj; cases hobj) hselP hmethM habM hkP hkPi (g := F0 m pc ls ((xs.reverse ++ Value.ref (j0 + 1) :: rest).map (am_cv (am_ad b Hb.size)))) rfl (argsL := xs.map (am_cv (am_ad b Hb.size))) (rest := rest.map (am_cv (am_ad b Hb.size))) hlenS hstk (by rw [hb]; exact hd)
  have hPc : am_PT D cl b Hb AO NL M.1.cls il tx (.ref (j0 + 1) :: xs) S (Value.ref (Hb.size + j0) :: xs.map (am_cv (am_ad b Hb.size))).toArray (T.setVm vm₁) := ⟨am_Pc_at (as := .ref (j0 + 1) :: xs) hR hK (T.setVm vm₁) hT X₁.warmed, hTX.warm X₁.warmed⟩
  obtain ⟨x, t, ⟨⟨ce, r1, r2, r3, r4, r5, r6⟩, hFE⟩, X', hsteps⟩ := am_thrown (bytes := M.2.1) (maxL := M.2.2.1) (ret := M.2.2.2.1) (a := (Value.ref (Hb.size + j0) :: xs.map (am_cv (am_ad b Hb.size))).toArray) (g := { (F0 m pc ls ((xs.reverse ++ Value.ref (j0 + 1) :: rest).map (am_cv (am_ad b Hb.size)))) with stack := rest.map (am_cv (am_ad b Hb.size)) }) hMT (fun _ _ _ _ h => h.2) X₁ hRf hroom hcs hss (fun w hw => hpay w hw _ _ X₁.warmed) (hpay _ List.mem_cons_self _ _ X₁.warmed) (word_at X₁.warmed (good_of_word (hgood _ hini)) (hts _ hini)) (X₁.named hnamed) rfl hml.symm (by rw [hb]; exact hd) (by show 2 * 0 + _ ≤ 8; rw [am_words_cv]; omega) ⟨am_Pc_blind _ _ _ _ hPc.1, am_TX.same (s := T.setVm vm₁) rfl hPc.2⟩
  have r1 : x = T.heap.size := by
    cases r1
    rfl
  subst r1
  have hfound : s.vm.findClass X = some ce.cls := by
    have h9 : (T.setVm vm₁).vm.findClass X = some ce.cls := r3
    rw [X₁.warmed.alike.findClass] at h9
    exact h9
  have hfit : s.vm.assignable ce.cls ce.cls = true := by
    have h9 : (T.setVm vm₁).vm.assignable ce.cls ce.cls = true := r4
    rw [X₁.warmed.alike.assignable] at h9
    exact h9
  have hpm : e.platform.magicAccessors = ({} : Platform).magicAccessors := by rw [Y.admits.platform]
  obtain ⟨cT, hcT, hcl⟩ := Cond.classLink_spec hown (hts _ hclk) e.platform hpm
  cases hfound.symm.trans hcT
  obtain ⟨hg1, hw1, -⟩ := State.classEntry (e := e) X'.warmed hcl
  obtain ⟨kT, hkT⟩ := Vm.classAt_of_findClass hfound
  obtain ⟨kU, hkU, -⟩ := X'.warmed.alike.2.2 _ _ hkT
  have hal2 := X'.warmed.alike.symm.trans hw1.alike
  have XV := X'.noted hw1
  have hal : am_ad b Hb.size (am_len S) = T.heap.size := by
    rw [hT]
    show Hb.size + S.2.1 = H.size
    exact hR.2.1.symm
  have hvm : t.vm.Alike s.vm := by
        exact X'.warmed.alike.symm
  obtain ⟨t2, a1, b1⟩ := kk t.heap (r6.moved hvm) _ (by rfl) XV
  refine ⟨t2, hstep₁ _ (fun acts => by
    rw [doInvoke_state]
    refine hsteps.trans ?_
    refine am_catch (xe := xe) (cell := ce) (vm' := _) X'.here X'.method' X'.code hsplit hcov hct hg1 hal2 hal2.size_le r2 (fun k hk => by rw [r5] at hk; cases hk) ⟨kU, hkU⟩ ⟨kU, hkU⟩ (by rw [X'.warmed.alike.assignable]; exact hfit) ?_
    rw [hal] at a1
    exact a1), b1⟩
set_option maxHeartbeats 2000000 in
/-- the contract of a static method of ours with one handler, on the road that goes through it -/
theorem am_metWT {d : Nat} {M M2 : am_M} {as xs rest : List Value} {b0 z : Nat} {fs : List Value} (hF : am_Fix Ts P cl tyL AO NL KL) (hB : am_Body Ts P cl AO NL M) (hpl : plainName M.1.cls = true) (hw : am_words as ≤ M.2.2.1) {n pcI : Nat} {l' : am_L} (hro : am_ro M S n 0 (lv_args 0 as) [] = some (pcI, l', xs.reverse ++ Value.ref b0 :: rest)) (hw8 : am_words rest ≤ 8) (hM2 : M2 ∈ P) {i : Nat} (hlk : Cond.methodLink M.1.cls i M2.1 ∈ Ts) {X tx : String} {il : Nat} (hlen : xs.length = M2.2.2.2.2.2.2.1) (hS : am_nth S b0 = some (z, some (.inr (M2.2.2.2.2.2.2.2, fs))))
    (hMT : MetFree l0 M2.1 (headSpec (Cond.code M2.1 M2.2.1 M2.2.2.1 M2.2.2.2.1 :: Ts) (am_rm KL d 1 6)) (am_PT D cl b Hb AO NL M2.1.cls il tx (.ref b0 :: xs) S) (fun _ _ _ _ _ => True) (am_QT D cl b Hb X S))
    {t0 t1 hp ct : Nat} (hc1 : t0 ≤ pcI) (hc2 : pcI < t1) (hct : ct ≠ 0) (hclk : Cond.classLink M.1.cls ct X ∈ Ts) (hd : decode M.2.1 pcI = .ok (.invokevirtual i, 3)) {f : Nat} {r : Option Value} {S' : am_S} (hend : am_run P cl tyL f (d + 1) M hp l' [.ref (am_len S)] (am_add S (6, none)) = some (r, S', 0, 0)) :
    Met l0 M.1 (Cond.codeWith M.1 M.2.1 M.2.2.1 M.2.2.2.1 [(t0, t1, hp, ct)] :: Ts) (am_rm KL (d + 1) 1 6) (am_PT D cl b Hb AO NL M2.1.cls il tx as S) (am_Qc D cl b Hb r S') 1 6 (fun q => Hb.size ≤ q) := by
  refine va_MetW (cc := M.2.1) (maxL := M.2.2.1) (ret := M.2.2.2.1) (hh := [(t0, t1, hp, ct)]) hpl rfl ?_
  intro p e s m args below meth c s₁ B hml hv
  obtain ⟨⟨rfl, hR, hK⟩, hTX⟩ := hv
  have hts0 := atoms_spec (ws := Cond.codeWith M.1 M.2.1 M.2.2.1 M.2.2.2.1 [(t0, t1, hp, ct)] :: Ts) B.pre
  have hts : ∀ w ∈ Ts, w.before (as.map (am_cv (am_ad b Hb.size))).toArray s = true := fun w hw => hts0 w (List.mem_cons_of_mem _ hw)
  have hlocks := B.notSynchronized
  have hl := lv_entry (as.map (am_cv (am_ad b Hb.size))) (n := M.2.2.1) (by rw [am_sl_len]; unfold am_words at hw ⊢; rw [am_words_cv]; exact hw)
  rw [lg_entry_eq]
  rw [am_args_cv] at hl
  have hIn : am_In Ts D cl AO NL M p s m (as.map (am_cv (am_ad b Hb.size))).toArray meth c := ⟨B.exec, B.bytes, hml, (name_of_methodNamed B.named B.method).1, findClass_of_methodNamed B.named, hts, hK⟩
  have htab : ∃ xe : ExceptionTableEntry, c.exceptionTable.toList = [xe] ∧ xe.startPc = t0 ∧ xe.endPc = t1 ∧ xe.handlerPc = hp ∧ xe.catchType = ct := by
    obtain ⟨m9, meth', c', h0, h1, h2, -, -, h7, -⟩ := Cond.codeWith_spec (hts0 _ List.mem_cons_self)
    cases B.named.symm.trans h0
    have e1 : meth' = meth := Option.some.inj (h1.symm.trans B.method)
    subst e1
    have e2 : s₁.code? m = some c := B.here.code
    rw [B.state] at e2
    have e3 : s.code? m = some c := by rw [State.code?_eq] at e2 ⊢; exact e2
    rw [State.code?_eq, h1] at e3
    have e4 : c' = c := Option.some.inj (h2.symm.trans e3)
    subst e4
    cases hz : c'.exceptionTable.toList with
    | nil => rw [hz] at h7; cases h7
    | cons xe t =>
      rw [hz] at h7
      cases t with
      | nil =>
        simp only [List.map_cons, List.map_nil, List.cons.injEq, Prod.mk.injEq, and_true] at h7
        exact ⟨xe, rfl, h7.1, h7.2.1, h7.2.2.1, h7.2.2.2⟩
      | cons _ _ => simp at h7
  obtain ⟨xe, x1, x2, x3, x4, x5⟩ := htab
  refine am_ro_ok (st := []) hF.1 hB hIn hR n hro hl (fun ls1 hl1 => ?_)
  refine am_caught (d := d) (xe := xe) hw8 hF hM2 B.exec B.bytes (hml.trans hl1.1.symm) hts (findClass_of_methodNamed B.named) hK (Nat.le_refl _) (Nat.le_refl _) (by show 0 + 1 ≤ 1; omega) (by show 0 + 6 ≤ 6; omega) hR hlk hlen hS hTX hMT x1 (by simp only [covers, x2, x3, Bool.and_eq_true, decide_eq_true_eq]; exact ⟨hc1, hc2⟩) (by rw [x5]; exact hct) (by rw [x5]; exact hclk) hd (fun H1 hR1 => ?_)
  rw [x4]
  have h0 := am_sound (D := D) (b := b) (Hb := Hb) (l0 := l0) hF f (d + 1) M hB hp l' [.ref (am_len S)] (am_add S (6, none)) r S' 0 0 hend p e (headSpec (Cond.codeWith M.1 M.2.1 M.2.2.1 M.2.2.2.1 [(t0, t1, hp, ct)] :: Ts) (am_rm KL (d + 1) 1 6)).room s m (as.map (am_cv (am_ad b Hb.size))).toArray below meth c H1 [] 1 6 (MQ below (am_Qc D cl b Hb r S') (as.map (am_cv (am_ad b Hb.size))).toArray s 1 6 (fun q => Hb.size ≤ q)) ls1
    hIn (Nat.le_refl _) (Nat.le_refl _) (Nat.le_refl _) (Nat.le_refl _) hR1 (fun q hq => by cases hq) hl1
  refine h0 ?_
  intro H2 locs2 ls2 pc2 ins len st2 hd2 hr2 hR2 hL2
  exact am_end B.exec B.bytes B.returns hlocks hd2 hr2 (fun t ht hW => ⟨rfl, by rw [ht]; exact hR2.moved hW.alike⟩) hL2
/-- the call of it -/
theorem am_runSWT {hh : List (Nat × Nat × Nat × Nat)} {tx own2 : String} {il : Nat} (hgood : ∀ w ∈ Ts, goodWord w = true) (hx : p.tables.exec = Jvm.exec) (hb : c.code = cc) (hml : c.maxLocals = ls.size) (hts : ∀ w ∈ Ts, w.before args s = true) (hown : s.vm.findClass own = some m.cls) (hK : am_Kx D cl AO NL s) {d c1 n1 : Nat} (hRf : d + 1 ≤ R.frames) (hRl : (d + 1) * KL ≤ R.locals) (hcs : cells + c1 ≤ R.cells) (hss : slots + n1 ≤ R.slots) (hR : am_R D cl b Hb S s H) (hL : ∀ q ∈ locs, Hb.size ≤ q.base) {M : am_M} {i : Nat} (hlk : Cond.methodLink own i M.1 ∈ Ts) (hst : Cond.static M.1 ∈ Ts) (hini : Cond.initialized M.1.cls ∈ Ts) (hcode : (Cond.codeWith M.1 M.2.1 M.2.2.1 M.2.2.2.1 hh).before args s = true) (hmh : M.1.cls ≠ "java/lang/invoke/MethodHandle" ∧ M.1.cls ≠ "java/lang/invoke/VarHandle") (hKL : 19 + M.2.2.1 ≤ KL) {as rest : List Value} (hpar : (parseMethodDescriptor M.1.desc).map (fun d => d.parameters.length) = some as.length) (hw8 : am_words rest ≤ 8) {r : Option Value} {S1 : am_S} (hd : decode cc pc = .ok (.invokestatic i, 3)) (hTX : am_TX Hb own2 il tx s)
    (hMet : Met l0 M.1 (Cond.codeWith M.1 M.2.1 M.2.2.1 M.2.2.2.1 hh :: Ts) (am_rm KL d c1 n1) (am_PT D cl b Hb AO NL own2 il tx as S) (am_Qc D cl b Hb r S1) c1 n1 (fun q => Hb.size ≤ q))
    (kk : ∀ (H1 : Heap) (locs1 : List Loc), am_R D cl b Hb S1 s H1 → (∀ q ∈ locs1, Hb.size ≤ q.base) → W p l0 e R s m args below meth c H1 locs1 (cells + c1) (slots + n1) Q (F0 m (pc + 3) ls ((r.toList ++ rest).map (am_cv (am_ad b Hb.size))))) : W p l0 e R s m args below meth c H locs cells slots Q (F0 m pc ls ((as.reverse ++ rest).map (am_cv (am_ad b Hb.size)))) := by
  have hroom : 8 + (M.2.2.1 + 11) + d * KL ≤ R.locals := by
    have : (d + 1) * KL = d * KL + KL := Nat.succ_mul d KL
    omega
  have hcg : (Cond.onTables (Cond.codeWith M.1 M.2.1 M.2.2.1 M.2.2.2.1 hh) && Cond.keeps (Cond.codeWith M.1 M.2.1 M.2.2.1 M.2.2.2.1 hh)) = true := by first | rfl | simp [Cond.onTables, Cond.keeps, Cond.steady]
  have hpay : ∀ w ∈ (Cond.codeWith M.1 M.2.1 M.2.2.1 M.2.2.2.1 hh :: Ts), ∀ (a' : Array Value) (U : State), s.WarmedH U.vm → w.before a' U = true := by
    intro w hw a' U hW
    rcases List.mem_cons.mp hw with q | q
    · rw [q]
      exact word_at hW (Or.inl hcg) hcode
    · exact word_at hW (good_of_word (hgood w q)) (hts w q)
  have hblind : FrameBlind (am_PT D cl b Hb AO NL own2 il tx as S) := fun a U g mk h => ⟨am_Pc_blind a U g mk h.1, am_TX.same (s := U) rfl h.2⟩
  have hBk : Back l0 R p e below s args M.1 3 8 (PreOf R c1 n1 (am_PT D cl b Hb AO NL own2 il tx as S)) (PostOf (am_Qc D cl b Hb r S1) c1 n1 (fun q => Hb.size ≤ q)) := va_backW (bytes := M.2.1) (maxL := M.2.2.1) (ret := M.2.2.2.1) (hh := hh) hMet hblind rfl rfl hRf hroom hpay List.mem_cons_self (fun a' U hW => word_at hW (good_of_word (hgood _ hini)) (hts _ hini))
  have hPc := am_Pc_at (as := as) hR hK
  have hrun : va_Run p l0 e R s m args below meth c H locs cells slots c1 n1 (F0 m pc ls ((as.reverse ++ rest).map (am_cv (am_ad b Hb.size)))) (rest.map (am_cv (am_ad b Hb.size))) (am_Qc D cl b Hb r S1 (as.map (am_cv (am_ad b Hb.size))).toArray) (fun q => Hb.size ≤ q) := by
    intro T hT X
    obtain ⟨v, vm₁, ⟨U', l2, c2, s2⟩, hW₁, X', ⟨g', mk, t, L, e1, e2, hq, h1, hL', h2, h3⟩, st⟩ := am_callSW X hx hown (hts _ hlk) (hts _ hst) (hts _ hini) hcode hmh hBk (g := F0 m pc ls ((as.reverse ++ rest).map (am_cv (am_ad b Hb.size)))) rfl hml.symm (argsL := as.map (am_cv (am_ad b Hb.size))) (rest := rest.map (am_cv (am_ad b Hb.size))) (fun sig h => by
        rw [h] at hpar
        rw [List.length_map]
        exact (Option.some.inj hpar).symm) (by rw [← List.map_reverse, ← List.map_append]) (by show 2 * 0 + _ ≤ 8; rw [am_words_cv]; omega) (by rw [hb]; exact hd)
      (fun vm₁ hW₁ => ⟨hcs, hss, hPc (T.setVm vm₁) hT hW₁, hTX.warm hW₁⟩)
    dsimp only [Pt.U, Pt.locs, Pt.cells, Pt.slots] at X' e1 e2 h1 h2 h3 st
    subst h1; subst h2; subst h3
    exact ⟨v, (T.setVm vm₁).calling g' mk (as.map (am_cv (am_ad b Hb.size))).toArray, t, U', L, hT, X', hL', e1, e2, hq, st⟩
  exact am_back hrun hL kk
end AMT
