/-! a static method of ours that has an exception table, on roads where none of it is taken -/
section AMW
variable {p : Program} {l0 : Launch} {e : Env} {R : Room} {s : State} {m : MethodId} {args : Array Value} {below : List Frame} {meth : Method} {c : Code} {H : Heap} {locs : List Loc} {cells slots : Nat} {Q : State → Prop}
variable {cc : ByteArray} {pc : Nat} {ls : Array Slot} {D : va_G} {cl : List vw_C} {tyL : List (List FieldType)} {b : Nat} {Hb : Heap} {S : am_S} {own : String} {Ts : List Cond} {AO : List String} {NL : am_NL} {KL : Nat} {P : List am_M}
theorem am_callSW {T : State} (X : Stand p l0 e R s m args below meth c T locs cells slots) (hexec : p.tables.exec = Jvm.exec) {index : Nat} {y : MethodName} {bytes : ByteArray} {maxL : Nat} {ret : Option FieldType} {hh : List (Nat × Nat × Nat × Nat)}
    (hown : s.vm.findClass own = some m.cls) (hlink : (Cond.methodLink own index y).before args s = true) (hstat : (Cond.static y).before args s = true) (hinit : (Cond.initialized y.cls).before args s = true)
    (hcode : (Cond.codeWith y bytes maxL ret hh).before args s = true) (hy : y.cls ≠ "java/lang/invoke/MethodHandle" ∧ y.cls ≠ "java/lang/invoke/VarHandle")
    {Wd : Nat} {Pre : Pt → Array Value → Prop} {Post : Pt → Array Value → Option Value → Pt → Prop} (hK : Back l0 R p e below s args y 3 Wd Pre Post)
    {g : JFrame} (hg : g.method = m) (hsize : g.locals.size = c.maxLocals) {argsL rest : List Value} (hlen : ∀ sig, parseMethodDescriptor y.desc = some sig → argsL.length = sig.parameters.length)
    (hstack : g.stack = argsL.reverse ++ rest) (hW : 2 * g.monitorRoom + (rest.map fun v => v.category).sum ≤ Wd) (hdg : decode c.code g.pc = .ok (.invokestatic index, 3))
    (hpre : ∀ vm₁, s.WarmedH vm₁ → Pre ⟨T.setVm vm₁, locs, cells, slots⟩ argsL.toArray) :
    ∃ (v : Option Value) (vm₁ : Vm) (B : Pt), s.WarmedH vm₁ ∧ Stand p l0 e R s m args below meth c B.U B.locs B.cells B.slots ∧ Post ⟨T.setVm vm₁, locs, cells, slots⟩ argsL.toArray v B ∧
      ∀ target, Steps p.tables e below (B.U.setTop { g with pc := g.pc + 3, stack := v.toList ++ rest }) target → Steps p.tables e below (T.setTop g) target := by
  obtain ⟨mk, methM, cM, hnamed, hmethM, -, -, -, -, -, -, hsigM⟩ := Cond.codeWith_spec hcode
  have hstatic : methM.isStatic = true := Cond.static_spec hnamed hmethM hstat
  obtain ⟨kP, hkP, -⟩ := className_of_methodNamed hnamed
  have hinitP : kP.init = .initialized := Cond.initialized_spec (findClass_of_methodNamed hnamed) hkP hinit
  obtain ⟨vm₁, X₁, hstep₁⟩ := X.invokestatic hexec hown hlink hnamed hmethM hstatic hkP hinitP hy (g := g) hg (argsL := argsL) (rest := rest) (hlen _ hsigM) hstack hdg
  obtain ⟨v, B, X', hpost, hsteps⟩ := hK m meth c ⟨T.setVm vm₁, locs, cells, slots⟩ { g with stack := rest } (.invokestatic index) mk argsL.toArray X₁ hg hsize hdg hW (X₁.named hnamed) (hpre vm₁ X₁.warmed)
  exact ⟨v, vm₁, B, X₁.warmed, X', hpost, fun target h => hstep₁ _ fun acts => by rw [doInvoke_state]; exact hsteps.trans h⟩
/-- its contract out of what its run says -/
theorem am_metW {d : Nat} {M : am_M} {hh : List (Nat × Nat × Nat × Nat)} {as : List Value} {r : Option Value} {S' : am_S} {dc ds : Nat} (hpl : plainName M.1.cls = true) (hw : am_words as ≤ M.2.2.1) (h : am_Says Ts D cl AO NL KL b Hb l0 d M 0 (lv_args 0 as) [] S r S' dc ds) :
    Met l0 M.1 (Cond.codeWith M.1 M.2.1 M.2.2.1 M.2.2.2.1 hh :: Ts) (am_rm KL d dc ds) (am_Pc D cl b Hb AO NL as S) (am_Qc D cl b Hb r S') dc ds (fun q => Hb.size ≤ q) := by
  refine va_MetW (cc := M.2.1) (maxL := M.2.2.1) (ret := M.2.2.2.1) (hh := hh) hpl rfl ?_
  intro p e s m args below meth c s₁ B hml hv
  obtain ⟨rfl, hR, hK⟩ := hv
  have hts := atoms_spec (ws := Cond.codeWith M.1 M.2.1 M.2.2.1 M.2.2.2.1 hh :: Ts) B.pre
  have hlocks := B.notSynchronized
  have hl := lv_entry (as.map (am_cv (am_ad b Hb.size))) (n := M.2.2.1) (by rw [am_sl_len]; unfold am_words at hw ⊢; rw [am_words_cv]; exact hw)
  rw [lg_entry_eq]
  rw [am_args_cv] at hl
  have h0 := h p e (headSpec (Cond.codeWith M.1 M.2.1 M.2.2.1 M.2.2.2.1 hh :: Ts) (am_rm KL d dc ds)).room s m (as.map (am_cv (am_ad b Hb.size))).toArray below meth c s.heap [] 0 0 (MQ below (am_Qc D cl b Hb r S') (as.map (am_cv (am_ad b Hb.size))).toArray s dc ds (fun q => Hb.size ≤ q)) _
    ⟨B.exec, B.bytes, hml, (name_of_methodNamed B.named B.method).1, findClass_of_methodNamed B.named, fun w hw => hts w (List.mem_cons_of_mem _ hw), hK⟩ (Nat.le_refl _) (Nat.le_refl _) (by rw [Nat.zero_add]; exact Nat.le_refl _) (by rw [Nat.zero_add]; exact Nat.le_refl _) hR (fun q hq => by cases hq) hl
  refine h0 ?_
  intro H1 locs1 ls1 pc1 ins len st1 hd hr hR1 hL1
  rw [Nat.zero_add, Nat.zero_add]
  exact am_end B.exec B.bytes B.returns hlocks hd hr (fun t ht hW => ⟨rfl, by rw [ht]; exact hR1.moved hW.alike⟩) hL1
/-- the call of it: as, on top of the stack (the last first), are its arguments -/
theorem am_runSW {hh : List (Nat × Nat × Nat × Nat)} (hgood : ∀ w ∈ Ts, goodWord w = true) (hx : p.tables.exec = Jvm.exec) (hb : c.code = cc) (hml : c.maxLocals = ls.size) (hts : ∀ w ∈ Ts, w.before args s = true) (hown : s.vm.findClass own = some m.cls) (hK : am_Kx D cl AO NL s) {d c1 n1 : Nat} (hRf : d + 1 ≤ R.frames) (hRl : (d + 1) * KL ≤ R.locals) (hcs : cells + c1 ≤ R.cells) (hss : slots + n1 ≤ R.slots) (hR : am_R D cl b Hb S s H) (hL : ∀ q ∈ locs, Hb.size ≤ q.base) {M : am_M} {i : Nat} (hlk : Cond.methodLink own i M.1 ∈ Ts) (hst : Cond.static M.1 ∈ Ts) (hini : Cond.initialized M.1.cls ∈ Ts) (hcode : (Cond.codeWith M.1 M.2.1 M.2.2.1 M.2.2.2.1 hh).before args s = true) (hmh : M.1.cls ≠ "java/lang/invoke/MethodHandle" ∧ M.1.cls ≠ "java/lang/invoke/VarHandle") (hKL : 19 + M.2.2.1 ≤ KL) {as rest : List Value} (hpar : (parseMethodDescriptor M.1.desc).map (fun d => d.parameters.length) = some as.length) (hw8 : am_words rest ≤ 8) {r : Option Value} {S1 : am_S} (hd : decode cc pc = .ok (.invokestatic i, 3))
    (hMet : Met l0 M.1 (Cond.codeWith M.1 M.2.1 M.2.2.1 M.2.2.2.1 hh :: Ts) (am_rm KL d c1 n1) (am_Pc D cl b Hb AO NL as S) (am_Qc D cl b Hb r S1) c1 n1 (fun q => Hb.size ≤ q))
    (kk : ∀ (H1 : Heap) (locs1 : List Loc), am_R D cl b Hb S1 s H1 → (∀ q ∈ locs1, Hb.size ≤ q.base) → W p l0 e R s m args below meth c H1 locs1 (cells + c1) (slots + n1) Q (F0 m (pc + 3) ls ((r.toList ++ rest).map (am_cv (am_ad b Hb.size))))) : W p l0 e R s m args below meth c H locs cells slots Q (F0 m pc ls ((as.reverse ++ rest).map (am_cv (am_ad b Hb.size)))) := by
  have hroom : 8 + (M.2.2.1 + 11) + d * KL ≤ R.locals := by
    have : (d + 1) * KL = d * KL + KL := Nat.succ_mul d KL
    omega
  have hcg : (Cond.onTables (Cond.codeWith M.1 M.2.1 M.2.2.1 M.2.2.2.1 hh) && Cond.keeps (Cond.codeWith M.1 M.2.1 M.2.2.1 M.2.2.2.1 hh)) = true := by first | rfl | simp [Cond.onTables, Cond.keeps, Cond.steady]
  have hpay : ∀ w ∈ (Cond.codeWith M.1 M.2.1 M.2.2.1 M.2.2.2.1 hh :: Ts), ∀ (a' : Array Value) (U : State), s.WarmedH U.vm → w.before a' U = true := by
    intro w hw a' U hW
    rcases List.mem_cons.mp hw with q | q
    · rw [q]
      exact word_at hW (Or.inl hcg) hcode
    · exact word_at hW (good_of_word (hgood w q)) (hts w q)
  have hBk : Back l0 R p e below s args M.1 3 8 (PreOf R c1 n1 (am_Pc D cl b Hb AO NL as S)) (PostOf (am_Qc D cl b Hb r S1) c1 n1 (fun q => Hb.size ≤ q)) := va_backW (bytes := M.2.1) (maxL := M.2.2.1) (ret := M.2.2.2.1) (hh := hh) hMet am_Pc_blind rfl rfl hRf hroom hpay List.mem_cons_self (fun a' U hW => word_at hW (good_of_word (hgood _ hini)) (hts _ hini))
  have hPc := am_Pc_at (as := as) hR hK
  have hrun : va_Run p l0 e R s m args below meth c H locs cells slots c1 n1 (F0 m pc ls ((as.reverse ++ rest).map (am_cv (am_ad b Hb.size)))) (rest.map (am_cv (am_ad b Hb.size))) (am_Qc D cl b Hb r S1 (as.map (am_cv (am_ad b Hb.size))).toArray) (fun q => Hb.size ≤ q) := by
    intro T hT X
    obtain ⟨v, vm₁, ⟨U', l2, c2, s2⟩, hW₁, X', ⟨g', mk, t, L, e1, e2, hq, h1, hL', h2, h3⟩, st⟩ := am_callSW X hx hown (hts _ hlk) (hts _ hst) (hts _ hini) hcode hmh hBk (g := F0 m pc ls ((as.reverse ++ rest).map (am_cv (am_ad b Hb.size)))) rfl hml.symm (argsL := as.map (am_cv (am_ad b Hb.size))) (rest := rest.map (am_cv (am_ad b Hb.size))) (fun sig h => by
        rw [h] at hpar
        rw [List.length_map]
        exact (Option.some.inj hpar).symm) (by rw [← List.map_reverse, ← List.map_append]) (by show 2 * 0 + _ ≤ 8; rw [am_words_cv]; omega) (by rw [hb]; exact hd)
      (fun vm₁ hW₁ => ⟨hcs, hss, hPc (T.setVm vm₁) hT hW₁⟩)
    dsimp only [Pt.U, Pt.locs, Pt.cells, Pt.slots] at X' e1 e2 h1 h2 h3 st
    subst h1; subst h2; subst h3
    exact ⟨v, (T.setVm vm₁).calling g' mk (as.map (am_cv (am_ad b Hb.size))).toArray, t, U', L, hT, X', hL', e1, e2, hq, st⟩
  exact am_back hrun hL kk
end AMW
