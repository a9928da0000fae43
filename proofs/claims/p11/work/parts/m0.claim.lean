/-! THE CLAIM OUT OF ONE WALK OF THE LAW'S BODY. Your part is whole_start (and what it stands on); all else here is the same for every law, but numbers. -/
def R_law : String := "EquationProofsLaw"
def lw_P (b : Addr) (xs : List Int32) (args : Array Value) (s : State) : Prop := args = #[.ref b] ∧ s.IntsAt b xs ∧ xs.length ≤ 3072 ∧ (Jvm.Cond.and given_1 narrow_1).before args s = true
def lw_Q (_ : Array Value) (s : State) (o : Outcome) (t : State) : Prop := o = .returned (some (.int 1)) ∧ Framed s o t [] 601024 7293033
def lw_Z (below : List Frame) (a : Array Value) (s : State) : State → Prop := fun t => ∃ o, t.status = .running ∧ Ended t below o ∧ lw_Q a s o t
/-- the law's own end, with 1 on the stack, nothing written that was there before, its room as the claim has it -/
theorem lw_ret {p : Program} {l : Launch} {e : Env} {s : State} {m : MethodId} {below : List Frame} {meth : Method} {c : Code} {b : Nat} (hx : p.tables.exec = Jvm.exec) (hb : c.code = code) (hr : meth.sig.returnType = ret) (hlocks : meth.locks = false) {pc : Nat} {H : Heap} {ls : Array Slot} (hdg : decode code pc = .ok (.ireturn, 1)) : W p l e room_1 s m #[Value.ref b] below meth c H [] 601024 7293033 (lw_Z below #[Value.ref b] s) (F0 m pc ls [.int 1]) := by
  intro T hT X
  obtain ⟨fs, hret, hrun, hended, hW, hframe⟩ := X.leave (v := some (.int 1)) (hlocks := hlocks) (fun h => by rw [hr] at h; cases h)
  have hmeth' : T.vm.method? m = some meth := X.method'
  refine ⟨T.setFrames fs, ?_, .returned (some (.int 1)), hrun, hended, rfl, ⟨_, rfl⟩, hW, hframe⟩
  jvm_step X.here [X.here.top, hx, hb, hdg, hmeth', hr, ret, narrow_b1]
  (try refine ⟨rfl, ?_⟩); (try refine ⟨rfl, ?_⟩)
  first | (intro acts; rw [hret _ acts rfl rfl rfl]) | rw [hret _ _ rfl rfl rfl]
  exact Steps.refl _
/-- what holds at the law's entry: the machine, the code, the tables' words (any of lw_tbl by 'hts w (by decide +kernel)'), the script of L ints xs at the cell b, what the Statement gives of the start (any of its parts by flat_of_before) -/
def lw_At (p : Program) (s : State) (m : MethodId) (meth : Method) (c : Code) (b L : Nat) (xs : Nat → Int32) : Prop :=
  p.tables.exec = Jvm.exec ∧ c.code = code ∧ meth.sig.returnType = ret ∧ c.maxLocals = 7 ∧ s.vm.findClass R_law = some m.cls ∧ (∀ w ∈ lw_tbl, w.before #[Value.ref b] s = true) ∧ va_X b L xs s s.heap ∧ b < s.heap.size ∧ meth.locks = false ∧ (Jvm.Cond.and given_1 narrow_1).before #[Value.ref b] s = true
set_option maxRecDepth 100000 in
set_option maxHeartbeats 2000000 in
/-- from the entry, for every script of at most 3072 ints, the law comes to its end with true -/
theorem whole_start {p : Program} {e : Env} {s : State} {m : MethodId} {below : List Frame} {meth : Method} {c : Code} (l : Launch) (hl0 : l.stackTraces = false) {b L : Nat} {xs : Nat → Int32} (hL : L ≤ 3072) (C0 : lw_At p s m meth c b L xs) (hnm : meth.name = "law") : W p l e room_1 s m #[Value.ref b] below meth c s.heap [] 0 0 (lw_Z below #[Value.ref b] s) (entryFrame m ([Value.ref b] : List Value).toArray 7) := by
  obtain ⟨hx, hb, hr, hml, hown, hts, hX, hbl, hlocks, hgv⟩ := C0
  have htT : ∀ w ∈ at_Ts, w.before #[Value.ref b] s = true := fun w hw => hts w (List.mem_filter.mp hw).1
  have htb : ∀ (i : Nat) (w : Cond), tables_1[i]? = some w → w.before #[Value.ref b] s = true := fun i w h => hts w (List.mem_append_right _ (List.mem_of_getElem? h))
  have hst : ∀ e : Env, l.admits e → e.platform.stackTraces = false := fun e he => by
    have h9 : e.platform.stackTraces = l.stackTraces := by rw [he.platform]
    rw [h9]
    exact hl0
  have hD : ∀ ci : Nat, ∃ q : ClassId × (Nat → Nat), ∀ r : vw_C, at_cl[ci]? = some r → u_Kn s r.1 r.2.1 r.2.2 q.1 q.2 := by
    intro ci
    cases hc : at_cl[ci]? with
    | none => exact ⟨(0, fun _ => 0), fun r h => by cases h⟩
    | some r0 =>
      obtain ⟨h1, -, -, h4, -⟩ := at_Fix.1 ci r0 hc
      obtain ⟨cC, iS, h⟩ := u_known htT h1 (htT _ h4)
      exact ⟨(cC, iS), fun r h9 => by cases h9; exact h⟩
  obtain ⟨F, hF⟩ := Classical.axiomOfChoice hD
  have hK : am_Kx (fun ci => (F ci).1, fun ci => (F ci).2) at_cl at_AO at_NL s := by
    refine ⟨⟨fun ci r h => hF ci r h, fun k q h => by cases h⟩, fun C hC => ?_, fun q hq => ?_⟩
    · unfold at_AO at hC
      simp only [List.mem_cons, List.not_mem_nil, or_false] at hC
      rcases hC with rfl | rfl | rfl
      · exact va_AO.of (htb 110 _ rfl)
      · exact va_AO.of (htb 330 _ rfl)
      · exact va_AO.of (htb 381 _ rfl)
    · unfold at_NL at hq
      simp only [List.mem_cons, List.not_mem_nil, or_false] at hq
      rcases hq with rfl | rfl
      · exact va_Nw.of rfl (htb 32 _ rfl)
      · exact va_Nw.of rfl (htb 112 _ rfl)
  have hgs := flat_of_before _ hgv
  obtain ⟨cE, hcE⟩ : ∃ cE, s.vm.findClass "EquationProofs" = some cE := ⟨_, (hF 0 _ rfl).2.1⟩
  have hdw : ∀ w ∈ am_dw, w.before #[] s = true := am_dw_moved (A := #[Value.ref b]) (Vm.Alike.refl _) (fun w hw => by
    unfold am_dw at hw
    simp only [List.mem_cons, List.not_mem_nil, or_false] at hw
    rcases hw with rfl | rfl | rfl | rfl | rfl
    · exact htb 1232 _ rfl
    · exact htb 1153 _ rfl
    · exact htb 1155 _ rfl
    · exact htb 1157 _ rfl
    · exact htb 1159 _ rfl)
  have hT2 : am_TX s.heap "EquationProofs" 89 "the tape has not so many bytes" s := by
    refine ⟨am_St.of (htb 1178 _ rfl) (hgs _ (by decide +kernel)), am_St.of (htb 1180 _ rfl) (hgs _ (by decide +kernel)), ?_, hdw⟩
    have h1 : (Cond.stringRef "EquationProofs" 89 "the tape has not so many bytes").before #[Value.ref b] s = true := htb 1239 _ rfl
    obtain ⟨-, -, -, a, -, -, -, -, -, hev⟩ := Cond.stringRef_spec hcE h1
    exact ⟨a, vk_R.of h1 hev⟩
  have hT1 : am_TX s.heap "EquationProofs" 79 "the tape has no room for twenty bytes more" s := by
    refine ⟨am_St.of (htb 1178 _ rfl) (hgs _ (by decide +kernel)), am_St.of (htb 1180 _ rfl) (hgs _ (by decide +kernel)), ?_, hdw⟩
    have h1 : (Cond.stringRef "EquationProofs" 79 "the tape has no room for twenty bytes more").before #[Value.ref b] s = true := htb 1191 _ rfl
    obtain ⟨-, -, -, a, -, -, -, -, -, hev⟩ := Cond.stringRef_spec hcE h1
    exact ⟨a, vk_R.of h1 hev⟩
  have hIn : am_In at_Ts (fun ci => (F ci).1, fun ci => (F ci).2) at_cl at_AO at_NL mt_law p s m #[Value.ref b] meth c := ⟨hx, hb, hml, hnm, hown, htT, hK⟩
  have hR : am_R (fun ci => (F ci).1, fun ci => (F ci).2) at_cl b s.heap (lwc L xs, 0, []) s s.heap := by
    refine ⟨hbl, rfl, fun q _ => rfl, ⟨L, xs, Or.inr ⟨_, rfl, fun j hj => lwc_fn hj⟩, hX⟩, fun k z x h => ?_⟩
    have := (am_nth_lt h).1
    exact absurd this (Nat.not_lt_zero _)
  have hl := lv_entry ([Value.ref 0].map (am_cv (am_ad b s.heap.size))) (n := 7) (Nat.le_of_ble_eq_true rfl)
  rw [am_args_cv] at hl
  rw [lg_entry_eq]
  have hend : ∀ (H1 : Heap) (locs1 : List Loc) (ls1 : Array Slot) (cells slots : Nat), cells ≤ room_1.cells → slots ≤ room_1.slots → (∀ q ∈ locs1, s.heap.size ≤ q.base) → W p l e room_1 s m #[Value.ref b] below meth c H1 locs1 cells slots (lw_Z below #[Value.ref b] s) (F0 m 965 ls1 [.int 1]) := by
    intro H1 locs1 ls1 cells slots k1 k2 hL1
    exact va_forget hL1 (W.widen k1 k2 (lw_ret hx hb hr hlocks (by decide +kernel)))
  have hA := lwW_ok (b := b) hst hT1 hT2 hIn (show 60 ≤ room_1.frames by decide) (show 3600 ≤ room_1.locals by decide) hend
  refine lw_enter (lwc L xs) p e room_1 s m #[Value.ref b] below meth c s.heap [] 0 0 (lw_Z below #[Value.ref b] s) _ hIn (by decide) (by decide) (by decide) (by decide) hR (fun q hq => by cases hq) hl ?_
  intro H1 locs1 ls1 hR1 hL1 hl1
  have hI0 : LI xs L (lwc L xs, s8) H0 := ⟨H0_zR _, H0_Inv, ⟨H0_GI, H0_LX⟩, H0_tape.1.trans H0_tape.2.symm, rfl, Nat.le_refl _, 1, [], s8_at (by decide +kernel) _⟩
  have hW := lw_loop hA hL (L / 6) 0 1899 275997 (lwc L xs, s8) H0 hI0 (by omega) (by omega) (by show 1899 + L / 6 ≤ 601024; omega) (by show 275997 + 6 * (L / 6) ≤ 7293033; omega)
  exact hW H1 locs1 ls1 (by decide) (by decide) hR1 hL1 hl1
set_option maxHeartbeats 4000000 in
theorem lw_walk (l : Launch) (hl0 : l.stackTraces = false) (b : Addr) (xs : List Int32) : MetFree l x (headSpec (Jvm.Cond.code x code maxLocals ret :: tables_1) room_1) (lw_P b xs) (fun _ _ _ _ _ => True) lw_Q := by
  refine MetFree.of_bodyS (code := code) (maxLocals := maxLocals) (ret := ret) (by decide) ?_ ?_
  · intro args s m h hn
    obtain ⟨meth, c, h1, h2, h3, h4, h5, h6, -, -⟩ := Cond.code_spec hn (atoms_spec (ws := Jvm.Cond.code x code maxLocals ret :: tables_1) h _ List.mem_cons_self)
    exact ⟨meth, c, h1, h2, h3, h4, h5, h6⟩
  · intro p e s m args below meth c s₁ B hml0 hP _
    obtain ⟨rfl, hx, hbd, hgv⟩ := hP
    obtain ⟨scr, harrAt, hlist, hof, hsmall⟩ := hx
    obtain ⟨hcb, hkn, -, -⟩ := State.arrayAt?_spec harrAt
    have hown : s.vm.findClass R_law = some m.cls := findClass_of_methodNamed B.named
    have hts0 : ∀ c ∈ (Jvm.Cond.code x code maxLocals ret :: tables_1), c.before #[Value.ref b] s = true := atoms_spec (ws := Jvm.Cond.code x code maxLocals ret :: tables_1) B.pre
    have hts : ∀ w ∈ lw_tbl, w.before #[Value.ref b] s = true := k2_hts_sels lw_privs (fun w hw => hts0 w (List.mem_cons_of_mem _ hw)) lw_privs_ok
    have hml : c.maxLocals = 7 := B.maxLocals_eq (hts0 _ List.mem_cons_self)
    have X₀ : Stand p l e room_1 s m #[Value.ref b] below meth c s₁ [] 0 0 := Stand.of_body B
    have hh0 : s₁.heap = s.heap := by rw [B.state]; rfl
    have hsz : scr.slots.size = xs.length := by rw [← Array.length_toList, hlist, List.length_map]
    have hval : ∀ j : Nat, j < xs.length → scr.slots[j]? = some (.int (xs.getD j 0)) := fun j hj => by
      rw [← Array.getElem?_toList, hlist]
      simp [hj]
    have hbl : b < s.heap.size := (Array.getElem?_eq_some_iff.mp hcb).1
    have hX : va_X b xs.length (fun j => xs.getD j 0) s s.heap := ⟨scr, hcb, hof, hkn, hsz, hval⟩
    have K : W p l e room_1 s m #[Value.ref b] below meth c s₁.heap [] 0 0 (lw_Z below #[Value.ref b] s) (entryFrame m ([Value.ref b] : List Value).toArray 7) := by
      rw [hh0]
      exact whole_start l hl0 hbd ⟨B.exec, B.bytes, B.returns, hml, hown, hts, hX, hbl, B.notSynchronized, hgv⟩ (name_of_methodNamed B.named B.method).1
    obtain ⟨t, a1, o, b1, b2, b3⟩ := K s₁ rfl X₀
    exact ⟨t, o, a1, b1, b2, b3⟩
theorem lw_pre_spec {args : Array Value} {s : State} (h : (Jvm.Cond.and given_1 narrow_1).before args s = true) (hr : rest_1_c.before args s = true) : ∃ (b : Addr) (xs : List Int32), lw_P b xs args s := by
  have hs := flat_of_before _ h
  have hq := flat_of_before _ hr
  have hc : (Cond.count 1).before args s = true := hs _ (by decide +kernel)
  have harr : (Cond.arrayOf (.arg 0) .int).before args s = true := hs _ (by decide +kernel)
  have hle : (Cond.le (.length (.arg 0)) (.int 3072)).before args s = true := hs _ (by decide +kernel)
  have hlen : (Cond.isInt (.length (.arg 0))).before args s = true := hq _ (by decide +kernel)
  have hall : (Cond.all (.arg 0) (.isInt (.elem (.arg 0) (.index 0)))).before args s = true := hq _ (by decide +kernel)
  obtain ⟨b, xs, hb, hx⟩ := State.ints_of_pre rfl harr hlen hall
  have hsm : xs.length < 2 ^ 31 := hx.choose_spec.2.2.2
  have hev : (Term.length (.arg 0)).eval args s none [] s = some (.int xs.length.toInt32) := hx.length_eval hb
  have hv := Cond.le_ints hev (show (Term.int 3072).eval args s none [] s = some (.int 3072) from rfl)
  have hd : xs.length.toInt32 ≤ 3072 := by
    simpa [Cond.before, Cond.holds, hv] using hle
  have hN : xs.length ≤ 3072 := (Int32.ofNat_le_ofNat hsm (by decide)).mp (show Int32.ofNat xs.length ≤ Int32.ofNat 3072 from hd)
  exact ⟨b, xs, Cond.one_arg hc (show args[0]? = some (.ref b) from hb), hx, hN, h⟩
theorem lw_comes (l : Launch) (hl0 : l.stackTraces = false) : Comes l x (Jvm.Cond.code x code maxLocals ret :: tables_1) room_1 (fun tb e args s => Calls_1 tb e args s ∧ rest_1 tb e args s ∧ Pre_1 tb e args s)
    (fun _ _ args s o t => lw_Q args s o t) := by
  intro p e ha hc hk s m args below hf hfit hheap happ hpre
  obtain ⟨b, xs, hP⟩ := lw_pre_spec hpre.2.2 hpre.2.1
  obtain ⟨k, o, h1, h2, h3, hQ⟩ := lw_walk l hl0 b xs p e ha hc hk s m args below hf ((Spec.applies_iff_loose hf).mp happ).1 hP trivial
  exact ⟨k, o, h1, h2, h3, hQ⟩
theorem lw_frame {s t : State} {o : Outcome} {args : Array Value} (h : Framed s o t [] 601024 7293033) :
    Framed s o t (fieldLocs frame_1_writes args s ++ arrayLocs frame_1_arrays args s ++ staticLocs frame_1_statics s) 601024 7293033 := h
theorem lw_limb (L : Cond) (hL : ∀ (args : Array Value) (s t : State), L.after args s (.returned (some (.int 1))) t = true) :
    ArmFor flags0 classFile x code maxLocals ret World_1 tables_1 room_1 Calls_1 rest_1 Pre_1
      (fun tb e a s o t => postC L tb e a s o t ∧ Framed s o t (fieldLocs frame_1_writes a s ++ arrayLocs frame_1_arrays a s ++ staticLocs frame_1_statics s) 601024 7293033) := by
  intro l hfl _ _ p e ha hc hk s m args below hf hfit hheap happ hpre
  obtain ⟨k, o, h1, h2, h3, rfl, hF⟩ := lw_comes l (by unfold Launch.stackTraces; rw [hfl]; decide +kernel) p e ha hc hk s m args below hf hfit hheap happ hpre
  exact ⟨k, _, h1, h2, h3, hL args s _, lw_frame hF⟩
theorem i_vc : Claimed_1_1 ∧ Claimed_1_2 := ⟨lw_limb limb_1_1 (fun args s t => by simp [limb_1_1, Cond.after, Cond.holds, Cond.value]), lw_limb limb_1_2 (fun args s t => Cond.after_iff.mpr (by
  first | (rw [show limb_1_2 = Cond.eq .result (.int 1) from rfl, Cond.eq_ints (x := 1) (y := 1) rfl rfl]; simp; done) | (simp [limb_1_2, Cond.value, Term.eval]; done)))⟩
