/-! WHAT A RUN OF THE SMALL MACHINE IS ON THE JVM's MACHINE -/
/-- names of classes whose arrays are made, links of nest mates: what the tables say of them -/
abbrev am_NL : Type := List (String × Nat × MethodName × String)
def am_Kx (D : va_G) (cl : List vw_C) (AO : List String) (NL : am_NL) (s : State) : Prop := va_K D cl [] s ∧ (∀ C ∈ AO, va_AO C s) ∧ ∀ q ∈ NL, va_Nw (.methodLinkNest q.1 q.2.1 q.2.2.1 q.2.2.2) s
theorem am_Kx.warm {D : va_G} {cl : List vw_C} {AO : List String} {NL : am_NL} {s U : State} (hW : s.WarmedH U.vm) (h : am_Kx D cl AO NL s) : am_Kx D cl AO NL U := ⟨va_K.moved hW.alike h.1, fun C hC => va_AO.moved hW.alike (h.2.1 C hC), fun q hq => va_Nw.warmM hW (h.2.2 q hq)⟩
/-- what the tables say of a method's body -/
def am_Body (Ts : List Cond) (P : List am_M) (cl : List vw_C) (AO : List String) (NL : am_NL) (M : am_M) : Prop :=
  am_Tok Ts cl AO M.1.cls M.1.name M.2.2.2.2.1 ∧ (∀ q ∈ M.2.2.2.2.2.1, decode M.2.1 q.1 = .ok (q.2.1, q.2.2)) ∧
  (∀ q ∈ M.2.2.2.2.1.2.2.2.2.2, (q.2 = 0 → Cond.methodLink M.1.cls q.1 Lib.objectInit ∈ Ts) ∧ (q.2 = 1 → Cond.methodLink M.1.cls q.1 Lib.Math.max.name ∈ Ts) ∧ (q.2 = 2 → Cond.methodLink M.1.cls q.1 Lib.Math.min.name ∈ Ts) ∧ (q.2 = 3 → Cond.methodLink M.1.cls q.1 arraycopyName ∈ Ts) ∧
    (∀ M', 4 ≤ q.2 → P[q.2 - 4]? = some M' → Cond.methodLink M.1.cls q.1 M'.1 ∈ Ts ∨ ∃ host, (M.1.cls, q.1, M'.1, host) ∈ NL ∧ M'.2.2.2.2.2.2.2 = 2000))
/-- .. and of it as one that is called -/
def am_Call (Ts : List Cond) (cl : List vw_C) (KL : Nat) (M : am_M) : Prop :=
  plainName M.1.cls = true ∧ Cond.code M.1 M.2.1 M.2.2.1 M.2.2.2.1 ∈ Ts ∧ Cond.initialized M.1.cls ∈ Ts ∧ (M.1.cls ≠ "java/lang/invoke/MethodHandle" ∧ M.1.cls ≠ "java/lang/invoke/VarHandle") ∧
  (parseMethodDescriptor M.1.desc).map (fun d => d.parameters.length) = some M.2.2.2.2.2.2.1 ∧ 19 + M.2.2.1 ≤ KL ∧
  (M.2.2.2.2.2.2.2 = 1000 → Cond.static M.1 ∈ Ts) ∧ (M.2.2.2.2.2.2.2 = 2000 → M.1.name = "<init>" ∧ Cond.instanceMethod M.1 ∈ Ts ∧ M.2.2.2.1 = none) ∧
  (∀ r : vw_C, cl[M.2.2.2.2.2.2.2]? = some r → r.1 = M.1.cls ∧ Cond.instanceMethod M.1 ∈ Ts ∧ Cond.selects M.1.cls M.1 M.1 ∈ Ts)
/-- the tables, whole -/
def am_Fix (Ts : List Cond) (P : List am_M) (cl : List vw_C) (tyL : List (List FieldType)) (AO : List String) (NL : am_NL) (KL : Nat) : Prop :=
  am_Cls Ts cl tyL ∧ (∀ t : ArrayType, (t = .int ∨ t = .long ∨ t = .byte ∨ t = .boolean) → Cond.arrayClass (newarray.typeOf t) ∈ Ts) ∧ (∀ w ∈ Ts, goodWord w = true) ∧
  (Cond.instanceMethod Lib.objectInit ∈ Ts ∧ Cond.code Lib.objectInit ⟨#[0xb1]⟩ 1 none ∈ Ts) ∧
  (Cond.static Lib.Math.max.name ∈ Ts ∧ Cond.initialized "java/lang/Math" ∈ Ts ∧ Cond.code Lib.Math.max.name Lib.Math.max.code 2 (some .int) ∈ Ts) ∧
  (Cond.static Lib.Math.min.name ∈ Ts ∧ Cond.code Lib.Math.min.name Lib.Math.min.code 2 (some .int) ∈ Ts) ∧
  (Cond.native arraycopyName ∈ Ts ∧ Cond.static arraycopyName ∈ Ts ∧ Cond.initialized "java/lang/System" ∈ Ts) ∧ (26 ≤ KL ∧ cl.length ≤ 1000) ∧
  ∀ M ∈ P, am_Body Ts P cl AO NL M ∧ am_Call Ts cl KL M
def am_rm (KL d mc ms : Nat) : Room := { frames := d, cells := mc, slots := ms, locals := d * KL }
def am_Pc (D : va_G) (cl : List vw_C) (b : Nat) (Hb : Heap) (AO : List String) (NL : am_NL) (as : List Value) (S : am_S) : Array Value → State → Prop := fun a U => a = (as.map (am_cv (am_ad b Hb.size))).toArray ∧ am_R D cl b Hb S U U.heap ∧ am_Kx D cl AO NL U
def am_Qc (D : va_G) (cl : List vw_C) (b : Nat) (Hb : Heap) (r : Option Value) (S : am_S) : Array Value → State → Outcome → State → Prop := fun _ _ o t => o = .returned (r.map (am_cv (am_ad b Hb.size))) ∧ am_R D cl b Hb S t t.heap
theorem am_sl_len : ∀ vs : List Value, (lg_sl vs).length = am_words vs
  | [] => rfl
  | v :: vs => by
    have h := am_sl_len vs
    unfold lg_sl am_words at *
    rw [List.flatMap_cons, List.length_append, h, List.map_cons, List.sum_cons]
    congr 1
    by_cases hv : v.category = 2
    · rw [if_pos hv, hv]; rfl
    · rw [if_neg hv]
      rcases lv_cat v with q | q
      · rw [q]; rfl
      · exact absurd q hv
section AMZ
variable {p : Program} {l0 : Launch} {e : Env} {R : Room} {s : State} {m : MethodId} {args : Array Value} {below : List Frame} {meth : Method} {c : Code} {H : Heap} {locs : List Loc} {cells slots : Nat} {Q : State → Prop}
variable {cc : ByteArray} {pc : Nat} {ls : Array Slot} {D : va_G} {cl : List vw_C} {tyL : List (List FieldType)} {b : Nat} {Hb : Heap} {S : am_S} {own : String} {Ts : List Cond} {AO : List String} {NL : am_NL} {KL : Nat} {P : List am_M}
/-- a method's end -/
theorem am_end {ad : Nat → Nat} {Qc : Array Value → State → Outcome → State → Prop} {free : Addr → Prop} {ret : Option FieldType} {ins : Instr} {len : Nat} {st : List Value} {r : Option Value} (hx : p.tables.exec = Jvm.exec) (hb : c.code = cc) (hr : meth.sig.returnType = ret) (hlocks : meth.locks = false) (hd : decode cc pc = .ok (ins, len)) (h : am_ret ret ins len st = some r) (hq : ∀ t : State, t.heap = H → s.WarmedH t.vm → Qc args s (.returned (r.map (am_cv ad))) t) (hf : ∀ q ∈ locs, free q.base) : W p l0 e R s m args below meth c H locs cells slots (MQ below Qc args s cells slots free) (F0 m pc ls (st.map (am_cv ad))) := by
  unfold am_ret at h
  split at h
  · split at h
    · cases h
      exact W.iret hx hb hr hq hf hd
    · split at h
      · rename_i x _ hc
        cases h
        exact W.zret (v := x) hx hb hr (by rcases hc with q | q <;> subst q <;> decide) hq hf hd
      · cases h
    · cases h
  · split at h
    · cases h
      exact W.lret hx hb hr hq hf hd
    · cases h
  · split at h
    · rename_i a _ n
      cases h
      exact W.aret (v := .ref (ad a)) hx hb hr (Or.inl ⟨_, rfl⟩) (Or.inr ⟨_, rfl⟩) hq hf hd
    · cases h
  · split at h
    · cases h
      exact W.vret hx hb hr hq hf hd
    · cases h
  · cases h
set_option maxHeartbeats 1000000 in
/-- a call of the JDK's -/
theorem am_lib_ok (hF : am_Fix Ts P cl tyL AO NL KL) (hx : p.tables.exec = Jvm.exec) (hb : c.code = cc) (hml : c.maxLocals = ls.size) (hts : ∀ w ∈ Ts, w.before args s = true) (hown : s.vm.findClass own = some m.cls) {d : Nat} (hRf : d + 1 ≤ R.frames) (hRl : (d + 1) * KL ≤ R.locals) (hcs : cells ≤ R.cells) (hss : slots ≤ R.slots) (hR : am_R D cl b Hb S s H) (hL : ∀ q ∈ locs, Hb.size ≤ q.base) {i j : Nat} (hl0 : j = 0 → Cond.methodLink own i Lib.objectInit ∈ Ts) (hl1 : j = 1 → Cond.methodLink own i Lib.Math.max.name ∈ Ts) (hl2 : j = 2 → Cond.methodLink own i Lib.Math.min.name ∈ Ts) (hl3 : j = 3 → Cond.methodLink own i arraycopyName ∈ Ts) {ins : Instr} {st st' : List Value} {S' : am_S} (hi : am_cix ins 3 = some i) (hd : decode cc pc = .ok (ins, 3)) (h : am_lib j ins st S = some (st', S'))
    (kk : ∀ (H1 : Heap) (locs1 : List Loc), am_R D cl b Hb S' s H1 → (∀ q ∈ locs1, Hb.size ≤ q.base) → W p l0 e R s m args below meth c H1 locs1 cells slots Q (F0 m (pc + 3) ls (st'.map (am_cv (am_ad b Hb.size))))) : W p l0 e R s m args below meth c H locs cells slots Q (F0 m pc ls (st.map (am_cv (am_ad b Hb.size)))) := by
  obtain ⟨-, -, -, hO, hMx, hMn, hCp, ⟨hKL, -⟩, -⟩ := hF
  have hloc : 26 ≤ R.locals := by
    have : KL ≤ (d + 1) * KL := Nat.le_mul_of_pos_left KL (Nat.succ_pos d)
    omega
  unfold am_lib at h
  split at h
  · split at h
    · rename_i hw
      cases h
      cases hi
      exact W.objInit hx hb hown (hts _ (hl0 rfl)) (hts _ hO.1) (hts _ hO.2) rfl hml.symm rfl hd (by omega) (by show 2 * 0 + _ + 12 ≤ _; rw [am_words_cv]; omega) (kk _ _ hR hL)
    · cases h
  · split at h
    · rename_i hw
      cases h
      cases hi
      exact va_mmax hx hb hml hown (hts _ (hl1 rfl)) (hts _ hMx.1) (hts _ hMx.2.1) (hts _ hMx.2.2) (by omega) (by rw [am_words_cv]; omega) hcs hss hd (kk _ _ hR hL)
    · cases h
  · split at h
    · rename_i hw
      cases h
      cases hi
      exact va_mmin hx hb hml hown (hts _ (hl2 rfl)) (hts _ hMn.1) (hts _ hMx.2.1) (hts _ hMn.2) (by omega) (by rw [am_words_cv]; omega) hcs hss hd (kk _ _ hR hL)
    · cases h
  · split at h
    · rename_i h0 h1
      split at h
      · rename_i hc
        obtain ⟨hw, c1, c2, c3, c4, c5, c6⟩ := hc
        cases h
        cases hi
        have hnf : nativeFrameWords "java/lang/System" "arraycopy" 5 = 7 := by decide +kernel
        have hfr : 1 ≤ R.frames := by omega
        refine am_copy_ok hx hb hts hml hown (hl3 rfl) hCp.1 hCp.2.1 hCp.2.2 hR hL h0 h1 c1 c2 c3 c4 c5 (fun q hq => ?_) hfr (by rw [am_words_cv, hnf]; omega) hd kk
        have h9 := List.all_eq_true.mp c6 q (List.mem_range.mpr hq)
        split at h9
        · rename_i x hx9
          exact ⟨x, hx9⟩
        · cases h9
      · cases h
    · cases h
  · cases h
end AMZ
