/-! the methods: what a program decides of them -/
def at_AO : List String := ["EquationProofs$Equation", "EquationProofs$Term", "EquationProofs$Goal"]
def at_NL : am_NL := [("EquationProofs", 9, ⟨"EquationProofs$Tape", "<init>", "()V"⟩, "EquationProofs"), ("EquationProofs$Program", 35, ⟨"EquationProofs$Equation", "<init>", "()V"⟩, "EquationProofs")]
def at_nm (N : List MethodName) : Nat → MethodName
  | 0 => Lib.objectInit
  | 1 => Lib.Math.max.name
  | 2 => Lib.Math.min.name
  | 3 => arraycopyName
  | j + 4 => N.getD j Lib.objectInit
def at_fw (own : String) (q : Nat × Nat × Nat) : Cond := match at_cl[q.2.1]? with
  | some r => .fieldLink own q.1 (r.2.1 q.2.2).1 (r.2.1 q.2.2).2.1 (r.2.1 q.2.2).2.2.1
  | none => .fieldLink own q.1 "" "" ""
def at_nw (own : String) (q : Nat × Nat) : Cond := match at_cl[q.2]? with
  | some r => .classLink own q.1 r.1
  | none => .classLink own q.1 ""
def at_okF (q : Nat × Nat × Nat) : Bool := match at_cl[q.2.1]? with
  | some r => decide (q.2.2 < r.2.2)
  | none => false
def at_okP (own name : String) (q : Nat × Nat × Nat) : Bool := match at_cl[q.2.1]? with
  | some r => !(r.2.1 q.2.2).2.2.2 || (decide (name = "<init>") && decide ((r.2.1 q.2.2).1 = own))
  | none => false
def at_ps (ws : List Cond) (ps : List Nat) : Bool := decide (ws = ps.filterMap (fun i => tables_1[i]?)) && ws.all goodWord
def at_okT (own name : String) (T : am_T) (pG pP pN pA pK : List Nat) : Bool :=
  at_ps (T.1.map (at_fw own)) pG && (T.1.all at_okF && (at_ps (T.2.1.map (at_fw own)) pP && (T.2.1.all at_okF && (T.2.1.all (at_okP own name) && (at_ps (T.2.2.1.map (at_nw own)) pN && (T.2.2.1.all (fun q => (at_cl[q.2]?).isSome) &&
  (at_ps (T.2.2.2.1.map (fun q => Cond.classLink own q.1 q.2)) pA && (T.2.2.2.1.all (fun q => decide (q.2 ∈ at_AO)) && at_ps (T.2.2.2.2.1.map (fun q => am_cst own q.1 q.2)) pK))))))))
theorem at_ps_of {ws : List Cond} {ps : List Nat} (h : at_ps ws ps = true) : ∀ w ∈ ws, w ∈ at_Ts := by
  unfold at_ps at h
  simp only [Bool.and_eq_true, decide_eq_true_eq] at h
  exact at_pos ps h.1 h.2
theorem at_fw_of {own : String} {l : List (Nat × Nat × Nat)} {ps : List Nat} (h : at_ps (l.map (at_fw own)) ps = true) (h2 : l.all at_okF = true) : ∀ q ∈ l, ∃ r : vw_C, at_cl[q.2.1]? = some r ∧ q.2.2 < r.2.2 ∧ Cond.fieldLink own q.1 (r.2.1 q.2.2).1 (r.2.1 q.2.2).2.1 (r.2.1 q.2.2).2.2.1 ∈ at_Ts := by
  intro q hq
  have h3 := at_ps_of h _ (List.mem_map.mpr ⟨q, hq, rfl⟩)
  have h4 := List.all_eq_true.mp h2 q hq
  unfold at_okF at h4
  unfold at_fw at h3
  split at h4
  · rename_i r hr
    rw [hr] at h3
    exact ⟨r, hr, of_decide_eq_true h4, h3⟩
  · cases h4
theorem at_okT_of {own name : String} {T : am_T} {pG pP pN pA pK : List Nat} (h : at_okT own name T pG pP pN pA pK = true) : am_Tok at_Ts at_cl at_AO own name T := by
  unfold at_okT at h
  simp only [Bool.and_eq_true] at h
  obtain ⟨h1, h2, h3, h4, h5, h6, h7, h8, h9, h10⟩ := h
  refine ⟨at_fw_of h1 h2, fun q hq => ?_, fun q hq => ?_, fun q hq => ?_, fun q hq => ?_⟩
  · obtain ⟨r, e1, e2, e3⟩ := at_fw_of h3 h4 q hq
    refine ⟨r, e1, e2, e3, ?_⟩
    have e4 := List.all_eq_true.mp h5 q hq
    unfold at_okP at e4
    rw [e1] at e4
    simp only [Bool.or_eq_true, Bool.and_eq_true, decide_eq_true_eq, Bool.not_eq_true'] at e4
    exact e4
  · have e1 := List.all_eq_true.mp h7 q hq
    obtain ⟨r, hr⟩ := Option.isSome_iff_exists.mp e1
    have e2 := at_ps_of h6 _ (List.mem_map.mpr ⟨q, hq, rfl⟩)
    unfold at_nw at e2
    rw [hr] at e2
    exact ⟨r, hr, e2⟩
  · exact ⟨at_ps_of h8 _ (List.mem_map.mpr ⟨q, hq, rfl⟩), of_decide_eq_true (List.all_eq_true.mp h9 q hq)⟩
  · exact at_ps_of h10 _ (List.mem_map.mpr ⟨q, hq, rfl⟩)
/-- a call's entry: its word at a place of the tables, or one of the nest's -/
def at_okC (N : List MethodName) (X : List Nat) (own : String) (x : (Nat × Nat) × Nat) : Bool := decide (tables_1[x.2]? = some (Cond.methodLink own x.1.1 (at_nm N x.1.2))) || (decide (4 ≤ x.1.2) && (decide (X.getD (x.1.2 - 4) 0 = 2000) && decide ((own, x.1.1, at_nm N x.1.2, "EquationProofs") ∈ at_NL)))
def at_okD (M : am_M) : Bool := M.2.2.2.2.2.1.all (fun q => decide (decode M.2.1 q.1 = .ok (q.2.1, q.2.2)))
theorem at_body {P : List am_M} {N : List MethodName} {X : List Nat} (hN : P.map (fun M => M.1) = N) (hX : P.map (fun M => M.2.2.2.2.2.2.2) = X) {M : am_M} {pG pP pN pA pK pC : List Nat} (hT : at_okT M.1.cls M.1.name M.2.2.2.2.1 pG pP pN pA pK = true) (hD : at_okD M = true) (hl : M.2.2.2.2.1.2.2.2.2.2.length = pC.length) (hC : (M.2.2.2.2.1.2.2.2.2.2.zip pC).all (at_okC N X M.1.cls) = true) : am_Body at_Ts P at_cl at_AO at_NL M := by
  refine ⟨at_okT_of hT, fun q hq => of_decide_eq_true (List.all_eq_true.mp hD q hq), fun q hq => ?_⟩
  obtain ⟨i, hi⟩ := List.getElem?_of_mem hq
  have hi2 : i < pC.length := by
    rw [← hl]
    exact (List.getElem?_eq_some_iff.mp hi).1
  have hz : (q, pC[i]) ∈ M.2.2.2.2.1.2.2.2.2.2.zip pC := by
    refine List.mem_of_getElem? (i := i) ?_
    rw [List.getElem?_zip_eq_some]
    exact ⟨hi, List.getElem?_eq_getElem hi2⟩
  have h1 := List.all_eq_true.mp hC _ hz
  unfold at_okC at h1
  simp only [Bool.or_eq_true, Bool.and_eq_true, decide_eq_true_eq] at h1
  rcases h1 with h1 | ⟨h1, h2, h3⟩
  · have h4 : Cond.methodLink M.1.cls q.1 (at_nm N q.2) ∈ at_Ts := at_in (List.mem_of_getElem? h1) rfl
    refine ⟨fun e => ?_, fun e => ?_, fun e => ?_, fun e => ?_, fun M' e h5 => Or.inl ?_⟩
    · rw [e] at h4; exact h4
    · rw [e] at h4; exact h4
    · rw [e] at h4; exact h4
    · rw [e] at h4; exact h4
    · obtain ⟨j, hj⟩ : ∃ j, q.2 = j + 4 := ⟨q.2 - 4, by omega⟩
      rw [hj] at h4 h5
      have h6 : N[j]? = some M'.1 := by
        rw [← hN, List.getElem?_map, show j = j + 4 - 4 by omega, h5]
        rfl
      have h7 : at_nm N (j + 4) = M'.1 := by
        show N.getD j _ = _
        rw [List.getD_eq_getElem?_getD, h6]
        rfl
      rw [h7] at h4
      exact h4
  · refine ⟨fun e => ?_, fun e => ?_, fun e => ?_, fun e => ?_, fun M' e h5 => Or.inr ⟨"EquationProofs", ?_, ?_⟩⟩
    · omega
    · omega
    · omega
    · omega
    · obtain ⟨j, hj⟩ : ∃ j, q.2 = j + 4 := ⟨q.2 - 4, by omega⟩
      rw [hj] at h3 h5
      have h6 : N[j]? = some M'.1 := by
        rw [← hN, List.getElem?_map, show j = j + 4 - 4 by omega, h5]
        rfl
      have h7 : at_nm N (j + 4) = M'.1 := by
        show N.getD j _ = _
        rw [List.getD_eq_getElem?_getD, h6]
        rfl
      rw [h7] at h3
      exact h3
    · have h6 : X[q.2 - 4]? = some M'.2.2.2.2.2.2.2 := by
        rw [← hX, List.getElem?_map, h5]
        rfl
      rw [List.getD_eq_getElem?_getD, h6] at h2
      exact h2
/-- what a callee must be: places of its words; selects of a private one: its place among those -/
def at_okM (KL : Nat) (M : am_M) (pc pi ps pn pl pv : Nat) : Bool :=
  plainName M.1.cls && (true && (decide (tables_1[pi]? = some (Cond.initialized M.1.cls)) && (decide (M.1.cls ≠ "java/lang/invoke/MethodHandle" ∧ M.1.cls ≠ "java/lang/invoke/VarHandle") && (decide ((parseMethodDescriptor M.1.desc).map (fun d => d.parameters.length) = some M.2.2.2.2.2.2.1) && (decide (19 + M.2.2.1 ≤ KL) &&
  (goodWord (Cond.code M.1 M.2.1 M.2.2.1 M.2.2.2.1) && (goodWord (Cond.initialized M.1.cls) &&
  (if M.2.2.2.2.2.2.2 = 1000 then decide (tables_1[ps]? = some (Cond.static M.1)) && goodWord (Cond.static M.1) else
   if M.2.2.2.2.2.2.2 = 2000 then decide (M.1.name = "<init>") && (decide (tables_1[pn]? = some (Cond.instanceMethod M.1)) && (goodWord (Cond.instanceMethod M.1) && decide (M.2.2.2.1 = none))) else
   (match at_cl[M.2.2.2.2.2.2.2]? with
    | some r => decide (r.1 = M.1.cls) && (decide (tables_1[pn]? = some (Cond.instanceMethod M.1)) && (goodWord (Cond.instanceMethod M.1) && (goodWord (Cond.selects M.1.cls M.1 M.1) && (decide (tables_1[pl]? = some (Cond.selects M.1.cls M.1 M.1)) || decide ((lw_privs[pv]?).map (fun q => q.1) = some M.1)))))
    | none => false)))))))))
theorem at_sel {y : MethodName} {pv : Nat} (h : (lw_privs[pv]?).map (fun q => q.1) = some y) (g : goodWord (Cond.selects y.cls y y) = true) : Cond.selects y.cls y y ∈ at_Ts := by
  refine List.mem_filter.mpr ⟨List.mem_append_left _ ?_, g⟩
  obtain ⟨q, hq, e⟩ := Option.map_eq_some_iff.mp h
  refine List.mem_map.mpr ⟨q, List.mem_of_getElem? hq, ?_⟩
  rw [e]
theorem at_call {KL : Nat} {M : am_M} {pc pi ps pn pl pv : Nat} (h2 : Cond.code M.1 M.2.1 M.2.2.1 M.2.2.2.1 ∈ tables_1) (h : at_okM KL M pc pi ps pn pl pv = true) : am_Call at_Ts at_cl KL M := by
  unfold at_okM at h
  simp only [Bool.and_eq_true, decide_eq_true_eq] at h
  obtain ⟨h1, -, h3, h4, h5, h6, h7, h8, h9⟩ := h
  refine ⟨h1, at_in h2 h7, at_at pi h3 h8, h4, h5, h6, fun e => ?_, fun e => ?_, fun r hr => ?_⟩
  · rw [if_pos e] at h9
    simp only [Bool.and_eq_true, decide_eq_true_eq] at h9
    exact at_at ps h9.1 h9.2
  · rw [if_neg (by rw [e]; decide), if_pos e] at h9
    simp only [Bool.and_eq_true, decide_eq_true_eq] at h9
    exact ⟨h9.1, at_at pn h9.2.1 h9.2.2.1, h9.2.2.2⟩
  · have hlt : M.2.2.2.2.2.2.2 < at_cl.length := (List.getElem?_eq_some_iff.mp hr).1
    have hL : at_cl.length = 14 := rfl
    rw [if_neg (by omega), if_neg (by omega), hr] at h9
    simp only [Bool.and_eq_true, Bool.or_eq_true, decide_eq_true_eq] at h9
    obtain ⟨e1, e2, e3, e4, e5⟩ := h9
    refine ⟨e1, at_at pn e2 e3, ?_⟩
    rcases e5 with e5 | e5
    · exact at_at pl e5 e4
    · exact at_sel e5 e4
