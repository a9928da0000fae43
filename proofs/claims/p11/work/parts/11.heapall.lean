/-! all steps on the store, in one -/
def am_heap (cl : List vw_C) (tyL : List (List FieldType)) (T : am_T) (ins : Instr) (len pc : Nat) (st : List Value) (S : am_S) : Option (Nat × List Value × am_S × Nat × Nat) := match ins, len, st with
  | .getfield i, 3, .ref a :: st => match am_find i T.1 with
    | some (ci, k) => (am_getf S a ci k).map fun v => (pc + 3, v :: st, S, 0, 0)
    | none => none
  | .putfield i, 3, v :: .ref a :: st => match am_find i T.2.1 with
    | some (ci, k) => (match am_nth S a with
      | some (z, some (.inr (cj, fs))) => (match tyL[ci]? with
        | some tys => if cj = ci ∧ am_okv (tys.getD k .int) v = true then some (pc + 3, st, am_set S a (z, some (.inr (cj, fs.set k v))), 0, 0) else none
        | none => none)
      | _ => none)
    | none => none
  | .new i, 3, st => match am_find i T.2.2.1 with
    | some ci => (tyL[ci]?).map fun tys => (pc + 3, .ref (am_len S) :: st, am_add S (tys.length, some (.inr (ci, tys.map defaultValue))), 1, tys.length)
    | none => none
  | .newarray t, 2, .int n :: st => if n < 0 ∨ 536870912 < n.toNatClampNeg * componentBytes (newarray.typeOf t) then none else if t = .int ∨ t = .long ∨ t = .byte ∨ t = .boolean then some (pc + 2, .ref (am_len S) :: st, am_add S (n.toNatClampNeg, some (.inl (newarray.typeOf t, n.toNatClampNeg, defaultValue (newarray.typeOf t), []))), 1, n.toNatClampNeg) else none
  | .anewarray i, 3, .int n :: st => match am_find i T.2.2.2.1 with
    | some C => if n < 0 ∨ 536870912 < n.toNatClampNeg * 4 then none else some (pc + 3, .ref (am_len S) :: st, am_add S (n.toNatClampNeg, some (.inl (.object C, n.toNatClampNeg, .null, []))), 1, n.toNatClampNeg)
    | none => none
  | .iaload, 1, .int i :: .ref a :: st => (am_geta S a i .int).map fun v => (pc + 1, v :: st, S, 0, 0)
  | .laload, 1, .int i :: .ref a :: st => (am_geta S a i .long).map fun v => (pc + 1, v :: st, S, 0, 0)
  | .baload, 1, .int i :: .ref a :: st => match am_geta S a i .byte with
    | some v => some (pc + 1, v :: st, S, 0, 0)
    | none => (am_geta S a i .boolean).map fun v => (pc + 1, v :: st, S, 0, 0)
  | .aaload, 1, .int i :: .ref a :: st => match am_nth S a with
    | some (_, some (.inl (.object C, _, _, _))) => (am_geta S a i (.object C)).map fun v => (pc + 1, v :: st, S, 0, 0)
    | _ => none
  | .arraylength, 1, .ref a :: st => match am_nth S a with
    | some (_, some (.inl (_, n, _, _))) => some (pc + 1, .int (Int32.ofNat n) :: st, S, 0, 0)
    | _ => none
  | .iastore, 1, .int x :: .int i :: .ref a :: st => (am_seta S a i .int (.int x)).map fun S' => (pc + 1, st, S', 0, 0)
  | .lastore, 1, .long x :: .int i :: .ref a :: st => (am_seta S a i .long (.long x)).map fun S' => (pc + 1, st, S', 0, 0)
  | .bastore, 1, .int x :: .int i :: .ref a :: st => match am_seta S a i .byte (narrow .byte (.int x)) with
    | some S' => some (pc + 1, st, S', 0, 0)
    | none => (am_seta S a i .boolean (narrow .boolean (.int x))).map fun S' => (pc + 1, st, S', 0, 0)
  | .aastore, 1, .ref v :: .int i :: .ref a :: st => match am_nth S v with
    | some (_, some (.inr (ci, _))) => (match cl[ci]? with
      | some r => (am_seta S a i (.object r.1) (.ref v)).map fun S' => (pc + 1, st, S', 0, 0)
      | none => none)
    | _ => none
  | .ldc i, 2, st => match am_find i T.2.2.2.2.1 with
    | some (.int x) => some (pc + 2, .int x :: st, S, 0, 0)
    | _ => none
  | .ldc2_w i, 3, st => match am_find i T.2.2.2.2.1 with
    | some (.long x) => some (pc + 3, .long x :: st, S, 0, 0)
    | _ => none
  | _, _, _ => none
/-- a number of the class file -/
def am_cst (own : String) (i : Nat) (v : Value) : Cond := match v with
  | .int x => .constant own i x
  | .long x => .constantLong own i x
  | _ => .constant own i 0
/-- what the tables say of a method's entries (but its calls) -/
def am_Tok (Ts : List Cond) (cl : List vw_C) (AO : List String) (own name : String) (T : am_T) : Prop :=
  (∀ q ∈ T.1, ∃ r : vw_C, cl[q.2.1]? = some r ∧ q.2.2 < r.2.2 ∧ Cond.fieldLink own q.1 (r.2.1 q.2.2).1 (r.2.1 q.2.2).2.1 (r.2.1 q.2.2).2.2.1 ∈ Ts) ∧
  (∀ q ∈ T.2.1, ∃ r : vw_C, cl[q.2.1]? = some r ∧ q.2.2 < r.2.2 ∧ Cond.fieldLink own q.1 (r.2.1 q.2.2).1 (r.2.1 q.2.2).2.1 (r.2.1 q.2.2).2.2.1 ∈ Ts ∧ ((r.2.1 q.2.2).2.2.2 = false ∨ (name = "<init>" ∧ (r.2.1 q.2.2).1 = own))) ∧
  (∀ q ∈ T.2.2.1, ∃ r : vw_C, cl[q.2]? = some r ∧ Cond.classLink own q.1 r.1 ∈ Ts) ∧
  (∀ q ∈ T.2.2.2.1, Cond.classLink own q.1 q.2 ∈ Ts ∧ q.2 ∈ AO) ∧
  (∀ q ∈ T.2.2.2.2.1, am_cst own q.1 q.2 ∈ Ts)
section AMG
variable {p : Program} {l0 : Launch} {e : Env} {R : Room} {s : State} {m : MethodId} {args : Array Value} {below : List Frame} {meth : Method} {c : Code} {H : Heap} {locs : List Loc} {cells slots : Nat} {Q : State → Prop}
variable {cc : ByteArray} {pc : Nat} {ls : Array Slot} {D : va_G} {cl : List vw_C} {tyL : List (List FieldType)} {b : Nat} {Hb : Heap} {S : am_S} {own name : String} {Ts : List Cond} {AO : List String} {T : am_T}
set_option maxHeartbeats 4000000 in
set_option maxRecDepth 100000 in
theorem am_heap_ok (hx : p.tables.exec = Jvm.exec) (hb : c.code = cc) (hts : ∀ w ∈ Ts, w.before args s = true) (hC : am_Cls Ts cl tyL) (hown : s.vm.findClass own = some m.cls) (hnm : meth.name = name) (hT : am_Tok Ts cl AO own name T) (hAr : ∀ t : ArrayType, (t = .int ∨ t = .long ∨ t = .byte ∨ t = .boolean) → Cond.arrayClass (newarray.typeOf t) ∈ Ts) (hO : ∀ C ∈ AO, va_AO C s) (hK : va_K D cl [] s) (hR : am_R D cl b Hb S s H) (hL : ∀ q ∈ locs, Hb.size ≤ q.base) {ins : Instr} {len pc' dc ds : Nat} {st st' : List Value} {S' : am_S} (hd : decode cc pc = .ok (ins, len)) (h : am_heap cl tyL T ins len pc st S = some (pc', st', S', dc, ds)) (hcs : cells + dc ≤ R.cells) (hss : slots + ds ≤ R.slots)
    (kk : ∀ (H1 : Heap) (locs1 : List Loc), am_R D cl b Hb S' s H1 → (∀ q ∈ locs1, Hb.size ≤ q.base) → W p l0 e R s m args below meth c H1 locs1 (cells + dc) (slots + ds) Q (F0 m pc' ls (st'.map (am_cv (am_ad b Hb.size))))) : W p l0 e R s m args below meth c H locs cells slots Q (F0 m pc ls (st.map (am_cv (am_ad b Hb.size)))) := by
  unfold am_heap at h
  split at h
  · split at h
    · rename_i ci k hi
      obtain ⟨v, hv, e9⟩ := Option.map_eq_some_iff.mp h; cases e9
      obtain ⟨r, h1, h2, h3⟩ := hT.1 _ (am_find_mem hi)
      exact am_get_ok hx hb hts hC hown hK hR h1 h2 h3 hv hd (kk _ _ hR hL)
    · cases h
  · split at h
    · rename_i ci k hi
      split at h
      · rename_i z cj fs hS
        split at h
        · rename_i tys hty
          split at h
          · rename_i hc
            obtain ⟨rfl, hok⟩ := hc
            cases h
            obtain ⟨r, h1, h2, h3, h4⟩ := hT.2.1 _ (am_find_mem hi)
            exact am_put_ok hx hb hts hC hown hK hR hL h1 h2 hty h3 (h4.imp id (fun q => ⟨hnm.trans q.1, q.2⟩)) hok hS hd kk
          · cases h
        · cases h
      · cases h
    · cases h
  · split at h
    · rename_i ci hi
      obtain ⟨tys, hty, e9⟩ := Option.map_eq_some_iff.mp h; cases e9
      obtain ⟨r, h1, h2⟩ := hT.2.2.1 _ (am_find_mem hi)
      exact am_new_ok hx hb hts hC hown hK hR h1 hty h2 hcs hss hd (fun H1 q => kk _ _ q hL)
    · cases h
  · split at h
    · cases h
    · rename_i hc
      split at h
      · rename_i ht
        cases h
        exact am_newa_ok hx hb hts hR (hAr _ ht) (fun q => hc (Or.inl q)) (Nat.not_lt.mp fun q => hc (Or.inr q)) hcs hss hd (fun H1 q => kk _ _ q hL)
      · cases h
  · split at h
    · rename_i C hi
      split at h
      · cases h
      · rename_i hc
        cases h
        obtain ⟨h1, h2⟩ := hT.2.2.2.1 _ (am_find_mem hi)
        exact am_newq_ok hx hb hts hown hR h1 (hO _ h2) (fun q => hc (Or.inl q)) (Nat.not_lt.mp fun q => hc (Or.inr q)) hcs hss hd (fun H1 q => kk _ _ q hL)
    · cases h
  · obtain ⟨v, hv, e9⟩ := Option.map_eq_some_iff.mp h; cases e9
    exact am_iald_ok hx hb hR hv hd (kk _ _ hR hL)
  · obtain ⟨v, hv, e9⟩ := Option.map_eq_some_iff.mp h; cases e9
    exact am_lald_ok hx hb hR hv hd (kk _ _ hR hL)
  · split at h
    · rename_i v hv
      cases h
      exact am_bald_ok hx hb hR hv hd (kk _ _ hR hL)
    · obtain ⟨v, hv, e9⟩ := Option.map_eq_some_iff.mp h; cases e9
      exact am_zald_ok hx hb hR hv hd (kk _ _ hR hL)
  · split at h
    · obtain ⟨v, hv, e9⟩ := Option.map_eq_some_iff.mp h; cases e9
      exact am_aald_ok hx hb hR hv hd (kk _ _ hR hL)
    · cases h
  · split at h
    · rename_i hS
      cases h
      exact am_alen_ok hx hb hR hS hd (kk _ _ hR hL)
    · cases h
  · obtain ⟨v, hv, e9⟩ := Option.map_eq_some_iff.mp h; cases e9
    exact am_iast_ok hx hb hR hL hv hd kk
  · obtain ⟨v, hv, e9⟩ := Option.map_eq_some_iff.mp h; cases e9
    exact am_last_ok hx hb hR hL hv hd kk
  · split at h
    · rename_i v hv
      cases h
      exact am_bast_ok hx hb hR hL hv hd kk
    · obtain ⟨v, hv, e9⟩ := Option.map_eq_some_iff.mp h; cases e9
      exact am_zast_ok hx hb hR hL hv hd kk
  · split at h
    · rename_i hS
      split at h
      · rename_i r hr
        obtain ⟨v, hv, e9⟩ := Option.map_eq_some_iff.mp h; cases e9
        exact am_aast_ok hx hb hK hR hL hS hr hv hd kk
      · cases h
    · cases h
  · split at h
    · rename_i x hi
      cases h
      exact lv_ldc hx hb hown (hts _ (hT.2.2.2.2 _ (am_find_mem hi))) hd (kk _ _ hR hL)
    · cases h
  · split at h
    · rename_i x hi
      cases h
      exact lv_ldc2 hx hb hown (hts _ (hT.2.2.2.2 _ (am_find_mem hi))) hd (kk _ _ hR hL)
    · cases h
  · cases h
end AMG
