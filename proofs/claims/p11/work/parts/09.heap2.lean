/-! cells that are made; arrays -/
theorem am_cv_def (ad : Nat → Nat) (ty : FieldType) : am_cv ad (defaultValue ty) = defaultValue ty := by cases ty <;> rfl
theorem am_updA_cv (ad : Nat → Nat) (f : Nat → Value) (k : Nat) (v : Value) : updV (fun j => am_cv ad (f j)) k (am_cv ad v) = fun j => am_cv ad (updV f k v j) := by
  funext j
  by_cases h : j = k
  · simp [updV, h]
  · simp [updV, h]
theorem am_arr_fits {n : Nat} {i : Int32} {cell : Cell} (h : ¬ (i < 0 ∨ n ≤ i.toNatClampNeg)) (hn : cell.slots.size = n) : ¬ (i < 0 ∨ cell.slots.size ≤ i.toNatClampNeg) := by rw [hn]; exact h
section AMN
variable {p : Program} {l0 : Launch} {e : Env} {R : Room} {s : State} {m : MethodId} {args : Array Value} {below : List Frame} {meth : Method} {c : Code} {H : Heap} {locs : List Loc} {cells slots : Nat} {Q : State → Prop}
variable {cc : ByteArray} {pc : Nat} {ls : Array Slot} {rest : List Value} {D : va_G} {cl : List vw_C} {tyL : List (List FieldType)} {b : Nat} {Hb : Heap} {S : am_S} {own : String} {Ts : List Cond}
set_option maxHeartbeats 1000000 in
theorem am_new_ok (hx : p.tables.exec = Jvm.exec) (hb : c.code = cc) (hts : ∀ w ∈ Ts, w.before args s = true) (hC : am_Cls Ts cl tyL) (hown : s.vm.findClass own = some m.cls) (hK : va_K D cl [] s) (hR : am_R D cl b Hb S s H) {r : vw_C} {i ci : Nat} {tys : List FieldType} (hc : cl[ci]? = some r) (hty : tyL[ci]? = some tys) (hlink : Cond.classLink own i r.1 ∈ Ts) (hcells : cells + 1 ≤ R.cells) (hslots : slots + tys.length ≤ R.slots) (hd : decode cc pc = .ok (.new i, 3))
    (kk : ∀ H1 : Heap, am_R D cl b Hb (am_add S (tys.length, some (.inr (ci, tys.map defaultValue)))) s H1 → W p l0 e R s m args below meth c H1 locs (cells + 1) (slots + tys.length) Q (F0 m (pc + 3) ls (.ref (am_ad b Hb.size (am_len S)) :: rest))) : W p l0 e R s m args below meth c H locs cells slots Q (F0 m pc ls rest) := by
  obtain ⟨hin, ⟨tys', hty', htl, htd⟩, hnm, hins, hini⟩ := hC _ _ hc
  have ht : tys' = tys := Option.some.inj (hty'.symm.trans hty)
  subst ht
  have hKn := hK.1 ci _ hc
  rw [htl] at kk hslots
  refine W.newcK hx hb hown (hts _ hlink) (hts _ hins) (hts _ hini) rfl hd hcells hslots hKn.2.1 rfl fun H1 kC hkC e1 z1 o1 => ?_
  obtain ⟨h1, h2⟩ := hR.new (z := r.2.2) (x := some (.inr (ci, tys'.map defaultValue))) (H1 := H1) (fun y hy => by
    cases hy
    refine ⟨r, hc, by rw [List.length_map]; exact htl, (u_born (fun k => tys'.getD k .int) hts hin hKn hkC e1 htd).to fun k hk => ?_⟩
    have hk' : k < tys'.length := by omega
    show defaultValue (tys'.getD k .int) = am_cv _ (vp_V (tys'.map defaultValue) k)
    rw [am_vpV_cv _ _ k (defaultValue (tys'.getD k .int)) (by simp [hk']), am_cv_def]) z1 o1
  have h3 := kk H1 h1
  rw [h2] at h3
  exact h3
set_option maxHeartbeats 1000000 in
theorem am_newa_ok (hx : p.tables.exec = Jvm.exec) (hb : c.code = cc) (hts : ∀ w ∈ Ts, w.before args s = true) (hR : am_R D cl b Hb S s H) {at' : ArrayType} (hlink : Cond.arrayClass (newarray.typeOf at') ∈ Ts) {n : Int32} (hn : ¬ n < 0) (hbytes : n.toNatClampNeg * componentBytes (newarray.typeOf at') ≤ 536870912) (hcells : cells + 1 ≤ R.cells) (hslots : slots + n.toNatClampNeg ≤ R.slots) (hd : decode cc pc = .ok (.newarray at', 2))
    (kk : ∀ H1 : Heap, am_R D cl b Hb (am_add S (n.toNatClampNeg, some (.inl (newarray.typeOf at', n.toNatClampNeg, defaultValue (newarray.typeOf at'), [])))) s H1 → W p l0 e R s m args below meth c H1 locs (cells + 1) (slots + n.toNatClampNeg) Q (F0 m (pc + 2) ls (.ref (am_ad b Hb.size (am_len S)) :: rest))) : W p l0 e R s m args below meth c H locs cells slots Q (F0 m pc ls (.int n :: rest)) := by
  refine va_newaK hx hb (hts _ hlink) rfl hd rfl hn rfl hbytes hcells hslots rfl fun H1 cA e1 z1 o1 hAr hNm => ?_
  obtain ⟨h1, h2⟩ := hR.new (z := n.toNatClampNeg) (x := some (.inl (newarray.typeOf at', n.toNatClampNeg, defaultValue (newarray.typeOf at'), []))) (H1 := H1) (fun y hy => by
    cases hy
    refine ⟨cA, ⟨hAr, by cases at' <;> exact hNm⟩, ?_⟩
    rw [e1]
    congr 2
    funext j
    exact (am_cv_def _ _).symm) z1 o1
  have h3 := kk H1 h1
  rw [h2] at h3
  exact h3
set_option maxHeartbeats 1000000 in
theorem am_newq_ok (hx : p.tables.exec = Jvm.exec) (hb : c.code = cc) (hts : ∀ w ∈ Ts, w.before args s = true) (hown : s.vm.findClass own = some m.cls) (hR : am_R D cl b Hb S s H) {C : String} {i : Nat} (hlink : Cond.classLink own i C ∈ Ts) (hover : va_AO C s) {n : Int32} (hn : ¬ n < 0) (hbytes : n.toNatClampNeg * 4 ≤ 536870912) (hcells : cells + 1 ≤ R.cells) (hslots : slots + n.toNatClampNeg ≤ R.slots) (hd : decode cc pc = .ok (.anewarray i, 3))
    (kk : ∀ H1 : Heap, am_R D cl b Hb (am_add S (n.toNatClampNeg, some (.inl (.object C, n.toNatClampNeg, .null, [])))) s H1 → W p l0 e R s m args below meth c H1 locs (cells + 1) (slots + n.toNatClampNeg) Q (F0 m (pc + 3) ls (.ref (am_ad b Hb.size (am_len S)) :: rest))) : W p l0 e R s m args below meth c H locs cells slots Q (F0 m pc ls (.int n :: rest)) := by
  refine W.anew hx hb hown (hts _ hlink) (va_AO.use hover) rfl hd rfl hn hbytes hcells hslots fun cA kA comp f1 f2 f3 f4 => ?_
  generalize hH1 : H.push ({ cls := cA, slots := Array.replicate n.toNatClampNeg .null, vm := .none } : Cell) = H1
  have z1 : H1.size = H.size + 1 := by rw [← hH1, Array.size_push]
  have e1 : H1[H.size]? = some (arrV cA n.toNatClampNeg (fun _ => .null)) := by rw [← hH1, Array.getElem?_push_size, ← arrV_new]
  have o1 : ∀ q : Nat, q < H.size → H1[q]? = H[q]? := fun q hq => by rw [← hH1, Array.getElem?_push, if_neg (Nat.ne_of_lt hq)]
  have hAr : ArrOfT s cA (.object C) := fun N z => ⟨(fun k h => by cases h), kA, f2, comp, f3⟩
  obtain ⟨h1, h2⟩ := hR.new (z := n.toNatClampNeg) (x := some (.inl (.object C, n.toNatClampNeg, .null, []))) (H1 := H1) (fun y hy => by
    cases hy
    exact ⟨cA, ⟨hAr, kA, comp, f2, f3, f4, f1⟩, e1⟩) z1 o1
  have h3 := kk H1 h1
  rw [h2] at h3
  exact h3
/-- what am_geta gives is on the heap -/
theorem am_geta_cell (hR : am_R D cl b Hb S s H) {a : Nat} {i : Int32} {ty : FieldType} {v : Value} (h : am_geta S a i ty = some v) : ∃ cell : Cell, H[am_ad b Hb.size a]? = some cell ∧ s.isArrayOf cell ty ∧ cell.vm ≠ .unknown ∧ ¬ (i < 0 ∨ cell.slots.size ≤ i.toNatClampNeg) ∧ cell.slots[i.toNatClampNeg]? = some (am_cv (am_ad b Hb.size) v) := by
  unfold am_geta at h
  split at h
  · rename_i z t n dv u hS
    split at h
    · rename_i hc
      obtain ⟨rfl, hc⟩ := hc
      cases h
      obtain ⟨cell, q1, q2, q3, q4, q5⟩ := hR.arr hS
      exact ⟨cell, q1, q2, q3, am_arr_fits hc q4, q5 _ (Nat.not_le.mp fun q => hc (Or.inr q))⟩
    · cases h
  · cases h
theorem am_iald_ok (hx : p.tables.exec = Jvm.exec) (hb : c.code = cc) (hR : am_R D cl b Hb S s H) {a : Nat} {i : Int32} {v : Value} (h : am_geta S a i .int = some v) (hd : decode cc pc = .ok (.iaload, 1)) (kk : W p l0 e R s m args below meth c H locs cells slots Q (F0 m (pc + 1) ls (am_cv (am_ad b Hb.size) v :: rest))) : W p l0 e R s m args below meth c H locs cells slots Q (F0 m pc ls (.int i :: .ref (am_ad b Hb.size a) :: rest)) := by
  obtain ⟨cell, q1, q2, q3, q4, q5⟩ := am_geta_cell hR h
  exact W.iald hx hb q1 q2 q3 q4 q5 rfl rfl hd kk
theorem am_lald_ok (hx : p.tables.exec = Jvm.exec) (hb : c.code = cc) (hR : am_R D cl b Hb S s H) {a : Nat} {i : Int32} {v : Value} (h : am_geta S a i .long = some v) (hd : decode cc pc = .ok (.laload, 1)) (kk : W p l0 e R s m args below meth c H locs cells slots Q (F0 m (pc + 1) ls (am_cv (am_ad b Hb.size) v :: rest))) : W p l0 e R s m args below meth c H locs cells slots Q (F0 m pc ls (.int i :: .ref (am_ad b Hb.size a) :: rest)) := by
  obtain ⟨cell, q1, q2, q3, q4, q5⟩ := am_geta_cell hR h
  exact W.lald hx hb q1 q2 q3 q4 q5 rfl rfl hd kk
theorem am_bald_ok (hx : p.tables.exec = Jvm.exec) (hb : c.code = cc) (hR : am_R D cl b Hb S s H) {a : Nat} {i : Int32} {v : Value} (h : am_geta S a i .byte = some v) (hd : decode cc pc = .ok (.baload, 1)) (kk : W p l0 e R s m args below meth c H locs cells slots Q (F0 m (pc + 1) ls (am_cv (am_ad b Hb.size) v :: rest))) : W p l0 e R s m args below meth c H locs cells slots Q (F0 m pc ls (.int i :: .ref (am_ad b Hb.size a) :: rest)) := by
  obtain ⟨cell, q1, q2, q3, q4, q5⟩ := am_geta_cell hR h
  exact W.bald hx hb q1 q2 q3 q4 q5 rfl rfl hd kk
theorem am_zald_ok (hx : p.tables.exec = Jvm.exec) (hb : c.code = cc) (hR : am_R D cl b Hb S s H) {a : Nat} {i : Int32} {v : Value} (h : am_geta S a i .boolean = some v) (hd : decode cc pc = .ok (.baload, 1)) (kk : W p l0 e R s m args below meth c H locs cells slots Q (F0 m (pc + 1) ls (am_cv (am_ad b Hb.size) v :: rest))) : W p l0 e R s m args below meth c H locs cells slots Q (F0 m pc ls (.int i :: .ref (am_ad b Hb.size a) :: rest)) := by
  obtain ⟨cell, q1, q2, q3, q4, q5⟩ := am_geta_cell hR h
  exact W.zald hx hb q1 q2 q3 q4 q5 rfl rfl hd kk
theorem am_aald_ok (hx : p.tables.exec = Jvm.exec) (hb : c.code = cc) (hR : am_R D cl b Hb S s H) {a : Nat} {i : Int32} {C : String} {v : Value} (h : am_geta S a i (.object C) = some v) (hd : decode cc pc = .ok (.aaload, 1)) (kk : W p l0 e R s m args below meth c H locs cells slots Q (F0 m (pc + 1) ls (am_cv (am_ad b Hb.size) v :: rest))) : W p l0 e R s m args below meth c H locs cells slots Q (F0 m pc ls (.int i :: .ref (am_ad b Hb.size a) :: rest)) := by
  obtain ⟨cell, q1, q2, q3, q4, q5⟩ := am_geta_cell hR h
  exact W.aald hx hb q1 q2 rfl q3 q4 q5 rfl rfl hd kk
theorem am_alen_ok (hx : p.tables.exec = Jvm.exec) (hb : c.code = cc) (hR : am_R D cl b Hb S s H) {a z n : Nat} {ty : FieldType} {dv : Value} {u : List (Nat × Value)} (hS : am_nth S a = some (z, some (.inl (ty, n, dv, u)))) (hd : decode cc pc = .ok (.arraylength, 1)) (kk : W p l0 e R s m args below meth c H locs cells slots Q (F0 m (pc + 1) ls (.int (Int32.ofNat n) :: rest))) : W p l0 e R s m args below meth c H locs cells slots Q (F0 m pc ls (.ref (am_ad b Hb.size a) :: rest)) := by
  obtain ⟨cell, q1, q2, q3, q4, q5⟩ := hR.arr hS
  exact W.alen hx hb q1 q2 (by rw [q4]) rfl rfl hd kk
theorem am_locs_put {locs : List Loc} {Hb : Heap} {j k : Nat} (hL : ∀ q ∈ locs, Hb.size ≤ q.base) : ∀ q ∈ locs ++ [(⟨Hb.size + j, k⟩ : Loc)], Hb.size ≤ q.base := by
  intro q hq
  rcases List.mem_append.mp hq with h | h
  · exact hL q h
  · rw [List.mem_singleton.mp h]
    exact Nat.le_add_right _ _
/-- an array's place is written: what is left of it -/
theorem am_arr_put {H1 : Heap} (hR : am_R D cl b Hb S s H) {j z n : Nat} {ty : FieldType} {dv : Value} {u : List (Nat × Value)} {cA : ClassId} {k : Nat} {v : Value} (hS : am_nth S (j + 1) = some (z, some (.inl (ty, n, dv, u)))) (hA : ArrOfT s cA ty ∧ va_RA s cA ty) (e1 : H1[Hb.size + j]? = some ((arrV cA n (fun q => am_cv (am_ad b Hb.size) (am_fn dv u q))).setSlot k (am_cv (am_ad b Hb.size) v))) (z1 : H1.size = H.size) (o1 : ∀ q, q ≠ Hb.size + j → H1[q]? = H[q]?) : am_R D cl b Hb (am_set S (j + 1) (z, some (.inl (ty, n, dv, (k, v) :: u)))) s H1 := by
  refine hR.put hS ⟨cA, hA, ?_⟩ z1 o1
  rw [e1, arrV_store, am_updA_cv, am_fn_cons]
end AMN
