/-! arrays are written; System.arraycopy of ints -/
theorem am_seta_of {S S' : am_S} {a : Nat} {i : Int32} {ty : FieldType} {v : Value} (h : am_seta S a i ty v = some S') : ∃ (j z n : Nat) (dv : Value) (u : List (Nat × Value)), a = j + 1 ∧ am_nth S (j + 1) = some (z, some (.inl (ty, n, dv, u))) ∧ ¬ (i < 0 ∨ n ≤ i.toNatClampNeg) ∧ S' = am_set S (j + 1) (z, some (.inl (ty, n, dv, (i.toNatClampNeg, v) :: u))) := by
  unfold am_seta at h
  split at h
  · cases h
  · rename_i a' z t n dv u hS
    split at h
    · rename_i hc
      obtain ⟨rfl, hc⟩ := hc
      cases h
      exact ⟨a', z, n, dv, u, rfl, hS, hc, rfl⟩
    · cases h
  · cases h
theorem am_R.made {D : va_G} {cl : List vw_C} {b : Nat} {Hb : Heap} {S : am_S} {s : State} {H : Heap} (h : am_R D cl b Hb S s H) {j z n : Nat} {ty : FieldType} {dv : Value} {u : List (Nat × Value)} (hS : am_nth S (j + 1) = some (z, some (.inl (ty, n, dv, u)))) : ∃ cA : ClassId, (ArrOfT s cA ty ∧ va_RA s cA ty) ∧ H[Hb.size + j]? = some (arrV cA n (fun q => am_cv (am_ad b Hb.size) (am_fn dv u q))) := h.2.2.2.2 j z _ hS
/-- n places of f from sp on, laid from dp on -/
def am_cpy (f : Nat → Value) (sp dp n : Nat) (u : List (Nat × Value)) : List (Nat × Value) := (List.range n).map (fun q => (dp + q, f (sp + q))) ++ u
theorem am_find_app {α : Type} (k : Nat) : ∀ (a b : List (Nat × α)), am_find k (a ++ b) = match am_find k a with | some v => some v | none => am_find k b
  | [], b => rfl
  | q :: a, b => by
    rw [List.cons_append, am_find_cons, am_find_cons]
    by_cases h : q.1 = k
    · rw [if_pos h, if_pos h]
    · rw [if_neg h, if_neg h]
      exact am_find_app k a b
theorem am_find_rng (f : Nat → Value) (k : Nat) : ∀ (l : List Nat) (sp dp : Nat), l.Nodup → am_find k (l.map (fun q => (dp + q, f (sp + q)))) = if dp ≤ k ∧ (k - dp) ∈ l then some (f (sp + (k - dp))) else none
  | [], sp, dp, _ => by
    rw [if_neg (fun h => by cases h.2)]
    rfl
  | q :: l, sp, dp, hn => by
    have hn := List.nodup_cons.mp hn
    rw [List.map_cons, am_find_cons, am_find_rng f k l sp dp hn.2]
    show (if dp + q = k then some (f (sp + q)) else _) = _
    by_cases h : dp + q = k
    · have e : k - dp = q := by omega
      rw [if_pos h, if_pos ⟨by omega, by rw [e]; exact List.mem_cons_self⟩, e]
    · rw [if_neg h]
      by_cases h2 : dp ≤ k ∧ (k - dp) ∈ l
      · rw [if_pos h2, if_pos ⟨h2.1, List.mem_cons_of_mem _ h2.2⟩]
      · rw [if_neg h2, if_neg (fun h3 => by
          rcases List.mem_cons.mp h3.2 with q1 | q1
          · omega
          · exact h2 ⟨h3.1, q1⟩)]
theorem am_cpy_fn (f : Nat → Value) (sp dp n : Nat) (dg : Value) (ug : List (Nat × Value)) : am_fn dg (am_cpy f sp dp n ug) = va_cpy f (am_fn dg ug) sp dp n := by
  funext k
  unfold am_cpy va_cpy
  show (match am_find k ((List.range n).map (fun q => (dp + q, f (sp + q))) ++ ug) with | some v => v | none => dg) = _
  rw [am_find_app, am_find_rng f k _ sp dp List.nodup_range]
  by_cases h : dp ≤ k ∧ k < dp + n
  · rw [if_pos ⟨h.1, List.mem_range.mpr (by omega)⟩, if_pos h]
  · rw [if_neg (fun q => h ⟨q.1, by have := List.mem_range.mp q.2; omega⟩), if_neg h]
    rfl
section AMA
variable {p : Program} {l0 : Launch} {e : Env} {R : Room} {s : State} {m : MethodId} {args : Array Value} {below : List Frame} {meth : Method} {c : Code} {H : Heap} {locs : List Loc} {cells slots : Nat} {Q : State → Prop}
variable {cc : ByteArray} {pc : Nat} {ls : Array Slot} {rest : List Value} {D : va_G} {cl : List vw_C} {tyL : List (List FieldType)} {b : Nat} {Hb : Heap} {S : am_S} {own : String} {Ts : List Cond}

theorem am_iast_ok (hx : p.tables.exec = Jvm.exec) (hb : c.code = cc) (hR : am_R D cl b Hb S s H) (hL : ∀ q ∈ locs, Hb.size ≤ q.base) {a : Nat} {i : Int32} {x : Int32} {S' : am_S} (h : am_seta S a i .int (.int x) = some S') (hd : decode cc pc = .ok (.iastore, 1)) (kk : ∀ (H1 : Heap) (locs1 : List Loc), am_R D cl b Hb S' s H1 → (∀ q ∈ locs1, Hb.size ≤ q.base) → W p l0 e R s m args below meth c H1 locs1 cells slots Q (F0 m (pc + 1) ls rest)) : W p l0 e R s m args below meth c H locs cells slots Q (F0 m pc ls (.int x :: .int i :: .ref (am_ad b Hb.size a) :: rest)) := by
  obtain ⟨j, z, n, dv, u, rfl, hS, hc, rfl⟩ := am_seta_of h
  obtain ⟨cA, hA, hcell⟩ := hR.made hS
  exact W.iast hx hb hcell (hA.1 n _) (fun q => by cases q) (am_arr_fits hc (arrV_size _ _ _)) rfl rfl hd fun H1 e1 z1 o1 => kk H1 _ (am_arr_put hR hS hA e1 z1 o1) (am_locs_put hL)
theorem am_last_ok (hx : p.tables.exec = Jvm.exec) (hb : c.code = cc) (hR : am_R D cl b Hb S s H) (hL : ∀ q ∈ locs, Hb.size ≤ q.base) {a : Nat} {i : Int32} {x : Int64} {S' : am_S} (h : am_seta S a i .long (.long x) = some S') (hd : decode cc pc = .ok (.lastore, 1)) (kk : ∀ (H1 : Heap) (locs1 : List Loc), am_R D cl b Hb S' s H1 → (∀ q ∈ locs1, Hb.size ≤ q.base) → W p l0 e R s m args below meth c H1 locs1 cells slots Q (F0 m (pc + 1) ls rest)) : W p l0 e R s m args below meth c H locs cells slots Q (F0 m pc ls (.long x :: .int i :: .ref (am_ad b Hb.size a) :: rest)) := by
  obtain ⟨j, z, n, dv, u, rfl, hS, hc, rfl⟩ := am_seta_of h
  obtain ⟨cA, hA, hcell⟩ := hR.made hS
  exact W.last hx hb hcell (hA.1 n _) (fun q => by cases q) (am_arr_fits hc (arrV_size _ _ _)) rfl rfl hd fun H1 e1 z1 o1 => kk H1 _ (am_arr_put hR hS hA e1 z1 o1) (am_locs_put hL)
theorem am_bast_ok (hx : p.tables.exec = Jvm.exec) (hb : c.code = cc) (hR : am_R D cl b Hb S s H) (hL : ∀ q ∈ locs, Hb.size ≤ q.base) {a : Nat} {i : Int32} {x : Int32} {S' : am_S} (h : am_seta S a i .byte (narrow .byte (.int x)) = some S') (hd : decode cc pc = .ok (.bastore, 1)) (kk : ∀ (H1 : Heap) (locs1 : List Loc), am_R D cl b Hb S' s H1 → (∀ q ∈ locs1, Hb.size ≤ q.base) → W p l0 e R s m args below meth c H1 locs1 cells slots Q (F0 m (pc + 1) ls rest)) : W p l0 e R s m args below meth c H locs cells slots Q (F0 m pc ls (.int x :: .int i :: .ref (am_ad b Hb.size a) :: rest)) := by
  obtain ⟨j, z, n, dv, u, rfl, hS, hc, rfl⟩ := am_seta_of h
  obtain ⟨cA, hA, hcell⟩ := hR.made hS
  exact W.bast hx hb hcell (hA.1 n _) (fun q => by cases q) (am_arr_fits hc (arrV_size _ _ _)) rfl rfl hd fun H1 e1 z1 o1 => kk H1 _ (am_arr_put hR hS hA e1 z1 o1) (am_locs_put hL)
theorem am_zast_ok (hx : p.tables.exec = Jvm.exec) (hb : c.code = cc) (hR : am_R D cl b Hb S s H) (hL : ∀ q ∈ locs, Hb.size ≤ q.base) {a : Nat} {i : Int32} {x : Int32} {S' : am_S} (h : am_seta S a i .boolean (narrow .boolean (.int x)) = some S') (hd : decode cc pc = .ok (.bastore, 1)) (kk : ∀ (H1 : Heap) (locs1 : List Loc), am_R D cl b Hb S' s H1 → (∀ q ∈ locs1, Hb.size ≤ q.base) → W p l0 e R s m args below meth c H1 locs1 cells slots Q (F0 m (pc + 1) ls rest)) : W p l0 e R s m args below meth c H locs cells slots Q (F0 m pc ls (.int x :: .int i :: .ref (am_ad b Hb.size a) :: rest)) := by
  obtain ⟨j, z, n, dv, u, rfl, hS, hc, rfl⟩ := am_seta_of h
  obtain ⟨cA, hA, hcell⟩ := hR.made hS
  exact W.zast hx hb hcell (hA.1 n _) (fun q => by cases q) (am_arr_fits hc (arrV_size _ _ _)) rfl rfl hd fun H1 e1 z1 o1 => kk H1 _ (am_arr_put hR hS hA e1 z1 o1) (am_locs_put hL)
/-- a reference to an object of the array's class is laid -/
theorem am_aast_ok (hx : p.tables.exec = Jvm.exec) (hb : c.code = cc) (hK : va_K D cl [] s) (hR : am_R D cl b Hb S s H) (hL : ∀ q ∈ locs, Hb.size ≤ q.base) {a v zv ci : Nat} {vs : List Value} {r : vw_C} {i : Int32} {S' : am_S} (hv : am_nth S v = some (zv, some (.inr (ci, vs)))) (hc : cl[ci]? = some r) (h : am_seta S a i (.object r.1) (.ref v) = some S') (hd : decode cc pc = .ok (.aastore, 1)) (kk : ∀ (H1 : Heap) (locs1 : List Loc), am_R D cl b Hb S' s H1 → (∀ q ∈ locs1, Hb.size ≤ q.base) → W p l0 e R s m args below meth c H1 locs1 cells slots Q (F0 m (pc + 1) ls rest)) : W p l0 e R s m args below meth c H locs cells slots Q (F0 m pc ls (.ref (am_ad b Hb.size v) :: .int i :: .ref (am_ad b Hb.size a) :: rest)) := by
  obtain ⟨j, z, n, dv, u, rfl, hS, hin, rfl⟩ := am_seta_of h
  obtain ⟨cA, hA, hcell⟩ := hR.made hS
  obtain ⟨jv, r', rfl, hv2, h1, h2, cellV, g1, g2, g3, -⟩ := hR.obj hv
  have hr : r' = r := Option.some.inj (h1.symm.trans hc)
  subst hr
  have hcls := (hK.1 ci r' hc).2
  obtain ⟨kA, comp, k1, k2, k3, -⟩ := hA.2
  have hcomp : comp = D.1 ci := Option.some.inj (k3.symm.trans hcls.1)
  subst hcomp
  obtain ⟨kC, hkC, -⟩ := hcls.2
  have hlt : i.toNatClampNeg < n := Nat.not_le.mp fun q => hin (Or.inr q)
  refine W.aast hx hb hcell (fun q h => by cases h) (fun h => by cases h) k1 k2 rfl hkC ⟨fun q => hin (Or.inl q), by show _ < (arrV _ _ _).slots.size; rw [arrV_size]; exact hlt⟩ g1 (fun q h => by rw [g3] at h; cases h) (by rw [g2]; exact hkC) (by rw [g2]; exact va_assign hcls) rfl rfl hd fun H1 e1 z1 o1 => ?_
  exact kk H1 _ (am_arr_put (v := .ref (jv + 1)) hR hS hA e1 z1 o1) (am_locs_put hL)
set_option maxHeartbeats 2000000 in
/-- System.arraycopy between two int arrays that were made (or one) -/
theorem am_copy_ok (hx : p.tables.exec = Jvm.exec) (hb : c.code = cc) (hts : ∀ w ∈ Ts, w.before args s = true) (hml : c.maxLocals = ls.size) (hown : s.vm.findClass own = some m.cls) {i : Nat} (hlink : Cond.methodLink own i arraycopyName ∈ Ts) (hnat : Cond.native arraycopyName ∈ Ts) (hstat : Cond.static arraycopyName ∈ Ts) (hini : Cond.initialized "java/lang/System" ∈ Ts) (hR : am_R D cl b Hb S s H) (hL : ∀ q ∈ locs, Hb.size ≤ q.base) {j0 j1 z0 z1 n0 n1 : Nat} {df dg : Value} {uf ug : List (Nat × Value)} (h0 : am_nth S (j0 + 1) = some (z0, some (.inl (.int, n0, df, uf)))) (h1 : am_nth S (j1 + 1) = some (z1, some (.inl (.int, n1, dg, ug)))) {sp dp n : Int32} (hsp : ¬ sp < 0) (hdp : ¬ dp < 0) (hn : ¬ n < 0) (hs : sp.toNatClampNeg + n.toNatClampNeg ≤ n0) (hd1 : dp.toNatClampNeg + n.toNatClampNeg ≤ n1) (hf : ∀ q, q < n.toNatClampNeg → ∃ x : Int32, am_fn df uf (sp.toNatClampNeg + q) = .int x) (hframes : 1 ≤ R.frames) (hlocals : (rest.map fun v => v.category).sum + (nativeFrameWords "java/lang/System" "arraycopy" 5 + 11) ≤ R.locals) (hdg : decode cc pc = .ok (.invokestatic i, 3))
    (kk : ∀ (H1 : Heap) (locs1 : List Loc), am_R D cl b Hb (am_set S (j1 + 1) (z1, some (.inl (.int, n1, dg, am_cpy (am_fn df uf) sp.toNatClampNeg dp.toNatClampNeg n.toNatClampNeg ug)))) s H1 → (∀ q ∈ locs1, Hb.size ≤ q.base) → W p l0 e R s m args below meth c H1 locs1 cells slots Q (F0 m (pc + 3) ls rest)) : W p l0 e R s m args below meth c H locs cells slots Q (F0 m pc ls (.int n :: .int dp :: .ref (Hb.size + j1) :: .int sp :: .ref (Hb.size + j0) :: rest)) := by
  have nn : ∀ z : Int32, ¬ z < 0 → z.toInt = (z.toNatClampNeg : Int) := by
    intro z hz
    have hz0 : (0 : Int) ≤ z.toInt := by
      have := Int32.not_lt.mp hz
      simpa using Int32.le_iff_toInt_le.mp this
    show z.toInt = ((z.toInt.toNat : Nat) : Int)
    omega
  obtain ⟨c0, hA0, hc0⟩ := hR.made h0
  obtain ⟨c1, hA1, hc1⟩ := hR.made h1
  intro T hT X
  obtain ⟨-, k0, hk0, cm0, hkk0⟩ := hA0.1 n0 (fun q => am_cv (am_ad b Hb.size) (am_fn df uf q))
  obtain ⟨-, k1, hk1, cm1, hkk1⟩ := hA1.1 n1 (fun q => am_cv (am_ad b Hb.size) (am_fn dg ug q))
  obtain ⟨vm', X', step⟩ := X.arraycopy hx hown (hts _ hlink) (hts _ hnat) (hts _ hstat) (hts _ hini) (src := Hb.size + j0) (dst := Hb.size + j1) (cs := arrV c0 n0 (fun q => am_cv (am_ad b Hb.size) (am_fn df uf q))) (cd := arrV c1 n1 (fun q => am_cv (am_ad b Hb.size) (am_fn dg ug q))) (srcPos := sp) (destPos := dp) (n := n) (by rw [hT]; exact hc0) (by rw [hT]; exact hc1)
    (fun _ h => by cases h) (fun _ h => by cases h) (fun h => by cases h) (fun h => by cases h) hk0 hk1 hkk0 hkk1 (by decide) hsp hdp hn
    (by rw [nn sp hsp, nn n hn, arrV_size]; omega)
    (by rw [nn dp hdp, nn n hn, arrV_size]; omega)
    (fun vm₁ _ q hq => by
      obtain ⟨x, hx9⟩ := hf q hq
      have e : (arrV c0 n0 (fun q => am_cv (am_ad b Hb.size) (am_fn df uf q))).slots.getD (sp.toNatClampNeg + q) .null = .int x := by
        rw [Array.getD_eq_getD_getElem?, arrV_read _ _ (by omega), hx9]
        rfl
      refine ⟨?_, ?_⟩
      · rw [e]
        rfl
      · rw [e]
        exact trivial)
    (g := F0 m pc ls (.int n :: .int dp :: .ref (Hb.size + j1) :: .int sp :: .ref (Hb.size + j0) :: rest)) rfl (by rw [hml]) (rest := rest) rfl (by rw [hb]; exact hdg) hframes (by show 2 * 0 + _ + _ ≤ _; omega)
  have e1 : copied (arrV c0 n0 (fun q => am_cv (am_ad b Hb.size) (am_fn df uf q))) (arrV c1 n1 (fun q => am_cv (am_ad b Hb.size) (am_fn dg ug q))) sp dp n = arrV c1 n1 (fun q => am_cv (am_ad b Hb.size) (va_cpy (am_fn df uf) (am_fn dg ug) sp.toNatClampNeg dp.toNatClampNeg n.toNatClampNeg q)) := va_copied (fun z => am_cv (am_ad b Hb.size) z) c0 c1 (am_fn df uf) (am_fn dg ug) hs
  rw [e1] at X' step
  have hl : Hb.size + j1 < H.size := (Array.getElem?_eq_some_iff.mp hc1).1
  generalize hnew : arrV c1 n1 (fun q => am_cv (am_ad b Hb.size) (va_cpy (am_fn df uf) (am_fn dg ug) sp.toNatClampNeg dp.toNatClampNeg n.toNatClampNeg q)) = new at X' step
  have hheap : ((T.setVm vm').setCell (Hb.size + j1) new).heap = H.setIfInBounds (Hb.size + j1) new := by rw [← hT]; rfl
  have oq : ∀ q : Nat, q ≠ Hb.size + j1 → (H.setIfInBounds (Hb.size + j1) new)[q]? = H[q]? := fun q hq => by simp [Array.getElem?_setIfInBounds, Ne.symm hq]
  obtain ⟨t, a1, b1⟩ := kk _ _ (hR.put h1 (x := .inl (.int, n1, dg, am_cpy (am_fn df uf) sp.toNatClampNeg dp.toNatClampNeg n.toNatClampNeg ug)) ⟨c1, hA1, show (H.setIfInBounds (Hb.size + j1) new)[Hb.size + j1]? = some _ by rw [am_cpy_fn, hnew]; simp [Array.getElem?_setIfInBounds, hl]⟩ (by simp) oq) (fun q hq => by
      rcases List.mem_append.mp hq with h | h
      · exact hL q h
      · obtain ⟨z, -, hz⟩ := List.mem_map.mp h
        rw [← hz]
        exact Nat.le_add_right _ _) _ hheap X'
  exact ⟨t, step t a1, b1⟩
end AMA
