/-! the machine's steps that read or write the store -/
def am_getf (S : am_S) (a ci k : Nat) : Option Value := match am_nth S a with
  | some (_, some (.inr (cj, fs))) => if cj = ci then fs[k]? else none
  | _ => none
/-- what may be laid into a field of a type -/
def am_okv : FieldType → Value → Bool
  | .int, .int _ => true
  | .boolean, .int x => x == 0 || x == 1
  | .long, .long _ => true
  | .object _, .ref _ => true
  | .array _, .ref _ => true
  | _, _ => false
theorem am_okv_of {ad : Nat → Nat} {ty : FieldType} {v : Value} (h : am_okv ty v = true) : narrow ty (am_cv ad v) = am_cv ad v ∧ fits ty (am_cv ad v) = true := by
  unfold am_okv at h
  split at h
  · exact ⟨rfl, rfl⟩
  · rename_i x
    simp only [Bool.or_eq_true, beq_iff_eq] at h
    rcases h with h | h
    · subst h
      show narrow .boolean (.int 0) = .int 0 ∧ fits .boolean (.int 0) = true
      decide
    · subst h
      show narrow .boolean (.int 1) = .int 1 ∧ fits .boolean (.int 1) = true
      decide
  · exact ⟨rfl, rfl⟩
  · exact ⟨rfl, rfl⟩
  · exact ⟨rfl, rfl⟩
  · cases h
theorem am_updV_cv (ad : Nat → Nat) {fs : List Value} {k : Nat} (hk : k < fs.length) (v : Value) (j : Nat) : updV (fun q => am_cv ad (vp_V fs q)) k (am_cv ad v) j = am_cv ad (vp_V (fs.set k v) j) := by
  rw [← vp_updV_set hk v j]
  by_cases h : j = k
  · subst h
    simp [updV]
  · simp [updV, h]
/-- an object in the store -/
theorem am_R.obj {D : va_G} {cl : List vw_C} {b : Nat} {Hb : Heap} {S : am_S} {s : State} {H : Heap} (h : am_R D cl b Hb S s H) {a z ci : Nat} {fs : List Value} (ha : am_nth S a = some (z, some (.inr (ci, fs)))) :
    ∃ (j : Nat) (r : vw_C), a = j + 1 ∧ am_nth S (j + 1) = some (z, some (.inr (ci, fs))) ∧ cl[ci]? = some r ∧ fs.length = r.2.2 ∧ t_OB (Hb.size + j) (D.1 ci) r.2.2 (D.2 ci) H (fun k => am_cv (am_ad b Hb.size) (vp_V fs k)) := by
  obtain ⟨h1, h2, h3, ⟨L, xs, h4, h5⟩, h6⟩ := h
  cases a with
  | zero =>
    have ha : some S.1 = some (z, some (.inr (ci, fs))) := ha
    rcases h4 with h4 | ⟨u', h4, h7⟩
    · rw [h4] at ha
      cases ha
    · rw [h4] at ha
      cases ha
  | succ j =>
    obtain ⟨r, e1, e2, e3⟩ := h6 j z _ ha
    exact ⟨j, r, rfl, ha, e1, e2, e3⟩
/-- what the tables say of a class: its words are there; its fields' types; its fields' names differ -/
def am_Cls (Ts : List Cond) (cl : List vw_C) (tyL : List (List FieldType)) : Prop := ∀ (ci : Nat) (r : vw_C), cl[ci]? = some r → (∀ w ∈ u_ws r.1 r.2.1 r.2.2, w ∈ Ts) ∧ (∃ tys : List FieldType, tyL[ci]? = some tys ∧ tys.length = r.2.2 ∧ ∀ k, k < r.2.2 → parseFieldDescriptor (r.2.1 k).2.2.1 = some (tys.getD k .int)) ∧ (∀ a, a < r.2.2 → ∀ b, b < r.2.2 → a ≠ b → (r.2.1 a).2.1 ≠ (r.2.1 b).2.1) ∧ Cond.instantiable r.1 r.2.2 ∈ Ts ∧ Cond.initialized r.1 ∈ Ts
section AMH
variable {p : Program} {l0 : Launch} {e : Env} {R : Room} {s : State} {m : MethodId} {args : Array Value} {below : List Frame} {meth : Method} {c : Code} {H : Heap} {locs : List Loc} {cells slots : Nat} {Q : State → Prop}
variable {cc : ByteArray} {pc : Nat} {ls : Array Slot} {rest : List Value} {D : va_G} {cl : List vw_C} {tyL : List (List FieldType)} {b : Nat} {Hb : Heap} {S : am_S} {own : String} {Ts : List Cond}
set_option maxHeartbeats 1000000 in
theorem am_get_ok (hx : p.tables.exec = Jvm.exec) (hb : c.code = cc) (hts : ∀ w ∈ Ts, w.before args s = true) (hC : am_Cls Ts cl tyL) (hown : s.vm.findClass own = some m.cls) (hK : va_K D cl [] s) (hR : am_R D cl b Hb S s H) {r : vw_C} {i ci k a : Nat} (hc : cl[ci]? = some r) (hk : k < r.2.2) (hlink : Cond.fieldLink own i (r.2.1 k).1 (r.2.1 k).2.1 (r.2.1 k).2.2.1 ∈ Ts) {v : Value} (hv : am_getf S a ci k = some v) (hd : decode cc pc = .ok (.getfield i, 3))
    (kk : W p l0 e R s m args below meth c H locs cells slots Q (F0 m (pc + 3) ls (am_cv (am_ad b Hb.size) v :: rest))) : W p l0 e R s m args below meth c H locs cells slots Q (F0 m pc ls (.ref (am_ad b Hb.size a) :: rest)) := by
  unfold am_getf at hv
  split at hv
  · rename_i z cj fs hS
    split at hv
    · rename_i hci
      subst hci
      obtain ⟨j, r', rfl, hS2, h1, h2, cell, q1, q2, q3, q4⟩ := hR.obj hS
      have hr : r' = r := Option.some.inj (h1.symm.trans hc)
      subst hr
      obtain ⟨hin, -⟩ := hC _ _ hc
      obtain ⟨hSl, hfc, kC, hkC, hkind⟩ := hK.1 _ _ hc
      obtain ⟨cf, kf, fi, f, hi, hsl⟩ := hSl k hk
      refine W.getf hx hb hown (hts _ hlink) hi (u_facts hfc hkC (u_lays hts hin hk) hi).1 q1 (by rw [q3]; exact fun h => by cases h) (v := am_cv (am_ad b Hb.size) v) ?_ rfl rfl hd kk
      rw [hsl, q4 k hk]
      exact congrArg some (am_vpV_cv _ _ _ _ hv)
    · cases hv
  · cases hv
set_option maxHeartbeats 1000000 in
theorem am_put_ok (hx : p.tables.exec = Jvm.exec) (hb : c.code = cc) (hts : ∀ w ∈ Ts, w.before args s = true) (hC : am_Cls Ts cl tyL) (hown : s.vm.findClass own = some m.cls) (hK : va_K D cl [] s) (hR : am_R D cl b Hb S s H) (hL : ∀ q ∈ locs, Hb.size ≤ q.base) {r : vw_C} {i ci k a : Nat} {tys : List FieldType} (hc : cl[ci]? = some r) (hk : k < r.2.2) (hty : tyL[ci]? = some tys) (hlink : Cond.fieldLink own i (r.2.1 k).1 (r.2.1 k).2.1 (r.2.1 k).2.2.1 ∈ Ts) (hfin : (r.2.1 k).2.2.2 = false ∨ (meth.name = "<init>" ∧ (r.2.1 k).1 = own)) {v : Value} (hv : am_okv (tys.getD k .int) v = true) {z : Nat} {fs : List Value} (hS : am_nth S a = some (z, some (.inr (ci, fs)))) (hd : decode cc pc = .ok (.putfield i, 3))
    (kk : ∀ (H1 : Heap) (locs1 : List Loc), am_R D cl b Hb (am_set S a (z, some (.inr (ci, fs.set k v)))) s H1 → (∀ q ∈ locs1, Hb.size ≤ q.base) → W p l0 e R s m args below meth c H1 locs1 cells slots Q (F0 m (pc + 3) ls rest)) : W p l0 e R s m args below meth c H locs cells slots Q (F0 m pc ls (am_cv (am_ad b Hb.size) v :: .ref (am_ad b Hb.size a) :: rest)) := by
  obtain ⟨j, r', rfl, hS2, h1, h2, cell, q1, q2, q3, q4⟩ := hR.obj hS
  have hr : r' = r := Option.some.inj (h1.symm.trans hc)
  subst hr
  obtain ⟨hin, ⟨tys', hty', htl, htd⟩, hnm, -⟩ := hC _ _ hc
  have ht : tys' = tys := Option.some.inj (hty'.symm.trans hty)
  subst ht
  have hap := va_apart (own := own) (ty := fun k => tys'.getD k .int) hts hin htd hnm hK hc
  obtain ⟨hSl, hfc, kC, hkC, hkind⟩ := hK.1 _ _ hc
  obtain ⟨cf, kf, fi, f, hi, hsl⟩ := hSl k hk
  have hst := (u_facts hfc hkC (u_lays hts hin hk) hi).1
  obtain ⟨hn, hfit⟩ := am_okv_of (ad := am_ad b Hb.size) hv
  have hlt : f.slot < cell.slots.size := by rw [hsl]; exact k2_hasslot (q4 k hk)
  have go : ∀ H' : Heap, H'[Hb.size + j]? = some (cell.setSlot f.slot (am_cv (am_ad b Hb.size) v)) → H'.size = H.size → (∀ q, q ≠ Hb.size + j → H'[q]? = H[q]?) → W p l0 e R s m args below meth c H' (locs ++ [⟨Hb.size + j, f.slot⟩]) cells slots Q (F0 m (pc + 3) ls rest) := by
    intro H' e1 e2 e3
    refine kk H' _ (hR.put hS2 ⟨r', hc, by rw [List.length_set]; exact h2, ?_⟩ e2 e3) ?_
    · refine ⟨_, e1, q2, q3, fun k' hk' => ?_⟩
      rw [hsl]
      have h9 := t_set q4 hap hk (am_cv (am_ad b Hb.size) v) k' hk'
      rw [h9, am_updV_cv (am_ad b Hb.size) (show k < fs.length by rw [h2]; exact hk) v k']
    · intro q hq
      rcases List.mem_append.mp hq with h | h
      · exact hL q h
      · rw [List.mem_singleton.mp h]
        exact Nat.le_add_right _ _
  rcases hfin with hfin | ⟨hin2, hdecl⟩
  · by_cases hF : (r'.2.1 k).2.2.2 = true
    · rw [hF] at hfin; cases hfin
    · have hlay := hts _ (hin _ (u_in_lay hk))
      unfold u_lay at hlay
      rw [if_neg hF] at hlay
      have h6 := u_store hfc hkC hkind hlay hi (htd k hk) hn hfit
      exact W.putK hx hb (f := f) ⟨hown, hts _ hlink, ⟨_, _, _, hi⟩, hst⟩ (by rw [q2]; exact h6) q1 q3 hlt rfl rfl hd go
  · by_cases hF : (r'.2.1 k).2.2.2 = true
    · have hlay := hts _ (hin _ (u_in_lay hk))
      unfold u_lay at hlay
      rw [if_pos hF] at hlay
      have hcf : m.cls = cf := by
        obtain ⟨_, _, c', _, _, _, -, -, hf', -, -, -, hown2, -⟩ := Cond.laysFinal_spec hlay
        have e1 : c' = cf := by have := hi.symm.trans hf'; simp at this; exact this.1.symm
        rw [hdecl] at hown2
        rw [← e1]; exact Option.some.inj (hown.symm.trans hown2)
      have h6 := u_fits hfc hkC hkind (Or.inr hlay) hi (htd k hk) hn hfit
      exact W.putFinK hx hb hown (hts _ hlink) hi hst hcf hin2 (by rw [q2]; exact h6) q1 q3 hlt rfl rfl hd go
    · have hlay := hts _ (hin _ (u_in_lay hk))
      unfold u_lay at hlay
      rw [if_neg hF] at hlay
      have h6 := u_store hfc hkC hkind hlay hi (htd k hk) hn hfit
      exact W.putK hx hb (f := f) ⟨hown, hts _ hlink, ⟨_, _, _, hi⟩, hst⟩ (by rw [q2]; exact h6) q1 q3 hlt rfl rfl hd go
end AMH
