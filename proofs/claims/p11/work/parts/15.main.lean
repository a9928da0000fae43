/-! THE SMALL MACHINE IS RIGHT: what a run of it comes to, the JVM's machine comes to -/
/-- the machine stands in method M's body -/
def am_In (Ts : List Cond) (D : va_G) (cl : List vw_C) (AO : List String) (NL : am_NL) (M : am_M) (p : Program) (s : State) (m : MethodId) (args : Array Value) (meth : Method) (c : Code) : Prop :=
  p.tables.exec = Jvm.exec ∧ c.code = M.2.1 ∧ c.maxLocals = M.2.2.1 ∧ meth.name = M.1.name ∧ s.vm.findClass M.1.cls = some m.cls ∧ (∀ w ∈ Ts, w.before args s = true) ∧ am_Kx D cl AO NL s
/-- what a run says: from the state at its start the machine comes to Q, if it does so from every state at which the run ends -/
def am_Says (Ts : List Cond) (D : va_G) (cl : List vw_C) (AO : List String) (NL : am_NL) (KL b : Nat) (Hb : Heap) (l0 : Launch) (d : Nat) (M : am_M) (pc : Nat) (lc : am_L) (st : List Value) (S : am_S) (r : Option Value) (S' : am_S) (dc ds : Nat) : Prop :=
  ∀ (p : Program) (e : Env) (R : Room) (s : State) (m : MethodId) (args : Array Value) (below : List Frame) (meth : Method) (c : Code) (H : Heap) (locs : List Loc) (cells slots : Nat) (Q : State → Prop) (ls : Array Slot),
    am_In Ts D cl AO NL M p s m args meth c → d ≤ R.frames → d * KL ≤ R.locals → cells + dc ≤ R.cells → slots + ds ≤ R.slots → am_R D cl b Hb S s H → (∀ q ∈ locs, Hb.size ≤ q.base) → lv_has ls M.2.2.1 (am_cl (am_ad b Hb.size) lc) →
    (∀ (H1 : Heap) (locs1 : List Loc) (ls1 : Array Slot) (pc1 : Nat) (ins : Instr) (len : Nat) (st1 : List Value), decode M.2.1 pc1 = .ok (ins, len) → am_ret M.2.2.2.1 ins len st1 = some r → am_R D cl b Hb S' s H1 → (∀ q ∈ locs1, Hb.size ≤ q.base) → W p l0 e R s m args below meth c H1 locs1 (cells + dc) (slots + ds) Q (F0 m pc1 ls1 (st1.map (am_cv (am_ad b Hb.size))))) →
    W p l0 e R s m args below meth c H locs cells slots Q (F0 m pc ls (st.map (am_cv (am_ad b Hb.size))))
/-- a callee's contract out of what its run says -/
theorem am_met {Ts : List Cond} {P : List am_M} {D : va_G} {cl : List vw_C} {tyL : List (List FieldType)} {AO : List String} {NL : am_NL} {KL b : Nat} {Hb : Heap} {l0 : Launch} {d : Nat} {M : am_M} {as : List Value} {S : am_S} {r : Option Value} {S' : am_S} {dc ds : Nat} (hF : am_Fix Ts P cl tyL AO NL KL) (hM : M ∈ P) (hw : am_words as ≤ M.2.2.1) (h : am_Says Ts D cl AO NL KL b Hb l0 d M 0 (lv_args 0 as) [] S r S' dc ds) :
    Met l0 M.1 (Cond.code M.1 M.2.1 M.2.2.1 M.2.2.2.1 :: Ts) (am_rm KL d dc ds) (am_Pc D cl b Hb AO NL as S) (am_Qc D cl b Hb r S') dc ds (fun q => Hb.size ≤ q) := by
  obtain ⟨-, hpl, hcode, -⟩ := hF.2.2.2.2.2.2.2.2 M hM
  refine Met.ofW (cc := M.2.1) (maxL := M.2.2.1) (ret := M.2.2.2.1) hpl rfl ?_
  intro p e s m args below meth c s₁ B hml hv
  obtain ⟨rfl, hR, hK⟩ := hv
  have hts := atoms_spec (ws := Cond.code M.1 M.2.1 M.2.2.1 M.2.2.2.1 :: Ts) B.pre
  have hlocks := B.notSynchronized
  have hl := lv_entry (as.map (am_cv (am_ad b Hb.size))) (n := M.2.2.1) (by rw [am_sl_len]; unfold am_words at hw ⊢; rw [am_words_cv]; exact hw)
  rw [lg_entry_eq]
  rw [am_args_cv] at hl
  have h0 := h p e (headSpec (Cond.code M.1 M.2.1 M.2.2.1 M.2.2.2.1 :: Ts) (am_rm KL d dc ds)).room s m (as.map (am_cv (am_ad b Hb.size))).toArray below meth c s.heap [] 0 0 (MQ below (am_Qc D cl b Hb r S') (as.map (am_cv (am_ad b Hb.size))).toArray s dc ds (fun q => Hb.size ≤ q)) _
    ⟨B.exec, B.bytes, hml, (name_of_methodNamed B.named B.method).1, findClass_of_methodNamed B.named, fun w hw => hts w (List.mem_cons_of_mem _ hw), hK⟩ (Nat.le_refl _) (Nat.le_refl _) (by rw [Nat.zero_add]; exact Nat.le_refl _) (by rw [Nat.zero_add]; exact Nat.le_refl _) hR (fun q hq => by cases hq) hl
  refine h0 ?_
  intro H1 locs1 ls1 pc1 ins len st1 hd hr hR1 hL1
  rw [Nat.zero_add, Nat.zero_add]
  exact am_end B.exec B.bytes B.returns hlocks hd hr (fun t ht hW => ⟨rfl, by rw [ht]; exact hR1.moved hW.alike⟩) hL1
theorem am_own_mem {P : List am_M} {j : Nat} {ins : Instr} {st as rest : List Value} {S : am_S} {M : am_M} (h : am_own P j ins st S = some (M, as, rest)) : M ∈ P ∧ am_words as ≤ M.2.2.1 := by
  unfold am_own at h
  split at h
  · cases h
  · rename_i M0 hM
    split at h
    · cases h
    · split at h
      · split at h
        · rename_i hc
          cases h
          exact ⟨List.mem_of_getElem? hM, hc.2.2⟩
        · cases h
      · split at h
        · rename_i hc
          cases h
          refine ⟨List.mem_of_getElem? hM, ?_⟩
          have := hc.2.2
          unfold am_words at this ⊢
          rw [List.map_cons, List.sum_cons]
          show 1 + _ ≤ _
          omega
        · cases h
      · split at h
        · split at h
          · rename_i hc
            cases h
            refine ⟨List.mem_of_getElem? hM, ?_⟩
            have := hc.2.2
            unfold am_words at this ⊢
            rw [List.map_cons, List.sum_cons]
            show 1 + _ ≤ _
            omega
          · cases h
        · cases h
      · cases h
set_option maxHeartbeats 4000000 in
theorem am_sound {Ts : List Cond} {P : List am_M} {D : va_G} {cl : List vw_C} {tyL : List (List FieldType)} {AO : List String} {NL : am_NL} {KL b : Nat} {Hb : Heap} {l0 : Launch} (hF : am_Fix Ts P cl tyL AO NL KL) :
    ∀ (f d : Nat) (M : am_M), am_Body Ts P cl AO NL M → ∀ (pc : Nat) (lc : am_L) (st : List Value) (S : am_S) (r : Option Value) (S' : am_S) (dc ds : Nat), am_run P cl tyL f d M pc lc st S = some (r, S', dc, ds) → am_Says Ts D cl AO NL KL b Hb l0 d M pc lc st S r S' dc ds := by
  intro f
  induction f with
  | zero =>
    intro d M hB pc lc st S r S' dc ds h
    cases h
  | succ f ih =>
    intro d M hB pc lc st S r S' dc ds h p e R s m args below meth c H locs cells slots Q ls hIn hRf hRl hcs hss hR hL hl kend
    have hIn0 := hIn
    obtain ⟨hx, hb, hml, hnm, hown, hts, hK⟩ := hIn
    unfold am_run at h
    split at h
    · cases h
    · rename_i ins len hins
      have hd : decode M.2.1 pc = .ok (ins, len) := hB.2.1 (pc, ins, len) (am_find_mem hins)
      split at h
      · rename_i pc' l' st' hp
        exact am_pure_ok hx hb hd hp hl (fun ls' hl' => ih d M hB pc' l' st' S r S' dc ds h p e R s m args below meth c H locs cells slots Q ls' hIn0 hRf hRl hcs hss hR hL hl' kend)
      · split at h
        · rename_i pc' st' S2 d2 n2 hp
          obtain ⟨q, hq, e9⟩ := Option.map_eq_some_iff.mp h
          obtain ⟨q1, q2, q3, q4⟩ := q
          simp only [Prod.mk.injEq] at e9
          obtain ⟨rfl, rfl, rfl, rfl⟩ := e9
          refine am_heap_ok hx hb hts hF.1 hown hnm hB.1 hF.2.1 hK.2.1 hK.1 hR hL hd hp (by omega) (by omega) (fun H1 locs1 hR1 hL1 => ?_)
          refine ih d M hB pc' lc st' S2 q1 q2 q3 q4 hq p e R s m args below meth c H1 locs1 (cells + d2) (slots + n2) Q ls hIn0 hRf hRl (by omega) (by omega) hR1 hL1 hl ?_
          rw [Nat.add_assoc, Nat.add_assoc]
          exact kend
        · split at h
          · rename_i r0 hr
            cases h
            exact kend H locs ls pc ins len st hd hr hR hL
          · split at h
            · cases h
            · rename_i d'
              split at h
              · cases h
              · rename_i i hi
                have hlen : len = 3 := by
                  unfold am_cix at hi
                  split at hi <;> first | rfl | cases hi
                subst hlen
                split at h
                · cases h
                · rename_i j hj
                  obtain ⟨hl0, hl1, hl2, hl3, hl4⟩ := hB.2.2 _ (am_find_mem hj)
                  have hms : c.maxLocals = ls.size := by rw [hml]; exact hl.1.symm
                  split at h
                  · split at h
                    · rename_i st' S2 hlb
                      exact am_lib_ok hF hx hb hms hts hown hRf hRl (by omega) (by omega) hR hL hl0 hl1 hl2 hl3 hi hd hlb (fun H1 locs1 hR1 hL1 => ih (d' + 1) M hB (pc + 3) lc st' S2 r S' dc ds h p e R s m args below meth c H1 locs1 cells slots Q ls hIn0 hRf hRl hcs hss hR1 hL1 hl kend)
                    · cases h
                  · rename_i hj4
                    split at h
                    · cases h
                    · rename_i M' as rest hown2
                      split at h
                      · cases h
                      · rename_i r1 S1 c1 n1 hrun
                        obtain ⟨q, hq, e9⟩ := Option.map_eq_some_iff.mp h
                        obtain ⟨q1, q2, q3, q4⟩ := q
                        simp only [Prod.mk.injEq] at e9
                        obtain ⟨rfl, rfl, rfl, rfl⟩ := e9
                        obtain ⟨hM', hw⟩ := am_own_mem hown2
                        have hsay := ih d' M' (hF.2.2.2.2.2.2.2.2 M' hM').1 0 (lv_args 0 as) [] S r1 S1 c1 n1 hrun
                        refine am_own_ok hF hx hb hms hts hown hK hRf hRl (by omega) (by omega) hR hL (fun M9 h9 => hl4 M9 (by omega) h9) hi hd hown2 (am_met hF hM' hw hsay) (fun H1 locs1 hR1 hL1 => ?_)
                        refine ih (d' + 1) M hB (pc + 3) lc (r1.toList ++ rest) S1 q1 q2 q3 q4 hq p e R s m args below meth c H1 locs1 (cells + c1) (slots + n1) Q ls hIn0 hRf hRl (by omega) (by omega) hR1 hL1 hl ?_
                        rw [Nat.add_assoc, Nat.add_assoc]
                        exact kend
