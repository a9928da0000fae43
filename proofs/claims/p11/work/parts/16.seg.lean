/-! stretches of one method's body: single steps (calls whole), many of them -/
def am_one (P : List am_M) (cl : List vw_C) (tyL : List (List FieldType)) (f d : Nat) (M : am_M) (pc : Nat) (l : am_L) (st : List Value) (S : am_S) : Option (Nat × am_L × List Value × am_S × Nat × Nat) := match am_find pc M.2.2.2.2.2.1 with
  | none => none
  | some (ins, len) => match am_pure M.2.2.1 ins len pc l st with
    | some (pc', l', st') => some (pc', l', st', S, 0, 0)
    | none => match am_heap cl tyL M.2.2.2.2.1 ins len pc st S with
      | some (pc', st', S', dc, ds) => some (pc', l, st', S', dc, ds)
      | none => match d with
        | 0 => none
        | d' + 1 => match am_cix ins len with
          | none => none
          | some i => match am_find i M.2.2.2.2.1.2.2.2.2.2 with
            | none => none
            | some j => if j < 4 then (match am_lib j ins st S with
                | some (st', S') => some (pc + 3, l, st', S', 0, 0)
                | none => none)
              else match am_own P (j - 4) ins st S with
                | none => none
                | some (M', as, rest) => match am_run P cl tyL f d' M' 0 (lv_args 0 as) [] S with
                  | none => none
                  | some (r, S1, c1, n1) => some (pc + 3, l, r.toList ++ rest, S1, c1, n1)
def am_many (P : List am_M) (cl : List vw_C) (tyL : List (List FieldType)) (f d : Nat) (M : am_M) : Nat → Nat → am_L → List Value → am_S → Option (Nat × am_L × List Value × am_S × Nat × Nat)
  | 0, pc, l, st, S => some (pc, l, st, S, 0, 0)
  | n + 1, pc, l, st, S => match am_one P cl tyL f d M pc l st S with
    | none => none
    | some (pc', l', st', S', dc, ds) => match am_many P cl tyL f d M n pc' l' st' S' with
      | none => none
      | some (pc2, l2, st2, S2, dc2, ds2) => some (pc2, l2, st2, S2, dc + dc2, ds + ds2)
/-- a stretch on the JVM's machine -/
def am_Leads (Ts : List Cond) (D : va_G) (cl : List vw_C) (AO : List String) (NL : am_NL) (KL b : Nat) (Hb : Heap) (l0 : Launch) (d : Nat) (M : am_M) (pc : Nat) (lc : am_L) (st : List Value) (S : am_S) (pc' : Nat) (lc' : am_L) (st' : List Value) (S' : am_S) (dc ds : Nat) : Prop :=
  ∀ (p : Program) (e : Env) (R : Room) (s : State) (m : MethodId) (args : Array Value) (below : List Frame) (meth : Method) (c : Code) (H : Heap) (locs : List Loc) (cells slots : Nat) (Q : State → Prop) (ls : Array Slot),
    am_In Ts D cl AO NL M p s m args meth c → d ≤ R.frames → d * KL ≤ R.locals → cells + dc ≤ R.cells → slots + ds ≤ R.slots → am_R D cl b Hb S s H → (∀ q ∈ locs, Hb.size ≤ q.base) → lv_has ls M.2.2.1 (am_cl (am_ad b Hb.size) lc) →
    (∀ (H1 : Heap) (locs1 : List Loc) (ls1 : Array Slot), am_R D cl b Hb S' s H1 → (∀ q ∈ locs1, Hb.size ≤ q.base) → lv_has ls1 M.2.2.1 (am_cl (am_ad b Hb.size) lc') → W p l0 e R s m args below meth c H1 locs1 (cells + dc) (slots + ds) Q (F0 m pc' ls1 (st'.map (am_cv (am_ad b Hb.size))))) →
    W p l0 e R s m args below meth c H locs cells slots Q (F0 m pc ls (st.map (am_cv (am_ad b Hb.size))))
set_option maxHeartbeats 4000000 in
theorem am_one_ok {Ts : List Cond} {P : List am_M} {D : va_G} {cl : List vw_C} {tyL : List (List FieldType)} {AO : List String} {NL : am_NL} {KL b : Nat} {Hb : Heap} {l0 : Launch} (hF : am_Fix Ts P cl tyL AO NL KL) {f d : Nat} {M : am_M} (hB : am_Body Ts P cl AO NL M) {pc : Nat} {lc : am_L} {st : List Value} {S : am_S} {pc' : Nat} {lc' : am_L} {st' : List Value} {S' : am_S} {dc ds : Nat} (h : am_one P cl tyL f d M pc lc st S = some (pc', lc', st', S', dc, ds)) : am_Leads Ts D cl AO NL KL b Hb l0 d M pc lc st S pc' lc' st' S' dc ds := by
  intro p e R s m args below meth c H locs cells slots Q ls hIn hRf hRl hcs hss hR hL hl kend
  obtain ⟨hx, hb, hml, hnm, hown, hts, hK⟩ := hIn
  unfold am_one at h
  split at h
  · cases h
  · rename_i ins len hins
    have hd : decode M.2.1 pc = .ok (ins, len) := hB.2.1 (pc, ins, len) (am_find_mem hins)
    split at h
    · rename_i pc1 l1 st1 hp
      cases h
      exact am_pure_ok hx hb hd hp hl (fun ls' hl' => kend _ _ _ hR hL hl')
    · split at h
      · rename_i pc1 st1 S1 d1 n1 hp
        cases h
        exact am_heap_ok hx hb hts hF.1 hown hnm hB.1 hF.2.1 hK.2.1 hK.1 hR hL hd hp hcs hss (fun H1 locs1 hR1 hL1 => kend _ _ _ hR1 hL1 hl)
      · split at h
        · cases h
        · rename_i d'
          split at h
          · cases h
          · rename_i i hi
            have hlen : len = 3 := by
              unfold am_cix at hi
              split at hi <;> first | rfl | cases hi
            subst hlen
            split at h
            · cases h
            · rename_i j hj
              obtain ⟨hl0, hl1, hl2, hl3, hl4⟩ := hB.2.2 _ (am_find_mem hj)
              have hms : c.maxLocals = ls.size := by rw [hml]; exact hl.1.symm
              split at h
              · split at h
                · rename_i st1 S1 hlb
                  cases h
                  exact am_lib_ok hF hx hb hms hts hown hRf hRl (by omega) (by omega) hR hL hl0 hl1 hl2 hl3 hi hd hlb (fun H1 locs1 hR1 hL1 => kend _ _ _ hR1 hL1 hl)
                · cases h
              · rename_i hj4
                split at h
                · cases h
                · rename_i M' as rest hown2
                  split at h
                  · cases h
                  · rename_i r1 S1 c1 n1 hrun
                    cases h
                    obtain ⟨hM', hw⟩ := am_own_mem hown2
                    have hsay := am_sound (D := D) (b := b) (Hb := Hb) (l0 := l0) hF f d' M' (hF.2.2.2.2.2.2.2.2 M' hM').1 0 (lv_args 0 as) [] S r1 S' dc ds hrun
                    exact am_own_ok hF hx hb hms hts hown hK hRf hRl hcs hss hR hL (fun M9 h9 => hl4 M9 (by omega) h9) hi hd hown2 (am_met hF hM' hw hsay) (fun H1 locs1 hR1 hL1 => kend _ _ _ hR1 hL1 hl)
theorem am_many_ok {Ts : List Cond} {P : List am_M} {D : va_G} {cl : List vw_C} {tyL : List (List FieldType)} {AO : List String} {NL : am_NL} {KL b : Nat} {Hb : Heap} {l0 : Launch} (hF : am_Fix Ts P cl tyL AO NL KL) {f d : Nat} {M : am_M} (hB : am_Body Ts P cl AO NL M) : ∀ (n : Nat) {pc : Nat} {lc : am_L} {st : List Value} {S : am_S} {pc' : Nat} {lc' : am_L} {st' : List Value} {S' : am_S} {dc ds : Nat}, am_many P cl tyL f d M n pc lc st S = some (pc', lc', st', S', dc, ds) → am_Leads Ts D cl AO NL KL b Hb l0 d M pc lc st S pc' lc' st' S' dc ds := by
  intro n
  induction n with
  | zero =>
    intro pc lc st S pc' lc' st' S' dc ds h
    cases h
    intro p e R s m args below meth c H locs cells slots Q ls hIn hRf hRl hcs hss hR hL hl kend
    exact kend H locs ls hR hL hl
  | succ n ih =>
    intro pc lc st S pc' lc' st' S' dc ds h
    unfold am_many at h
    split at h
    · cases h
    · rename_i pc1 l1 st1 S1 d1 n1 h1
      split at h
      · cases h
      · rename_i pc2 l2 st2 S2 d2 n2 h2
        cases h
        intro p e R s m args below meth c H locs cells slots Q ls hIn hRf hRl hcs hss hR hL hl kend
        refine am_one_ok hF hB h1 p e R s m args below meth c H locs cells slots Q ls hIn hRf hRl (by omega) (by omega) hR hL hl ?_
        intro H1 locs1 ls1 hR1 hL1 hl1
        refine ih h2 p e R s m args below meth c H1 locs1 _ _ Q ls1 hIn hRf hRl (by omega) (by omega) hR1 hL1 hl1 ?_
        rw [Nat.add_assoc, Nat.add_assoc]
        exact kend
