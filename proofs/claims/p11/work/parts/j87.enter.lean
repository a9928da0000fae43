/-! the law's beginning; its end; switches -/
theorem am_Leads.trans {Ts : List Cond} {D : va_G} {cl : List vw_C} {AO : List String} {NL : am_NL} {KL b : Nat} {Hb : Heap} {l0 : Launch} {d : Nat} {M : am_M} {pc : Nat} {lc : am_L} {st : List Value} {S : am_S} {pc1 : Nat} {lc1 : am_L} {st1 : List Value} {S1 : am_S} {c1 n1 : Nat} {pc2 : Nat} {lc2 : am_L} {st2 : List Value} {S2 : am_S} {c2 n2 : Nat} (h1 : am_Leads Ts D cl AO NL KL b Hb l0 d M pc lc st S pc1 lc1 st1 S1 c1 n1) (h2 : am_Leads Ts D cl AO NL KL b Hb l0 d M pc1 lc1 st1 S1 pc2 lc2 st2 S2 c2 n2) : am_Leads Ts D cl AO NL KL b Hb l0 d M pc lc st S pc2 lc2 st2 S2 (c1 + c2) (n1 + n2) := by
  intro p e R s m args below meth c H locs cells slots Q ls hIn hRf hRl hcs hss hR hL hl kk
  refine h1 p e R s m args below meth c H locs cells slots Q ls hIn hRf hRl (by omega) (by omega) hR hL hl ?_
  intro H1 locs1 ls1 hR1 hL1 hl1
  refine h2 p e R s m args below meth c H1 locs1 _ _ Q ls1 hIn hRf hRl (by omega) (by omega) hR1 hL1 hl1 ?_
  rw [Nat.add_assoc, Nat.add_assoc]
  exact kk
def lw_L : am_L := [(4, .int 0), (3, .ref 1899), (2, .ref 1826), (1, .ref 1), (0, .ref 0)]
set_option maxRecDepth 100000 in
theorem le_1 (c0 : am_C) : am_many at_P at_cl at_ty 0 13 mt_law 2 0 [(0, .ref 0)] [] (c0, 0, []) = some (4, [(0, .ref 0)], [.ref 1, .ref 1], (c0, ss_0.2), 1, 9) := rfl
set_option maxRecDepth 100000 in
theorem le_3 (c0 : am_C) : am_many at_P at_cl at_ty 0 13 mt_law 3 7 [(0, .ref 0)] [.ref 1] (c0, ss_5.2) = some (12, [(1, .ref 1), (0, .ref 0)], [.ref 1826, .ref 1826], (c0, ss_6.2), 1, 115) := rfl
set_option maxRecDepth 100000 in
theorem le_5 (c0 : am_C) : am_many at_P at_cl at_ty 0 13 mt_law 6 15 [(1, .ref 1), (0, .ref 0)] [.ref 1826] (c0, ss_7.2) = some (23, lw_L, [], (c0, s8), 1, 1) := rfl
theorem le_2 (c0 : am_C) : ∃ f, am_one at_P at_cl at_ty f 13 mt_law 4 [(0, .ref 0)] [.ref 1, .ref 1] (c0, ss_0.2) = some (7, [(0, .ref 0)], [.ref 1], (c0, ss_5.2), 1824, 55935) := by
  obtain ⟨f, h⟩ := kx0
  exact ⟨f, am_one_call (i := 21) (j := 0) (M' := mt_0) (as := [.ref 1]) (rest := [.ref 1]) (r := none) rfl rfl rfl rfl (am_run0 c0 f 12 mt_0 0 [(0, .ref 1)] [] ss_0.2 none ss_5 1824 55935 h).2⟩
theorem le_4 (c0 : am_C) : am_one at_P at_cl at_ty 2000 13 mt_law 12 [(1, .ref 1), (0, .ref 0)] [.ref 1826, .ref 1826] (c0, ss_6.2) = some (15, [(1, .ref 1), (0, .ref 0)], [.ref 1826], (c0, ss_7.2), 72, 219937) :=
  am_one_call (i := 24) (j := 152) (M' := mt_152) (as := [.ref 1826]) (rest := [.ref 1826]) (r := none) rfl rfl rfl rfl (am_run0 c0 2000 12 mt_152 0 [(0, .ref 1826)] [] ss_6.2 none ss_7 72 219937 km).2
theorem lw_enter {D : va_G} {b : Nat} {Hb : Heap} {l0 : Launch} (c0 : am_C) : am_Leads at_Ts D at_cl at_AO at_NL 60 b Hb l0 13 mt_law 0 [(0, .ref 0)] [] (c0, 0, []) 23 lw_L [] (c0, s8) 1899 275997 := by
  obtain ⟨f, h2⟩ := le_2 c0
  exact (am_many_ok at_Fix bd_law 2 (le_1 c0)).trans ((am_one_ok at_Fix bd_law h2).trans ((am_many_ok at_Fix bd_law 3 (le_3 c0)).trans ((am_one_ok at_Fix bd_law (le_4 c0)).trans (am_many_ok at_Fix bd_law 6 (le_5 c0)))))
section LWE
variable {p : Program} {l0 : Launch} {e : Env} {R : Room} {s : State} {m : MethodId} {args : Array Value} {below : List Frame} {meth : Method} {c : Code} {H : Heap} {locs : List Loc} {cells slots : Nat} {Q : State → Prop}
variable {pc : Nat} {ls : Array Slot} {D : va_G} {b : Nat} {Hb : Heap} {S : am_S}
/-- what is left of the law runs to its end and answers 1 -/
theorem lw_says {d : Nat} {lc : am_L} {st : List Value} (h : am_G at_P at_cl at_ty d mt_law pc lc st S (fun r _ c n => r = some (.int 1) ∧ c = 0 ∧ n = 0)) (hIn : am_In at_Ts D at_cl at_AO at_NL mt_law p s m args meth c) (hRf : d ≤ R.frames) (hRl : d * 60 ≤ R.locals) (hcs : cells ≤ R.cells) (hss : slots ≤ R.slots) (hR : am_R D at_cl b Hb S s H) (hL : ∀ q ∈ locs, Hb.size ≤ q.base) (hl : lv_has ls 7 (am_cl (am_ad b Hb.size) lc))
    (kk : ∀ (H1 : Heap) (locs1 : List Loc) (ls1 : Array Slot) (pc1 : Nat), decode code pc1 = .ok (.ireturn, 1) → (∀ q ∈ locs1, Hb.size ≤ q.base) → W p l0 e R s m args below meth c H1 locs1 cells slots Q (F0 m pc1 ls1 [.int 1])) : W p l0 e R s m args below meth c H locs cells slots Q (F0 m pc ls (st.map (am_cv (am_ad b Hb.size)))) := by
  obtain ⟨f, r, S', c', n', h1, rfl, rfl, rfl⟩ := h
  refine am_sound at_Fix f d mt_law bd_law pc lc st S _ S' 0 0 h1 p e R s m args below meth c H locs cells slots Q ls hIn hRf hRl hcs hss hR hL hl ?_
  intro H1 locs1 ls1 pc1 ins len st1 hd hr hR1 hL1
  unfold am_ret at hr
  split at hr
  · rename_i x
    split at hr
    · rename_i hz; cases hz
    · split at hr
      · cases hr
        exact kk H1 locs1 ls1 pc1 hd hL1
      · cases hr
    · cases hr
  · split at hr
    · rename_i hz; cases hz
    · cases hr
  · split at hr
    · cases hr
    · cases hr
  · split at hr
    · cases hr
    · cases hr
  · cases hr
end LWE
