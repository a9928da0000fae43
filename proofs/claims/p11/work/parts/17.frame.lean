/-! a run that is done without the script is done with any script -/
theorem am_nth0 {L : Nat × List am_C} {a z : Nat} {x : am_E} (h : am_nth ((0, none), L) a = some (z, some x)) (c1 : am_C) : am_nth (c1, L) a = some (z, some x) := by
  cases a with
  | zero => cases h
  | succ k => exact h
theorem am_nth0_ne {L : Nat × List am_C} {a z : Nat} {x : am_E} (h : am_nth ((0, none), L) a = some (z, some x)) (c1 : am_C) : am_nth (c1, L) a = am_nth ((0, none), L) a := by
  cases a with
  | zero => cases h
  | succ k => rfl
theorem am_getf0 {L : Nat × List am_C} {a ci k : Nat} {v : Value} (h : am_getf ((0, none), L) a ci k = some v) (c1 : am_C) : am_getf (c1, L) a ci k = some v := by
  unfold am_getf at h ⊢
  split at h
  · rename_i z cj fs hS
    rw [am_nth0 hS c1]
    exact h
  · cases h
theorem am_geta0 {L : Nat × List am_C} {a : Nat} {i : Int32} {ty : FieldType} {v : Value} (h : am_geta ((0, none), L) a i ty = some v) (c1 : am_C) : am_geta (c1, L) a i ty = some v ∧ ∀ ty', am_geta (c1, L) a i ty' = am_geta ((0, none), L) a i ty' := by
  cases a with
  | zero => cases h
  | succ k => exact ⟨h, fun _ => rfl⟩
theorem am_seta_s (c1 : am_C) (L : Nat × List am_C) (k : Nat) (i : Int32) (ty : FieldType) (v : Value) : am_seta (c1, L) (k + 1) i ty v = (am_seta ((0, none), L) (k + 1) i ty v).map (fun S => (c1, S.2)) := by
  unfold am_seta
  have e1 : am_nth (c1, L) (k + 1) = am_nth ((0, none), L) (k + 1) := rfl
  rw [e1]
  rcases am_nth ((0, none), L) (k + 1) with _ | ⟨z, _ | ⟨t, n, d, u⟩ | o⟩
  · rfl
  · rfl
  · by_cases hc : t = ty ∧ ¬ (i < 0 ∨ n ≤ i.toNatClampNeg)
    · show (if _ then _ else _) = Option.map _ (if _ then _ else _)
      rw [if_pos hc, if_pos hc]
      rfl
    · show (if _ then _ else _) = Option.map _ (if _ then _ else _)
      rw [if_neg hc, if_neg hc]
      rfl
  · rfl
theorem am_seta0 {L : Nat × List am_C} {a : Nat} {i : Int32} {ty : FieldType} {v : Value} {S' : am_S} (h : am_seta ((0, none), L) a i ty v = some S') (c1 : am_C) : S'.1 = (0, none) ∧ am_seta (c1, L) a i ty v = some (c1, S'.2) ∧ ∀ ty' v', am_seta ((0, none), L) a i ty' v' = none → am_seta (c1, L) a i ty' v' = none := by
  cases a with
  | zero =>
    unfold am_seta at h
    cases h
  | succ k =>
    refine ⟨?_, by rw [am_seta_s, h]; rfl, fun ty' v' h' => by rw [am_seta_s, h']; rfl⟩
    obtain ⟨j, z, n, dv, u, e, hS, hc, rfl⟩ := am_seta_of h
    rfl
set_option maxHeartbeats 4000000 in
theorem am_heap0 {cl : List vw_C} {tyL : List (List FieldType)} {T : am_T} {ins : Instr} {len pc : Nat} {st : List Value} {L : Nat × List am_C} {pc' dc ds : Nat} {st' : List Value} {S' : am_S} (h : am_heap cl tyL T ins len pc st ((0, none), L) = some (pc', st', S', dc, ds)) (c1 : am_C) : S'.1 = (0, none) ∧ am_heap cl tyL T ins len pc st (c1, L) = some (pc', st', (c1, S'.2), dc, ds) := by
  unfold am_heap at h
  split at h
  · split at h
    · rename_i ci k hi
      obtain ⟨v, hv, e9⟩ := Option.map_eq_some_iff.mp h; cases e9
      refine ⟨rfl, ?_⟩
      simp only [am_heap, hi, am_getf0 hv c1, Option.map_some]
    · cases h
  · split at h
    · rename_i ci k hi
      split at h
      · rename_i z cj fs hS
        split at h
        · rename_i tys hty
          split at h
          · rename_i hc
            cases h
            refine ⟨rfl, ?_⟩
            simp only [am_heap, hi, am_nth0 hS c1, hty]
            rw [if_pos hc]
            rfl
          · cases h
        · cases h
      · cases h
    · cases h
  · split at h
    · rename_i ci hi
      obtain ⟨tys, hty, e9⟩ := Option.map_eq_some_iff.mp h; cases e9
      refine ⟨rfl, ?_⟩
      simp only [am_heap, hi, hty, Option.map_some]
      rfl
    · cases h
  · split at h
    · cases h
    · rename_i hc
      split at h
      · rename_i ht
        cases h
        refine ⟨rfl, ?_⟩
        simp only [am_heap]
        rw [if_neg hc, if_pos ht]
        rfl
      · cases h
  · split at h
    · rename_i C hi
      split at h
      · cases h
      · rename_i hc
        cases h
        refine ⟨rfl, ?_⟩
        simp only [am_heap, hi]
        rw [if_neg hc]
        rfl
    · cases h
  · obtain ⟨v, hv, e9⟩ := Option.map_eq_some_iff.mp h; cases e9
    refine ⟨rfl, ?_⟩
    simp only [am_heap, (am_geta0 hv c1).1, Option.map_some]
  · obtain ⟨v, hv, e9⟩ := Option.map_eq_some_iff.mp h; cases e9
    refine ⟨rfl, ?_⟩
    simp only [am_heap, (am_geta0 hv c1).1, Option.map_some]
  · split at h
    · rename_i v hv
      cases h
      refine ⟨rfl, ?_⟩
      simp only [am_heap, (am_geta0 hv c1).1]
    · rename_i hn
      obtain ⟨v, hv, e9⟩ := Option.map_eq_some_iff.mp h; cases e9
      refine ⟨rfl, ?_⟩
      have h9 := (am_geta0 hv c1).2 .byte
      rw [hn] at h9
      simp only [am_heap, h9, (am_geta0 hv c1).1, Option.map_some]
  · split at h
    · rename_i hS
      obtain ⟨v, hv, e9⟩ := Option.map_eq_some_iff.mp h; cases e9
      refine ⟨rfl, ?_⟩
      simp only [am_heap, am_nth0 hS c1, (am_geta0 hv c1).1, Option.map_some]
    · cases h
  · split at h
    · rename_i hS
      cases h
      refine ⟨rfl, ?_⟩
      simp only [am_heap, am_nth0 hS c1]
    · cases h
  · obtain ⟨v, hv, e9⟩ := Option.map_eq_some_iff.mp h; cases e9
    obtain ⟨q1, q2, -⟩ := am_seta0 hv c1
    refine ⟨q1, ?_⟩
    simp only [am_heap, q2, Option.map_some]
  · obtain ⟨v, hv, e9⟩ := Option.map_eq_some_iff.mp h; cases e9
    obtain ⟨q1, q2, -⟩ := am_seta0 hv c1
    refine ⟨q1, ?_⟩
    simp only [am_heap, q2, Option.map_some]
  · split at h
    · rename_i v hv
      cases h
      obtain ⟨q1, q2, -⟩ := am_seta0 hv c1
      refine ⟨q1, ?_⟩
      simp only [am_heap, q2]
    · rename_i hn
      obtain ⟨v, hv, e9⟩ := Option.map_eq_some_iff.mp h; cases e9
      obtain ⟨q1, q2, q3⟩ := am_seta0 hv c1
      refine ⟨q1, ?_⟩
      simp only [am_heap, q3 _ _ hn, q2, Option.map_some]
  · split at h
    · rename_i hS
      split at h
      · rename_i r hr
        obtain ⟨v, hv, e9⟩ := Option.map_eq_some_iff.mp h; cases e9
        obtain ⟨q1, q2, -⟩ := am_seta0 hv c1
        refine ⟨q1, ?_⟩
        simp only [am_heap, am_nth0 hS c1, hr, q2, Option.map_some]
      · cases h
    · cases h
  · split at h
    · rename_i x hi
      cases h
      refine ⟨rfl, ?_⟩
      simp only [am_heap, hi]
    · cases h
  · split at h
    · rename_i x hi
      cases h
      refine ⟨rfl, ?_⟩
      simp only [am_heap, hi]
    · cases h
  · cases h
theorem am_lib0 {j : Nat} {ins : Instr} {st st' : List Value} {L : Nat × List am_C} {S' : am_S} (h : am_lib j ins st ((0, none), L) = some (st', S')) (c1 : am_C) : S'.1 = (0, none) ∧ am_lib j ins st (c1, L) = some (st', (c1, S'.2)) := by
  unfold am_lib at h
  split at h
  · split at h
    · rename_i hw
      cases h
      exact ⟨rfl, by simp only [am_lib]; rw [if_pos hw]⟩
    · cases h
  · split at h
    · rename_i hw
      cases h
      exact ⟨rfl, by simp only [am_lib]; rw [if_pos hw]⟩
    · cases h
  · split at h
    · rename_i hw
      cases h
      exact ⟨rfl, by simp only [am_lib]; rw [if_pos hw]⟩
    · cases h
  · split at h
    · rename_i h0 h1
      split at h
      · rename_i hc
        cases h
        refine ⟨rfl, ?_⟩
        simp only [am_lib]
        rw [am_nth0 h0 c1, am_nth0 h1 c1]
        show (if _ then _ else _) = _
        rw [if_pos hc]
        rfl
      · cases h
    · cases h
  · cases h
theorem am_own0 {P : List am_M} {j : Nat} {ins : Instr} {st : List Value} {L : Nat × List am_C} {q : am_M × List Value × List Value} (h : am_own P j ins st ((0, none), L) = some q) (c1 : am_C) : am_own P j ins st (c1, L) = some q := by
  unfold am_own at h ⊢
  split at h
  · cases h
  · rename_i M hM
    split at h
    · cases h
    · rename_i hlt
      show (if _ then _ else _) = _
      rw [if_neg hlt]
      split at h
      · exact h
      · exact h
      · rename_i b0 rs hrs
        split at h
        · rename_i z ci fs hS
          rw [am_nth0 hS c1]
          exact h
        · cases h
      · exact h
theorem am_heap_ret {cl : List vw_C} {tyL : List (List FieldType)} {T : am_T} {ret : Option FieldType} {ins : Instr} {len : Nat} {st : List Value} {r : Option Value} (h : am_ret ret ins len st = some r) (pc : Nat) (S : am_S) : am_heap cl tyL T ins len pc st S = none := by
  unfold am_ret at h
  split at h
  · rfl
  · rfl
  · rfl
  · rfl
  · cases h
theorem am_heap_cix {cl : List vw_C} {tyL : List (List FieldType)} {T : am_T} {ins : Instr} {len i : Nat} (h : am_cix ins len = some i) (pc : Nat) (st : List Value) (S : am_S) : am_heap cl tyL T ins len pc st S = none := by
  unfold am_cix at h
  split at h
  · rfl
  · rfl
  · rfl
  · cases h
set_option maxHeartbeats 4000000 in
theorem am_run0 {P : List am_M} {cl : List vw_C} {tyL : List (List FieldType)} (c1 : am_C) : ∀ (f d : Nat) (M : am_M) (pc : Nat) (l : am_L) (st : List Value) (L : Nat × List am_C) (r : Option Value) (S' : am_S) (dc ds : Nat), am_run P cl tyL f d M pc l st ((0, none), L) = some (r, S', dc, ds) → S'.1 = (0, none) ∧ am_run P cl tyL f d M pc l st (c1, L) = some (r, (c1, S'.2), dc, ds) := by
  intro f
  induction f with
  | zero =>
    intro d M pc l st L r S' dc ds h
    cases h
  | succ f ih =>
    intro d M pc l st L r S' dc ds h
    unfold am_run at h
    rw [am_run.eq_2]
    split at h
    · cases h
    · rename_i ins len hins
      try rw [hins]
      try dsimp only
      split at h
      · rename_i pc' l' st' hp
        try rw [hp]
        exact ih d M pc' l' st' L r S' dc ds h
      · rename_i hp
        try rw [hp]
        try dsimp only
        split at h
        · rename_i pc' st' S2 d2 n2 hh
          obtain ⟨e1, e2⟩ := am_heap0 hh c1
          obtain ⟨q, hq, e9⟩ := Option.map_eq_some_iff.mp h
          obtain ⟨q1, q2, q3, q4⟩ := q
          simp only [Prod.mk.injEq] at e9
          obtain ⟨rfl, rfl, rfl, rfl⟩ := e9
          have hS2 : S2 = ((0, none), S2.2) := by rw [← e1]
          rw [hS2] at hq
          obtain ⟨e3, e4⟩ := ih d M pc' l st' S2.2 q1 q2 q3 q4 hq
          rw [e2]
          try dsimp only
          rw [e4]
          exact ⟨e3, rfl⟩
        · rename_i hh
          split at h
          · rename_i r0 hr
            cases h
            rw [am_heap_ret hr]
            exact ⟨rfl, rfl⟩
          · rename_i hr
            split at h
            · cases h
            · rename_i d'
              split at h
              · cases h
              · rename_i i hi
                rw [am_heap_cix hi]
                try dsimp only
                split at h
                · cases h
                · rename_i j hj
                  try rw [hj]
                  try dsimp only
                  split at h
                  · rename_i hj4
                    try rw [if_pos hj4]
                    split at h
                    · rename_i st' S2 hlb
                      obtain ⟨e1, e2⟩ := am_lib0 hlb c1
                      have hS2 : S2 = ((0, none), S2.2) := by rw [← e1]
                      rw [hS2] at h
                      rw [e2]
                      exact ih (d' + 1) M (pc + 3) l st' S2.2 r S' dc ds h
                    · cases h
                  · rename_i hj4
                    try rw [if_neg hj4]
                    split at h
                    · cases h
                    · rename_i M' as rest hown2
                      rw [am_own0 hown2 c1]
                      try dsimp only
                      split at h
                      · cases h
                      · rename_i r1 S1 c2 n2 hrun
                        obtain ⟨e1, e2⟩ := ih d' M' 0 (lv_args 0 as) [] L r1 S1 c2 n2 hrun
                        have hS1 : S1 = ((0, none), S1.2) := by rw [← e1]
                        obtain ⟨q, hq, e9⟩ := Option.map_eq_some_iff.mp h
                        obtain ⟨q1, q2, q3, q4⟩ := q
                        simp only [Prod.mk.injEq] at e9
                        obtain ⟨rfl, rfl, rfl, rfl⟩ := e9
                        rw [hS1] at hq
                        obtain ⟨e3, e4⟩ := ih (d' + 1) M (pc + 3) l (r1.toList ++ rest) S1.2 q1 q2 q3 q4 hq
                        rw [e2]
                        try dsimp only
                        rw [e4]
                        exact ⟨e3, rfl⟩
