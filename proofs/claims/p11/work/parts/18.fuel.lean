/-! more fuel does no harm; a run out of stretches -/
set_option maxHeartbeats 4000000 in
theorem am_run_more {P : List am_M} {cl : List vw_C} {tyL : List (List FieldType)} : ∀ (f d : Nat) (M : am_M) (pc : Nat) (l : am_L) (st : List Value) (S : am_S) (x : Option Value × am_S × Nat × Nat), am_run P cl tyL f d M pc l st S = some x → am_run P cl tyL (f + 1) d M pc l st S = some x := by
  intro f
  induction f with
  | zero =>
    intro d M pc l st S x h
    cases h
  | succ f ih =>
    intro d M pc l st S x h
    unfold am_run at h
    rw [am_run.eq_2]
    split at h
    · cases h
    · rename_i ins len hins
      try rw [hins]
      try dsimp only
      split at h
      · rename_i pc' l' st' hp
        try rw [hp]
        exact ih d M pc' l' st' S x h
      · rename_i hp
        try rw [hp]
        try dsimp only
        split at h
        · rename_i pc' st' S2 d2 n2 hh
          obtain ⟨q, hq, e9⟩ := Option.map_eq_some_iff.mp h
          try rw [hh]
          try dsimp only
          rw [ih d M pc' l st' S2 q hq]
          exact congrArg some e9
        · rename_i hh
          try rw [hh]
          try dsimp only
          split at h
          · rename_i r0 hr
            try rw [hr]
            exact h
          · rename_i hr
            try rw [hr]
            try dsimp only
            split at h
            · cases h
            · rename_i d'
              split at h
              · cases h
              · rename_i i hi
                try rw [hi]
                try dsimp only
                split at h
                · cases h
                · rename_i j hj
                  try rw [hj]
                  try dsimp only
                  split at h
                  · rename_i hj4
                    try rw [if_pos hj4]
                    split at h
                    · rename_i st' S2 hlb
                      try rw [hlb]
                      exact ih (d' + 1) M (pc + 3) l st' S2 x h
                    · cases h
                  · rename_i hj4
                    try rw [if_neg hj4]
                    split at h
                    · cases h
                    · rename_i M' as rest hown2
                      try rw [hown2]
                      try dsimp only
                      split at h
                      · cases h
                      · rename_i r1 S1 c2 n2 hrun
                        rw [ih d' M' 0 (lv_args 0 as) [] S _ hrun]
                        try dsimp only
                        obtain ⟨q, hq, e9⟩ := Option.map_eq_some_iff.mp h
                        rw [ih (d' + 1) M (pc + 3) l (r1.toList ++ rest) S1 q hq]
                        exact congrArg some e9
theorem am_run_le {P : List am_M} {cl : List vw_C} {tyL : List (List FieldType)} {f d : Nat} {M : am_M} {pc : Nat} {l : am_L} {st : List Value} {S : am_S} {x : Option Value × am_S × Nat × Nat} (h : am_run P cl tyL f d M pc l st S = some x) : ∀ g, am_run P cl tyL (f + g) d M pc l st S = some x
  | 0 => h
  | g + 1 => am_run_more _ _ _ _ _ _ _ _ (am_run_le h g)
set_option maxHeartbeats 4000000 in
/-- a step, then a run -/
theorem am_run_one {P : List am_M} {cl : List vw_C} {tyL : List (List FieldType)} {f d : Nat} {M : am_M} {pc : Nat} {l : am_L} {st : List Value} {S : am_S} {pc' : Nat} {l' : am_L} {st' : List Value} {S' : am_S} {dc ds : Nat} {r : Option Value} {S2 : am_S} {c2 n2 : Nat} (h1 : am_one P cl tyL f d M pc l st S = some (pc', l', st', S', dc, ds)) (h2 : am_run P cl tyL f d M pc' l' st' S' = some (r, S2, c2, n2)) : am_run P cl tyL (f + 1) d M pc l st S = some (r, S2, dc + c2, ds + n2) := by
  unfold am_one at h1
  rw [am_run.eq_2]
  split at h1
  · cases h1
  · rename_i ins len hins
    try rw [hins]
    try dsimp only
    split at h1
    · rename_i pc1 l1 st1 hp
      cases h1
      try rw [hp]
      try dsimp only
      rw [h2, Nat.zero_add, Nat.zero_add]
    · rename_i hp
      try rw [hp]
      try dsimp only
      split at h1
      · rename_i pc1 st1 S1 d1 n1 hh
        cases h1
        try rw [hh]
        try dsimp only
        rw [h2]
        rfl
      · rename_i hh
        try rw [hh]
        try dsimp only
        split at h1
        · cases h1
        · rename_i d'
          split at h1
          · cases h1
          · rename_i i hi
            have hr : am_ret M.2.2.2.1 ins len st = none := by
              unfold am_cix at hi
              split at hi
              · rfl
              · rfl
              · rfl
              · cases hi
            rw [hr]
            try dsimp only
            try rw [hi]
            try dsimp only
            have h2' : am_run P cl tyL f (d' + 1) M pc' l' st' S' = some (r, S2, c2, n2) := h2
            split at h1
            · cases h1
            · rename_i j hj
              try rw [hj]
              try dsimp only
              split at h1
              · rename_i hj4
                try rw [if_pos hj4]
                split at h1
                · rename_i st1 S1 hlb
                  cases h1
                  try rw [hlb]
                  try dsimp only
                  rw [h2', Nat.zero_add, Nat.zero_add]
                · cases h1
              · rename_i hj4
                try rw [if_neg hj4]
                split at h1
                · cases h1
                · rename_i M' as rest hown2
                  try rw [hown2]
                  try dsimp only
                  split at h1
                  · cases h1
                  · rename_i r1 S1 c1 n1 hrun
                    cases h1
                    try rw [hrun]
                    try dsimp only
                    rw [h2']
                    rfl
theorem am_one_more {P : List am_M} {cl : List vw_C} {tyL : List (List FieldType)} {f d : Nat} {M : am_M} {pc : Nat} {l : am_L} {st : List Value} {S : am_S} {x : Nat × am_L × List Value × am_S × Nat × Nat} (h : am_one P cl tyL f d M pc l st S = some x) : am_one P cl tyL (f + 1) d M pc l st S = some x := by
  unfold am_one at h ⊢
  split at h
  · cases h
  · rename_i ins len hins
    try rw [hins]
    try dsimp only
    split at h
    · rename_i hp
      try rw [hp]
      exact h
    · rename_i hp
      try rw [hp]
      try dsimp only
      split at h
      · rename_i hh
        try rw [hh]
        exact h
      · rename_i hh
        try rw [hh]
        try dsimp only
        split at h
        · cases h
        · rename_i d'
          split at h
          · cases h
          · rename_i i hi
            try rw [hi]
            try dsimp only
            split at h
            · cases h
            · rename_i j hj
              try rw [hj]
              try dsimp only
              split at h
              · rename_i hj4
                try rw [if_pos hj4]
                exact h
              · rename_i hj4
                try rw [if_neg hj4]
                split at h
                · cases h
                · rename_i M' as rest hown2
                  try rw [hown2]
                  try dsimp only
                  split at h
                  · cases h
                  · rename_i r1 S1 c1 n1 hrun
                    rw [am_run_more _ _ _ _ _ _ _ _ hrun]
                    exact h
theorem am_one_le {P : List am_M} {cl : List vw_C} {tyL : List (List FieldType)} {f d : Nat} {M : am_M} {pc : Nat} {l : am_L} {st : List Value} {S : am_S} {x : Nat × am_L × List Value × am_S × Nat × Nat} (h : am_one P cl tyL f d M pc l st S = some x) : ∀ g, am_one P cl tyL (f + g) d M pc l st S = some x
  | 0 => h
  | g + 1 => am_one_more (am_one_le h g)
theorem am_run_many {P : List am_M} {cl : List vw_C} {tyL : List (List FieldType)} {f d : Nat} {M : am_M} : ∀ (n : Nat) {pc : Nat} {l : am_L} {st : List Value} {S : am_S} {pc' : Nat} {l' : am_L} {st' : List Value} {S' : am_S} {dc ds : Nat} {r : Option Value} {S2 : am_S} {c2 n2 : Nat}, am_many P cl tyL f d M n pc l st S = some (pc', l', st', S', dc, ds) → am_run P cl tyL f d M pc' l' st' S' = some (r, S2, c2, n2) → ∃ g, am_run P cl tyL (f + g) d M pc l st S = some (r, S2, dc + c2, ds + n2) := by
  intro n
  induction n with
  | zero =>
    intro pc l st S pc' l' st' S' dc ds r S2 c2 n2 h1 h2
    cases h1
    exact ⟨0, by rw [Nat.zero_add, Nat.zero_add]; exact h2⟩
  | succ n ih =>
    intro pc l st S pc' l' st' S' dc ds r S2 c2 n2 h1 h2
    unfold am_many at h1
    split at h1
    · cases h1
    · rename_i pc1 l1 st1 S1 d1 n1 ho
      split at h1
      · cases h1
      · rename_i pc3 l3 st3 S3 d3 n3 hm
        cases h1
        obtain ⟨g, hg⟩ := ih hm h2
        refine ⟨g + 1, ?_⟩
        have h9 := am_run_one (am_one_le ho g) hg
        rw [Nat.add_assoc, Nat.add_assoc]
        exact h9
/-- a call whose run is known -/
theorem am_one_call {P : List am_M} {cl : List vw_C} {tyL : List (List FieldType)} {f d : Nat} {M : am_M} {pc : Nat} {l : am_L} {st : List Value} {S : am_S} {ins : Instr} {i j : Nat} {M' : am_M} {as rest : List Value} {r : Option Value} {S1 : am_S} {c1 n1 : Nat} (hf : am_find pc M.2.2.2.2.2.1 = some (ins, 3)) (hi : am_cix ins 3 = some i) (hj : am_find i M.2.2.2.2.1.2.2.2.2.2 = some (j + 4)) (ho : am_own P j ins st S = some (M', as, rest)) (hr : am_run P cl tyL f d M' 0 (lv_args 0 as) [] S = some (r, S1, c1, n1)) : am_one P cl tyL f (d + 1) M pc l st S = some (pc + 3, l, r.toList ++ rest, S1, c1, n1) := by
  have hp : am_pure M.2.2.1 ins 3 pc l st = none := by
    unfold am_cix at hi
    split at hi
    · rfl
    · rfl
    · rfl
    · cases hi
  unfold am_one
  rw [hf]
  dsimp only
  rw [hp]
  dsimp only
  rw [am_heap_cix hi]
  dsimp only
  rw [hi]
  dsimp only
  rw [hj]
  dsimp only
  rw [if_neg (by omega), Nat.add_sub_cancel, ho]
  dsimp only
  rw [hr]
theorem am_many_le {P : List am_M} {cl : List vw_C} {tyL : List (List FieldType)} {f d : Nat} {M : am_M} : ∀ {n : Nat} {pc : Nat} {l : am_L} {st : List Value} {S : am_S} {x : Nat × am_L × List Value × am_S × Nat × Nat}, am_many P cl tyL f d M n pc l st S = some x → ∀ g, am_many P cl tyL (f + g) d M n pc l st S = some x := by
  intro n
  induction n with
  | zero =>
    intro pc l st S x h g
    exact h
  | succ n ih =>
    intro pc l st S x h g
    unfold am_many at h ⊢
    split at h
    · cases h
    · rename_i pc1 l1 st1 S1 d1 n1 ho
      rw [am_one_le ho g]
      dsimp only
      split at h
      · cases h
      · rename_i pc2 l2 st2 S2 d2 n2 hm
        rw [ih hm g]
        exact h
