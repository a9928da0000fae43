/-! code that writes no law's name leaves them -/
def KF (S S' : am_S) : Prop := ∀ (a z : Nat) (fs : List Value), am_nth S (a + 1) = some (z, some (.inr (4, fs))) → ∃ (z' : Nat) (fs' : List Value), am_nth S' (a + 1) = some (z', some (.inr (4, fs'))) ∧ (fs'[5]? = fs[5]? ∧ fs'[4]? = fs[4]? ∧ fs'[3]? = fs[3]?)
theorem KF_rf (S : am_S) : KF S S := fun _ z fs h => ⟨z, fs, h, rfl, rfl, rfl⟩
theorem KF_tr {A B C : am_S} (h1 : KF A B) (h2 : KF B C) : KF A C := by
  intro a z fs h
  obtain ⟨z1, f1, e1, e2⟩ := h1 a z fs h
  obtain ⟨z2, f2, e3, e4⟩ := h2 a z1 f1 e1
  exact ⟨z2, f2, e3, e4.1.trans e2.1, e4.2.1.trans e2.2.1, e4.2.2.trans e2.2.2⟩
theorem KF_add (S : am_S) (x : am_C) : KF S (am_add S x) := by
  intro a z fs h
  have := (am_nth_lt h).1
  exact ⟨z, fs, by rw [am_nth_add, if_neg (by omega)]; exact h, rfl, rfl, rfl⟩
theorem KF_0 (S : am_S) (x : am_C) : KF S (am_set S 0 x) := by
  intro a z fs h
  have hl := am_nth_lt h
  have h1 := hl.1
  refine ⟨z, fs, ?_, rfl, rfl, rfl⟩
  show (if a < S.2.1 then (S.2.2.set (S.2.1 - 0) x)[S.2.1 - 1 - a]? else none) = _
  rw [if_pos h1, List.getElem?_set_ne (by omega)]
  exact hl.2
theorem KF_arr {S : am_S} {k z : Nat} {y : FieldType × Nat × Value × List (Nat × Value)} {x : am_C} (h : am_nth S (k + 1) = some (z, some (.inl y))) : KF S (am_set S (k + 1) x) := by
  intro a z' fs h'
  by_cases e : a = k
  · subst e
    rw [h] at h'
    cases h'
  · refine ⟨z', fs, ?_, rfl, rfl, rfl⟩
    rw [am_nth_set x h a, if_neg e]
    exact h'
theorem KF_putf {S : am_S} {k z cj kk : Nat} {v : Value} {fs : List Value} (h : am_nth S k = some (z, some (.inr (cj, fs)))) (hn : ¬ (cj = 4 ∧ (kk = 5 ∨ kk = 4 ∨ kk = 3))) : KF S (am_set S k (z, some (.inr (cj, fs.set kk v)))) := by
  cases k with
  | zero => exact KF_0 _ _
  | succ k =>
    intro a z' fs' h'
    by_cases e : a = k
    · subst e
      rw [h] at h'
      cases h'
      exact ⟨z, fs.set kk v, by rw [am_nth_set _ h a, if_pos rfl], List.getElem?_set_ne (fun q => hn ⟨rfl, Or.inl q⟩), List.getElem?_set_ne (fun q => hn ⟨rfl, Or.inr (Or.inl q)⟩), List.getElem?_set_ne (fun q => hn ⟨rfl, Or.inr (Or.inr q)⟩)⟩
    · refine ⟨z', fs', ?_, rfl, rfl, rfl⟩
      rw [am_nth_set _ h a, if_neg e]
      exact h'
theorem KF_seta {S S' : am_S} {a : Nat} {i : Int32} {ty : FieldType} {v : Value} (h : am_seta S a i ty v = some S') : KF S S' := by
  unfold am_seta at h
  split at h
  · cases h
  · split at h
    · cases h
      exact KF_arr (by assumption)
    · cases h
  · cases h
set_option maxHeartbeats 4000000 in
theorem keep_heap {cl : List vw_C} {tyL : List (List FieldType)} {T : am_T} {ins : Instr} {len pc : Nat} {st : List Value} {S : am_S} {pc' : Nat} {st' : List Value} {S' : am_S} {dc ds : Nat} (h : am_heap cl tyL T ins len pc st S = some (pc', st', S', dc, ds)) (hT : ∀ q ∈ T.2.1, q.2 ≠ (4, 5) ∧ q.2 ≠ (4, 4) ∧ q.2 ≠ (4, 3)) : KF S S' := by
  unfold am_heap at h
  split at h
  · split at h
    · obtain ⟨v, hv, e9⟩ := Option.map_eq_some_iff.mp h; cases e9; exact KF_rf _
    · cases h
  · split at h
    · rename_i ci k hi
      split at h
      · split at h
        · split at h
          · rename_i hc
            cases h
            refine KF_putf (by assumption) (fun q => ?_)
            have hT9 := hT _ (am_find_mem hi)
            rcases q.2 with q2 | q2 | q2
            · exact hT9.1 (by show (ci, k) = (4, 5); rw [← hc.1, q.1, q2])
            · exact hT9.2.1 (by show (ci, k) = (4, 4); rw [← hc.1, q.1, q2])
            · exact hT9.2.2 (by show (ci, k) = (4, 3); rw [← hc.1, q.1, q2])
          · cases h
        · cases h
      · cases h
    · cases h
  · split at h
    · obtain ⟨v, hv, e9⟩ := Option.map_eq_some_iff.mp h; cases e9; exact KF_add _ _
    · cases h
  · split at h
    · cases h
    · split at h
      · cases h; exact KF_add _ _
      · cases h
  · split at h
    · split at h
      · cases h
      · cases h; exact KF_add _ _
    · cases h
  · obtain ⟨v, hv, e9⟩ := Option.map_eq_some_iff.mp h; cases e9; exact KF_rf _
  · obtain ⟨v, hv, e9⟩ := Option.map_eq_some_iff.mp h; cases e9; exact KF_rf _
  · split at h
    · cases h; exact KF_rf _
    · obtain ⟨v, hv, e9⟩ := Option.map_eq_some_iff.mp h; cases e9; exact KF_rf _
  · split at h
    · obtain ⟨v, hv, e9⟩ := Option.map_eq_some_iff.mp h; cases e9; exact KF_rf _
    · cases h
  · split at h
    · cases h; exact KF_rf _
    · cases h
  · obtain ⟨v, hv, e9⟩ := Option.map_eq_some_iff.mp h; cases e9; exact KF_seta hv
  · obtain ⟨v, hv, e9⟩ := Option.map_eq_some_iff.mp h; cases e9; exact KF_seta hv
  · split at h
    · rename_i h1
      cases h; exact KF_seta h1
    · obtain ⟨v, hv, e9⟩ := Option.map_eq_some_iff.mp h; cases e9; exact KF_seta hv
  · split at h
    · split at h
      · obtain ⟨v, hv, e9⟩ := Option.map_eq_some_iff.mp h; cases e9; exact KF_seta hv
      · cases h
    · cases h
  · split at h
    · cases h; exact KF_rf _
    · cases h
  · split at h
    · cases h; exact KF_rf _
    · cases h
  · cases h
theorem keep_lib {j : Nat} {ins : Instr} {st st' : List Value} {S S' : am_S} (h : am_lib j ins st S = some (st', S')) : KF S S' := by
  unfold am_lib at h
  split at h
  · split at h
    · cases h; exact KF_rf _
    · cases h
  · split at h
    · cases h; exact KF_rf _
    · cases h
  · split at h
    · cases h; exact KF_rf _
    · cases h
  · split at h
    · split at h
      · cases h
        exact KF_arr (by assumption)
      · cases h
    · cases h
  · cases h
theorem own_at {P : List am_M} {j : Nat} {ins : Instr} {st as rest : List Value} {S : am_S} {M : am_M} (h : am_own P j ins st S = some (M, as, rest)) : P[j]? = some M := by
  unfold am_own at h
  split at h
  · cases h
  · rename_i hM
    split at h
    · cases h
    · split at h
      · split at h
        · cases h; exact hM
        · cases h
      · split at h
        · cases h; exact hM
        · cases h
      · split at h
        · split at h
          · cases h; exact hM
          · cases h
        · cases h
      · cases h
/-- a method that writes no law's name, and calls only such -/
def gM (G : Nat → Bool) (M : am_M) : Bool := M.2.2.2.2.1.2.1.all (fun q => decide (q.2 ≠ (4, 5) ∧ q.2 ≠ (4, 4) ∧ q.2 ≠ (4, 3))) && M.2.2.2.2.1.2.2.2.2.2.all (fun q => Nat.ble q.2 3 || G (q.2 - 4))
theorem gM_1 {G : Nat → Bool} {M : am_M} (h : gM G M = true) : ∀ q ∈ M.2.2.2.2.1.2.1, q.2 ≠ (4, 5) ∧ q.2 ≠ (4, 4) ∧ q.2 ≠ (4, 3) := by
  unfold gM at h
  rw [Bool.and_eq_true] at h
  intro q hq
  exact of_decide_eq_true (List.all_eq_true.mp h.1 q hq)
theorem gM_2 {G : Nat → Bool} {M : am_M} {i j : Nat} (h : gM G M = true) (hi : am_find i M.2.2.2.2.1.2.2.2.2.2 = some j) (hj : ¬ j < 4) : G (j - 4) = true := by
  unfold gM at h
  rw [Bool.and_eq_true] at h
  have q := List.all_eq_true.mp h.2 _ (am_find_mem hi)
  rw [Bool.or_eq_true] at q
  rcases q with q | q
  · have := Nat.le_of_ble_eq_true q
    omega
  · exact q
set_option maxHeartbeats 4000000 in
theorem keep_run {P : List am_M} {cl : List vw_C} {tyL : List (List FieldType)} {G : Nat → Bool} (hP : ∀ (i : Nat) (M : am_M), P[i]? = some M → G i = true → gM G M = true) : ∀ (f d : Nat) (M : am_M) (pc : Nat) (l : am_L) (st : List Value) (S : am_S) (r : Option Value) (S' : am_S) (c n : Nat), gM G M = true → am_run P cl tyL f d M pc l st S = some (r, S', c, n) → KF S S' := by
  intro f
  induction f with
  | zero =>
    intro d M pc l st S r S' c n _ h
    cases h
  | succ f ih =>
    intro d M pc l st S r S' c n hM h
    unfold am_run at h
    split at h
    · cases h
    · split at h
      · exact ih _ _ _ _ _ _ _ _ _ _ hM h
      · split at h
        · rename_i hh
          obtain ⟨q, hq, e9⟩ := Option.map_eq_some_iff.mp h
          obtain ⟨r1, S1, c1, n1⟩ := q
          cases e9
          exact KF_tr (keep_heap hh (gM_1 hM)) (ih _ _ _ _ _ _ _ _ _ _ hM hq)
        · split at h
          · cases h
            exact KF_rf _
          · split at h
            · cases h
            · split at h
              · cases h
              · split at h
                · cases h
                · rename_i hj
                  split at h
                  · split at h
                    · rename_i hl
                      exact KF_tr (keep_lib hl) (ih _ _ _ _ _ _ _ _ _ _ hM h)
                    · cases h
                  · rename_i hlt
                    split at h
                    · cases h
                    · rename_i ho
                      split at h
                      · cases h
                      · rename_i hr
                        obtain ⟨q, hq, e9⟩ := Option.map_eq_some_iff.mp h
                        obtain ⟨r1, S2, c2, n2⟩ := q
                        cases e9
                        exact KF_tr (ih _ _ _ _ _ _ _ _ _ _ (hP _ _ (own_at ho) (gM_2 hM hj hlt)) hr) (ih _ _ _ _ _ _ _ _ _ _ hM hq)
def gG (i : Nat) : Bool := !(Nat.beq i 3 || Nat.beq i 62 || Nat.beq i 68 || Nat.beq i 69)
set_option maxRecDepth 1000000 in
theorem gG_all : (List.range 273).all (fun i => !(gG i) || (match at_P[i]? with | some M => gM gG M | none => true)) = true := by decide +kernel
set_option maxRecDepth 1000000 in
theorem len_P : at_P.length = 273 := by decide +kernel
theorem gG_P : ∀ (i : Nat) (M : am_M), at_P[i]? = some M → gG i = true → gM gG M = true := by
  intro i M h hg
  have hi : i < 273 := by
    have := (List.getElem?_eq_some_iff.mp h).1
    rw [len_P] at this
    exact this
  have q := List.all_eq_true.mp gG_all i (List.mem_range.mpr hi)
  rw [h, hg] at q
  exact q
/-- the names of laws stay -/
def LN (H K : hp) : Prop := (∀ l : Nat, l < 16 → K.1 (265 + 6 * l) 5 = H.1 (265 + 6 * l) 5) ∧ (∀ r : Nat, r < 40 → K.1 (25 + 6 * r) 4 = H.1 (25 + 6 * r) 4) ∧ ∀ l : Nat, l < 16 → K.1 (265 + 6 * l) 3 = H.1 (265 + 6 * l) 3
def rwb (x : Option zsh) : Bool := match x with
  | some (.inl (4, ds)) => (match (ds[4]? : Option zsd) with
    | some (Sum.inl FieldType.int) => true
    | _ => false)
  | _ => false
theorem rwb_ok {x : Option zsh} (h : rwb x = true) : ∃ ds : List zsd, x = some (.inl (4, ds)) ∧ ds[4]? = some (.inl .int) := by
  unfold rwb at h
  split at h
  · rename_i ds
    split at h
    · rename_i hd
      exact ⟨ds, rfl, hd⟩
    · cases h
  · cases h
theorem rwb_all : (List.range 40).all (fun r => rwb (zs zK (25 + 6 * r))) = true := by decide +kernel
theorem zs_rule : ∀ r : Nat, r < 40 → ∃ ds : List zsd, zs zK (25 + 6 * r) = some (.inl (4, ds)) ∧ ds[4]? = some (.inl .int) := fun l hl => rwb_ok (List.all_eq_true.mp rwb_all l (List.mem_range.mpr hl))
def vwb (x : Option zsh) : Bool := match x with
  | some (.inl (4, ds)) => (match (ds[3]? : Option zsd) with
    | some (Sum.inl FieldType.int) => true
    | _ => false)
  | _ => false
theorem vwb_ok {x : Option zsh} (h : vwb x = true) : ∃ ds : List zsd, x = some (.inl (4, ds)) ∧ ds[3]? = some (.inl .int) := by
  unfold vwb at h
  split at h
  · rename_i ds
    split at h
    · rename_i hd
      exact ⟨ds, rfl, hd⟩
    · cases h
  · cases h
theorem vwb_all : (List.range 16).all (fun l => vwb (zs zK (265 + 6 * l))) = true := by decide +kernel
theorem zs_lvar : ∀ l : Nat, l < 16 → ∃ ds : List zsd, zs zK (265 + 6 * l) = some (.inl (4, ds)) ∧ ds[3]? = some (.inl .int) := fun l hl => vwb_ok (List.all_eq_true.mp vwb_all l (List.mem_range.mpr hl))
def lwb (x : Option zsh) : Bool := match x with
  | some (.inl (4, ds)) => (match (ds[5]? : Option zsd) with
    | some (Sum.inl FieldType.long) => true
    | _ => false)
  | _ => false
theorem lwb_ok {x : Option zsh} (h : lwb x = true) : ∃ ds : List zsd, x = some (.inl (4, ds)) ∧ ds[5]? = some (.inl .long) := by
  unfold lwb at h
  split at h
  · rename_i ds
    split at h
    · rename_i hd
      exact ⟨ds, rfl, hd⟩
    · cases h
  · cases h
theorem lwb_all : (List.range 16).all (fun l => lwb (zs zK (265 + 6 * l))) = true := by decide +kernel
theorem zs_law : ∀ l : Nat, l < 16 → ∃ ds : List zsd, zs zK (265 + 6 * l) = some (.inl (4, ds)) ∧ ds[5]? = some (.inl .long) := fun l hl => lwb_ok (List.all_eq_true.mp lwb_all l (List.mem_range.mpr hl))
theorem h_names {d pc : Nat} {M : am_M} {l : zl} {st : List zv} {H : hp} {Q : Option zv → hp → Prop} (hM : gM gG M = true) (h : hG (zs zK) d M pc l st H Q) : hG (zs zK) d M pc l st H (fun r K => Q r K ∧ LN H K) := by
  intro S lc hz hl
  obtain ⟨f, r, S', c, n, e, hc, hn, r', K, h1, h2, h3, h4⟩ := h S lc hz hl
  refine ⟨f, r, S', c, n, e, hc, hn, r', K, h1, h2, h3, h4, ?_⟩
  have hk := keep_run gG_P f d M pc lc _ S r S' c n hM e
  refine ⟨?_, fun i hi => ?_, fun i hi => ?_⟩
  rotate_left
  · obtain ⟨ds, hs, hd⟩ := zs_rule i hi
    obtain ⟨⟨z, fs, e1, -, e2⟩, g1⟩ := hz _ _ hs
    obtain ⟨⟨z', fs', e1', -, e2'⟩, g2⟩ := h2 _ _ hs
    obtain ⟨z2, f2, k1, -, k2, -⟩ := hk (24 + 6 * i) z fs (by rw [show 24 + 6 * i + 1 = 25 + 6 * i by omega]; exact e1)
    rw [show 24 + 6 * i + 1 = 25 + 6 * i by omega, e1'] at k1
    cases k1
    rw [e2 4 _ hd, e2' 4 _ hd] at k2
    have k3 : Value.int (Int32.ofInt (K.1 (25 + 6 * i) 4)) = Value.int (Int32.ofInt (H.1 (25 + 6 * i) 4)) := Option.some.inj k2
    have k4 : Int32.ofInt (K.1 (25 + 6 * i) 4) = Int32.ofInt (H.1 (25 + 6 * i) 4) := by
      injection k3
    have r1 : -2147483648 ≤ H.1 (25 + 6 * i) 4 ∧ H.1 (25 + 6 * i) 4 ≤ 2147483647 := g1 4 .int hd
    have r2 : -2147483648 ≤ K.1 (25 + 6 * i) 4 ∧ K.1 (25 + 6 * i) 4 ≤ 2147483647 := g2 4 .int hd
    have k5 := congrArg Int32.toInt k4
    rw [Int32.toInt_ofInt_of_le (by omega) (by omega), Int32.toInt_ofInt_of_le (by omega) (by omega)] at k5
    exact k5
  · obtain ⟨ds, hs, hd⟩ := zs_lvar i hi
    obtain ⟨⟨z, fs, e1, -, e2⟩, g1⟩ := hz _ _ hs
    obtain ⟨⟨z', fs', e1', -, e2'⟩, g2⟩ := h2 _ _ hs
    obtain ⟨z2, f2, k1, -, -, k2⟩ := hk (264 + 6 * i) z fs (by rw [show 264 + 6 * i + 1 = 265 + 6 * i by omega]; exact e1)
    rw [show 264 + 6 * i + 1 = 265 + 6 * i by omega, e1'] at k1
    cases k1
    rw [e2 3 _ hd, e2' 3 _ hd] at k2
    have k3 : Value.int (Int32.ofInt (K.1 (265 + 6 * i) 3)) = Value.int (Int32.ofInt (H.1 (265 + 6 * i) 3)) := Option.some.inj k2
    have k4 : Int32.ofInt (K.1 (265 + 6 * i) 3) = Int32.ofInt (H.1 (265 + 6 * i) 3) := by
      injection k3
    have r1 : -2147483648 ≤ H.1 (265 + 6 * i) 3 ∧ H.1 (265 + 6 * i) 3 ≤ 2147483647 := g1 3 .int hd
    have r2 : -2147483648 ≤ K.1 (265 + 6 * i) 3 ∧ K.1 (265 + 6 * i) 3 ≤ 2147483647 := g2 3 .int hd
    have k5 := congrArg Int32.toInt k4
    rw [Int32.toInt_ofInt_of_le (by omega) (by omega), Int32.toInt_ofInt_of_le (by omega) (by omega)] at k5
    exact k5
  intro i hi
  obtain ⟨ds, hs, hd⟩ := zs_law i hi
  obtain ⟨⟨z, fs, e1, -, e2⟩, g1⟩ := hz _ _ hs
  obtain ⟨⟨z', fs', e1', -, e2'⟩, g2⟩ := h2 _ _ hs
  obtain ⟨z2, f2, k1, k2, -⟩ := hk (264 + 6 * i) z fs (by rw [show 264 + 6 * i + 1 = 265 + 6 * i by omega]; exact e1)
  rw [show 264 + 6 * i + 1 = 265 + 6 * i by omega, e1'] at k1
  cases k1
  rw [e2 5 _ hd, e2' 5 _ hd] at k2
  have k3 : Value.long (Int64.ofInt (K.1 (265 + 6 * i) 5)) = Value.long (Int64.ofInt (H.1 (265 + 6 * i) 5)) := Option.some.inj k2
  have k4 : Int64.ofInt (K.1 (265 + 6 * i) 5) = Int64.ofInt (H.1 (265 + 6 * i) 5) := by
    injection k3
  have r1 : -9223372036854775808 ≤ H.1 (265 + 6 * i) 5 ∧ H.1 (265 + 6 * i) 5 ≤ 9223372036854775807 := g1 5 .long hd
  have r2 : -9223372036854775808 ≤ K.1 (265 + 6 * i) 5 ∧ K.1 (265 + 6 * i) 5 ≤ 9223372036854775807 := g2 5 .long hd
  have k5 := congrArg Int64.toInt k4
  rw [z_t64 r1, z_t64 r2] at k5
  exact k5
