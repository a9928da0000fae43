/-! the law's turns: what a walk of the law may use -/
abbrev lwT : Type := Nat → Nat → am_S → am_L → Nat → List Value → Prop
/-- a way to speak of the law at a place: cells and slots used, store, locals, place, stack; what leads on -/
def lwA (C N : Nat) (A : lwT) : Prop :=
  (∀ (n cells slots : Nat) (S : am_S) (lc : am_L) (pc : Nat) (st : List Value) (pc' : Nat) (lc' : am_L) (st' : List Value), am_ro mt_law S n pc lc st = some (pc', lc', st') → A cells slots S lc' pc' st' → A cells slots S lc pc st) ∧
  (∀ (cells slots : Nat) (S : am_S) (lc lc' : am_L) (pc : Nat) (st : List Value), (∀ q ∈ lc', q ∈ lc) → A cells slots S lc' pc st → A cells slots S lc pc st) ∧
  (∀ (f cells slots : Nat) (S : am_S) (lc : am_L) (pc : Nat) (st : List Value) (pc' : Nat) (lc' : am_L) (st' : List Value) (S' : am_S), am_one at_P at_cl at_ty f 51 mt_law pc lc st S = some (pc', lc', st', S', 0, 0) → A cells slots S' lc' pc' st' → A cells slots S lc pc st) ∧
  (∀ (cells slots : Nat) (S : am_S) (lc : am_L), A cells slots S lc 965 [.int 1]) ∧
  (∀ (f cells slots : Nat) (S S' : am_S) (lc : am_L) (x1 x2 x3 x4 x5 : Int32) (r : Option Value), am_run at_P at_cl at_ty f 50 mt_lfeed 0 (lv_args 0 [.ref 1, .int x1, .int x2, .int x3, .int x4, .int x5, .ref 1899]) [] S = some (r, S', 0, 0) → A cells slots S' lc 183 r.toList → A cells slots S lc 180 [.ref 1899, .int x5, .int x4, .int x3, .int x2, .int x1, .ref 1]) ∧
  (∀ (n cells slots z : Nat) (fs : List Value) (S : am_S) (lc l' : am_L) (x1 x2 x3 x4 x5 : Int32), cells + 1 ≤ C → slots + 6 ≤ N → am_nth S 1 = some (z, some (.inr (0, fs))) → am_ro mt_1 S n 0 (lv_args 0 [.ref 1, .int x1, .int x2, .int x3, .int x4, .int x5]) [] = some (13, l', []) → A (cells + 1) (slots + 6) (am_add S (6, none)) lc 183 [.int 1] → A cells slots S lc 180 [.ref 1899, .int x5, .int x4, .int x3, .int x2, .int x1, .ref 1]) ∧
  (∀ (f cells slots : Nat) (S S' : am_S) (lc : am_L) (x1 : Int32) (r : Option Value), am_run at_P at_cl at_ty f 50 mt_lend 0 (lv_args 0 [.ref 1, .int x1]) [] S = some (r, S', 0, 0) → A cells slots S' lc 234 r.toList → A cells slots S lc 231 [.int x1, .ref 1]) ∧
  (∀ (n cells slots z : Nat) (fs : List Value) (S : am_S) (lc l' : am_L) (x1 : Int32), cells + 1 ≤ C → slots + 6 ≤ N → am_nth S 1 = some (z, some (.inr (0, fs))) → am_ro mt_2 S n 0 (lv_args 0 [.ref 1, .int x1]) [] = some (15, l', []) → A (cells + 1) (slots + 6) (am_add S (6, none)) lc 234 [.int 1] → A cells slots S lc 231 [.int x1, .ref 1])
theorem zs_1 : zs zK 1 = some kx_1.1 := rfl
theorem zs_26 : ∃ ds, zs zK 1826 = some (.inl (13, ds)) := ⟨_, rfl⟩
theorem zs_out : zs zK 1899 = none := rfl
theorem nI_pl (a k : Nat) : nI (a + k) = nI a + nI k := Int32.ofNat_add a k
theorem am_find_map {α : Type} (g : Nat → α) {j : Nat} : ∀ {l : List Nat}, j ∈ l → am_find j (l.map (fun i => (i, g i))) = some (g j)
  | [], h => by cases h
  | i :: l, h => by
    rw [List.map_cons, am_find_cons]
    by_cases e : i = j
    · subst e
      rw [if_pos rfl]
    · rw [if_neg e]
      rcases List.mem_cons.mp h with h | h
      · exact absurd h.symm e
      · exact am_find_map g h
/-- the script's cell -/
def lwc (L : Nat) (xs : Nat → Int32) : am_C := (L, some (.inl (.int, L, .int 0, (List.range L).map (fun j => (j, Value.int (xs j))))))
theorem lwc_fn {L : Nat} {xs : Nat → Int32} {j : Nat} (h : j < L) : am_fn (.int 0) ((List.range L).map (fun j => (j, Value.int (xs j)))) j = .int (xs j) := by
  unfold am_fn
  rw [am_find_map (fun j => Value.int (xs j)) (List.mem_range.mpr h)]
theorem lw_rd {xs : Nat → Int32} {L j : Nat} {S : am_S} (hS : S.1 = lwc L xs) (hj : j < L) (hL : L ≤ 3072) : am_geta S 0 (nI j) .int = some (zc (.inl (xs j).toInt)) := by
  have h1 : am_nth S 0 = some (lwc L xs) := congrArg some hS
  unfold am_geta
  rw [h1]
  show (if FieldType.int = FieldType.int ∧ ¬ (nI j < 0 ∨ L ≤ (nI j).toNatClampNeg) then some (am_fn (.int 0) ((List.range L).map (fun j => (j, Value.int (xs j)))) (nI j).toNatClampNeg) else none) = _
  rw [if_pos ⟨rfl, nI_in hj (by omega)⟩, nI_clamp (by omega), lwc_fn hj]
  show some (Value.int (xs j)) = some (Value.int (Int32.ofInt (xs j).toInt))
  rw [Int32.ofInt_toInt]
section LW
variable {C N : Nat} {A : lwT} {cells slots : Nat} {S : am_S} {lc : am_L} {pc : Nat} {st : List Value}
/-- a number of the script is read -/
theorem lw_ld (hA : lwA C N A) {xs : Nat → Int32} {L a k n pc5 : Nat} (hS : S.1 = lwc L xs) (hj : a + k < L) (hL : L ≤ 3072) (h4 : am_ro mt_law S n pc lc st = some (pc5, lc, .int (nI a + nI k) :: .ref 0 :: st)) (hf : am_find pc5 mt_law.2.2.2.2.2.1 = some (.iaload, 1)) (kk : A cells slots S lc (pc5 + 1) (zc (.inl (xs (a + k)).toInt) :: st)) : A cells slots S lc pc st := by
  refine hA.1 n cells slots S lc pc st _ _ _ h4 (hA.1 1 cells slots S lc pc5 _ (pc5 + 1) lc (zc (.inl (xs (a + k)).toInt) :: st) ?_ kk)
  have h1 := lw_rd hS hj hL
  rw [nI_pl] at h1
  unfold am_ro
  rw [hf]
  show (match am_geta S 0 (nI a + nI k) .int with
    | some v => am_ro mt_law S 0 (pc5 + 1) lc (v :: st)
    | none => none) = _
  rw [h1]
  rfl
/-- a truth value out of a number -/
theorem lw_bool (hA : lwA C N A) {x : Int} {pT pF pE : Nat} (h : am_ro mt_law S 1 pc lc (zc (.inl x) :: st) = some (if Int32.ofInt x = 0 then pT else pF, lc, st)) (h1 : am_ro mt_law S 2 pF lc st = some (pE, lc, zc (.inl 1) :: st)) (h0 : am_ro mt_law S 1 pT lc st = some (pE, lc, zc (.inl 0) :: st)) (k : ∀ y : Int, 0 ≤ y ∧ y ≤ 1 → A cells slots S lc pE (zc (.inl y) :: st)) : A cells slots S lc pc (zc (.inl x) :: st) := by
  refine hA.1 1 cells slots S lc pc _ _ _ _ h ?_
  by_cases e : Int32.ofInt x = 0
  · rw [if_pos e]
    exact hA.1 1 cells slots S lc pT _ _ _ _ h0 (k 0 (by decide))
  · rw [if_neg e]
    exact hA.1 2 cells slots S lc pF _ _ _ _ h1 (k 1 (by decide))
theorem lw_bool2 (hA : lwA C N A) {x : Int} {pT pF pE : Nat} (h : am_ro mt_law S 1 pc lc (zc (.inl x) :: st) = some (if Int32.ofInt x = 0 then pT else pF, lc, st)) (h1 : am_ro mt_law S 2 pF lc st = some (pE, lc, zc (.inl 1) :: st)) (h0 : am_ro mt_law S 1 pT lc st = some (pE, lc, zc (.inl 0) :: st)) (k : ∀ y : Int, 0 ≤ y ∧ y ≤ 1 → y = (if Int32.ofInt x = 0 then 0 else 1) → A cells slots S lc pE (zc (.inl y) :: st)) : A cells slots S lc pc (zc (.inl x) :: st) := by
  refine hA.1 1 cells slots S lc pc _ _ _ _ h ?_
  by_cases e : Int32.ofInt x = 0
  · rw [if_pos e]
    exact hA.1 1 cells slots S lc pT _ _ _ _ h0 (k 0 (by decide) (if_pos e).symm)
  · rw [if_neg e]
    exact hA.1 2 cells slots S lc pF _ _ _ _ h1 (k 1 (by decide) (if_neg e).symm)
/-- a call of a method of an object -/
theorem lw_call (hA : lwA C N A) {i j b ci : Nat} {ds : List zsd} {M' : am_M} (xs : List zv) (rest : List Value) {H : hp} {Q' : Option zv → hp → Prop} (hf : am_find pc mt_law.2.2.2.2.2.1 = some (.invokevirtual i, 3)) (hj : am_find i mt_law.2.2.2.2.1.2.2.2.2.2 = some (j + 4)) (hP : at_P[j]? = some M') (hl : M'.2.2.2.2.2.2.1 = xs.length) (hs : zs zK b = some (.inl (ci, ds))) (hci : M'.2.2.2.2.2.2.2 = ci) (hw : am_words rest ≤ 8) (hw2 : zw xs + 1 ≤ M'.2.2.1) (hz : zR (zs zK) S H) (hc : hG (zs zK) 50 M' 0 (zargs 0 (.inr (.inr b) :: xs.reverse)) [] H Q') (k : ∀ (r : Option zv) (S1 : am_S) (H1 : hp), zR (zs zK) S1 H1 → zkeep (zs zK) S S1 → Q' r H1 → A cells slots S1 lc (pc + 3) ((r.map zc).toList ++ rest)) : A cells slots S lc pc (xs.map zc ++ .ref b :: rest) := by
  obtain ⟨⟨z, fs, h1, -, -⟩, -⟩ := hz b _ hs
  subst hci
  obtain ⟨f, r, S', c', n', h2, rfl, rfl, r', H', rfl, h3, h4, h5⟩ := hc S _ hz (zargs_ok _ 0)
  refine hA.2.2.1 f cells slots S lc pc _ (pc + 3) lc ((r'.map zc).toList ++ rest) S' ?_ (k r' S' H' h3 h4 h5)
  refine am_one_call (i := i) (j := j) (M' := M') (as := .ref b :: (xs.map zc).reverse) (rest := rest) hf rfl hj ?_ ?_
  · unfold am_own
    rw [hP]
    try dsimp only
    rw [hl, if_neg (by rw [List.length_append, List.length_map]; omega), show xs.length = (xs.map zc).length from (List.length_map ..).symm, (am_take_len (xs.map zc) _).1, (am_take_len (xs.map zc) _).2]
    try dsimp only
    rw [h1]
    try dsimp only
    rw [if_pos ⟨rfl, hw, by rw [zw_rev]; exact hw2⟩]
  · rw [← List.map_reverse]
    exact h2
/-- a call of a method of an object -/
theorem lw_callE (hA : lwA C N A) {i j b ci : Nat} {ds : List zsd} {M' : am_M} (xs : List zv) (rest : List Value) {H : hp} {Q' : Option zv → hp → Prop} (hf : am_find pc mt_law.2.2.2.2.2.1 = some (.invokevirtual i, 3)) (hj : am_find i mt_law.2.2.2.2.1.2.2.2.2.2 = some (j + 4)) (hP : at_P[j]? = some M') (hl : M'.2.2.2.2.2.2.1 = xs.length) (hs : zs zK b = some (.inl (ci, ds))) (hci : M'.2.2.2.2.2.2.2 = ci) (hw : am_words rest ≤ 8) (hw2 : zw xs + 1 ≤ M'.2.2.1) (hz : zR (zs zK) S H) (hc : hE 50 M' (.inr (.inr b) :: xs.reverse) H Q') (k : ∀ (r : Option zv) (S1 : am_S) (H1 : hp), zR (zs zK) S1 H1 → zkeep (zs zK) S S1 → Q' r H1 → A cells slots S1 lc (pc + 3) ((r.map zc).toList ++ rest)) : A cells slots S lc pc (xs.map zc ++ .ref b :: rest) := by
  obtain ⟨⟨z, fs, h1, -, -⟩, -⟩ := hz b _ hs
  subst hci
  obtain ⟨f, r, S', c', n', h2, rfl, rfl, r', H', rfl, h3, h4, h5⟩ := hc S hz
  refine hA.2.2.1 f cells slots S lc pc _ (pc + 3) lc ((r'.map zc).toList ++ rest) S' ?_ (k r' S' H' h3 h4 h5)
  refine am_one_call (i := i) (j := j) (M' := M') (as := .ref b :: (xs.map zc).reverse) (rest := rest) hf rfl hj ?_ ?_
  · unfold am_own
    rw [hP]
    try dsimp only
    rw [hl, if_neg (by rw [List.length_append, List.length_map]; omega), show xs.length = (xs.map zc).length from (List.length_map ..).symm, (am_take_len (xs.map zc) _).1, (am_take_len (xs.map zc) _).2]
    try dsimp only
    rw [h1]
    try dsimp only
    rw [if_pos ⟨rfl, hw, by rw [zw_rev]; exact hw2⟩]
  · rw [← List.map_reverse]
    exact h2
end LW
/-- the law's locals at the head of its loop -/
def lw_Lt (t : Nat) : am_L := [(4, .int (nI (6 * t))), (3, .ref 1899), (2, .ref 1826), (1, .ref 1), (0, .ref 0)]
/-- what holds at the head of the loop -/
def LI (xs : Nat → Int32) (L : Nat) (S : am_S) (H : hp) : Prop := zR (zs zK) S H ∧ Inv H ∧ GX H ∧ H.1 2 1 = H.1 1826 28 ∧ S.1 = lwc L xs ∧ 1899 ≤ S.2.1 ∧ ∃ (z : Nat) (u : List (Nat × Value)), am_nth S 1899 = some (z, some (.inl (.long, 1, .long 0, u)))
theorem LI_keep {xs : Nat → Int32} {L : Nat} {S S1 S2 : am_S} {H H2 : hp} (h : LI xs L S H) (k1 : zkeep (zs zK) S S1) (k2 : zkeep (zs zK) S1 S2) (hz : zR (zs zK) S2 H2) (hi : Inv H2) (hg : GX H2) (he : H2.1 2 1 = H2.1 1826 28) : LI xs L S2 H2 := by
  obtain ⟨-, -, -, -, h1, h2, z, u, h3⟩ := h
  have k := zkeep_tr k1 k2
  exact ⟨hz, hi, hg, he, k.1.trans h1, by rw [k.2.1]; exact h2, z, u, (k.2.2 1899 zs_out).trans h3⟩
def lwK (A : lwT) (xs : Nat → Int32) (L t cells slots : Nat) : Prop := ∀ (cells' slots' : Nat) (S' : am_S) (H' : hp), cells' ≤ cells + 1 → slots' ≤ slots + 6 → LI xs L S' H' → A cells' slots' S' (lw_Lt t) 958 []
