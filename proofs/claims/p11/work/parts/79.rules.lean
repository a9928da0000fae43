/-! rules for runs over integers -/
def zs (zC : Nat → Option zsh) (c : Nat) : Option zsh := match am_find c zT with
  | some x => some x
  | none => zC c
theorem zs_T {zC : Nat → Option zsh} {c : Nat} {x : zsh} (h : am_find c zT = some x) : zs zC c = some x := by
  unfold zs
  rw [h]
theorem z_t {x : Int} (h : -2147483648 ≤ x ∧ x ≤ 2147483647) : (Int32.ofInt x).toInt = x := Int32.toInt_ofInt_of_le (by omega) (by omega)
theorem z_eq {x y : Int} (hx : -2147483648 ≤ x ∧ x ≤ 2147483647) (hy : -2147483648 ≤ y ∧ y ≤ 2147483647) : Int32.ofInt x = Int32.ofInt y ↔ x = y := by
  constructor
  · intro h
    have := congrArg Int32.toInt h
    rw [z_t hx, z_t hy] at this
    exact this
  · intro h
    rw [h]
theorem z_lt {x y : Int} (hx : -2147483648 ≤ x ∧ x ≤ 2147483647) (hy : -2147483648 ≤ y ∧ y ≤ 2147483647) : Int32.ofInt x < Int32.ofInt y ↔ x < y := by
  rw [Int32.lt_iff_toInt_lt, z_t hx, z_t hy]
theorem z_le {x y : Int} (hx : -2147483648 ≤ x ∧ x ≤ 2147483647) (hy : -2147483648 ≤ y ∧ y ≤ 2147483647) : Int32.ofInt x ≤ Int32.ofInt y ↔ x ≤ y := by
  rw [Int32.le_iff_toInt_le, z_t hx, z_t hy]
theorem z_ix {i : Int} {j n : Nat} (hi : i = j) (hj : j < n) (hn : n ≤ 2147483647) : ¬ (Int32.ofInt i < 0 ∨ n ≤ (Int32.ofInt i).toNatClampNeg) ∧ (Int32.ofInt i).toNatClampNeg = j := by
  have h1 : (Int32.ofInt i).toNatClampNeg = j := by
    rw [Int32.toNatClampNeg_ofInt_of_le (by omega) (by omega)]
    omega
  refine ⟨?_, h1⟩
  rw [h1]
  have h0 : ¬ Int32.ofInt i < 0 := by
    intro q
    have q : Int32.ofInt i < Int32.ofInt 0 := q
    rw [z_lt (by omega) (by omega)] at q
    omega
  intro q
  rcases q with q | q
  · exact h0 q
  · omega
def zgetf (T : List (Nat × Nat × Nat)) (H : hp) (ins : Instr) (len : Nat) (st : List zv) : Option (List zv) := match ins, len, st with
  | .getfield i, 3, .inr (.inr a) :: st => (match am_find i T, am_find a zT with
    | some (ci, k), some (.inl (cj, ds)) => bif Nat.beq ci cj then (match ds[k]? with
      | some (.inr b) => some (.inr (.inr b) :: st)
      | some (.inl .long) => some (.inr (.inl (H.1 a k)) :: st)
      | some (.inl .int) => some (.inl (H.1 a k) :: st)
      | some (.inl .boolean) => some (.inl (H.1 a k) :: st)
      | _ => none) else none
    | _, _ => none)
  | _, _, _ => none
/-- steps with one way on that write nothing -/
def zrun (M : am_M) (H : hp) : Nat → Nat → zl → List zv → Option (Nat × zl × List zv)
  | 0, pc, l, st => some (pc, l, st)
  | n + 1, pc, l, st => match am_find pc M.2.2.2.2.2.1 with
    | none => none
    | some (ins, len) => match zpure M.2.2.1 ins len pc l st with
      | some (pc', l', st') => zrun M H n pc' l' st'
      | none => match zgetf M.2.2.2.2.1.1 H ins len st with
        | some st' => zrun M H n (pc + 3) l st'
        | none => none
section HR
variable {zC : Nat → Option zsh} {d : Nat} {M : am_M} {pc : Nat} {l : zl} {st : List zv} {H : hp} {Q : Option zv → hp → Prop}
theorem h_get {i ci k a : Nat} {ds : List zsd} {dd : zsd} {v : zv} (hf : am_find pc M.2.2.2.2.2.1 = some (.getfield i, 3)) (hi : am_find i M.2.2.2.2.1.1 = some (ci, k)) (hs : zs zC a = some (.inl (ci, ds))) (hk : ds[k]? = some dd) (hv : zslot dd (H.1 a) (H.2 a) k = zc v) (kk : hG (zs zC) d M (pc + 3) l (v :: st) H Q) : hG (zs zC) d M pc l (.inr (.inr a) :: st) H Q := by
  refine h_same (fun S lc Q' hS g => ?_) kk
  obtain ⟨⟨z, fs, h1, h2, h3⟩, -⟩ := hS a _ hs
  refine G_get hf hi h1 (h3 k dd hk) ?_
  rw [hv]
  exact g
theorem zgetf_ok {ins : Instr} {len : Nat} {st' : List zv} (hf : am_find pc M.2.2.2.2.2.1 = some (ins, len)) (h : zgetf M.2.2.2.2.1.1 H ins len st = some st') (k : hG (zs zC) d M (pc + 3) l st' H Q) : hG (zs zC) d M pc l st H Q := by
  unfold zgetf at h
  split at h
  · rename_i i a st0
    split at h
    · rename_i ci k0 cj ds hi ha
      revert h
      cases hb : Nat.beq ci cj
      · intro h
        cases h
      · have e := Nat.eq_of_beq_eq_true hb
        subst e
        intro h
        have h : (match ds[k0]? with
          | some (.inr b) => some (.inr (.inr b) :: st0)
          | some (.inl .long) => some (.inr (.inl (H.1 a k0)) :: st0)
          | some (.inl .int) => some (.inl (H.1 a k0) :: st0)
          | some (.inl .boolean) => some (.inl (H.1 a k0) :: st0)
          | _ => none : Option (List zv)) = some st' := h
        split at h
        · rename_i hd
          cases h
          exact h_get hf hi (zs_T ha) hd rfl k
        · rename_i hd
          cases h
          exact h_get hf hi (zs_T ha) hd rfl k
        · rename_i hd
          cases h
          exact h_get hf hi (zs_T ha) hd rfl k
        · rename_i hd
          cases h
          exact h_get hf hi (zs_T ha) hd rfl k
        · cases h
    · cases h
  · cases h
theorem h_run : ∀ (n : Nat) {pc : Nat} {l : zl} {st : List zv} {pc' : Nat} {l' : zl} {st' : List zv}, zrun M H n pc l st = some (pc', l', st') → hG (zs zC) d M pc' l' st' H Q → hG (zs zC) d M pc l st H Q := by
  intro n
  induction n with
  | zero =>
    intro pc l st pc' l' st' h k
    cases h
    exact k
  | succ n ih =>
    intro pc l st pc' l' st' h k
    unfold zrun at h
    split at h
    · cases h
    · rename_i ins len hins
      split at h
      · rename_i pc1 l1 st1 hp
        exact h_pure hins hp (ih h k)
      · split at h
        · rename_i st1 hg
          exact zgetf_ok hins hg (ih h k)
        · cases h
theorem h_ieq {off : Int} {t : Nat} {x y : Int} (hf : am_find pc M.2.2.2.2.2.1 = some (.if_icmp .eq off, 3)) (ht : am_tgt pc off = some t) (hx : -2147483648 ≤ x ∧ x ≤ 2147483647) (hy : -2147483648 ≤ y ∧ y ≤ 2147483647) (k1 : x = y → hG (zs zC) d M t l st H Q) (k2 : x ≠ y → hG (zs zC) d M (pc + 3) l st H Q) : hG (zs zC) d M pc l (.inl y :: .inl x :: st) H Q := by
  refine h_br (st := st) (c := Int32.ofInt x = Int32.ofInt y) (t1 := t) (t2 := pc + 3) hf ?_ (fun h => k1 ((z_eq hx hy).mp h)) (fun h => k2 (fun e => h ((z_eq hx hy).mpr e)))
  intro lc
  show (am_tgt pc off).map _ = _
  rw [ht]
  rfl
theorem h_zeq {off : Int} {t : Nat} {x : Int} (hf : am_find pc M.2.2.2.2.2.1 = some (.ifCond .eq off, 3)) (ht : am_tgt pc off = some t) (hx : -2147483648 ≤ x ∧ x ≤ 2147483647) (k1 : x = 0 → hG (zs zC) d M t l st H Q) (k2 : x ≠ 0 → hG (zs zC) d M (pc + 3) l st H Q) : hG (zs zC) d M pc l (.inl x :: st) H Q := by
  have hy : -2147483648 ≤ (0 : Int) ∧ (0 : Int) ≤ 2147483647 := by omega
  refine h_br (st := st) (c := Int32.ofInt x = Int32.ofInt 0) (t1 := t) (t2 := pc + 3) hf ?_ (fun h => k1 ((z_eq hx hy).mp h)) (fun h => k2 (fun e => h ((z_eq hx hy).mpr e)))
  intro lc
  show (am_tgt pc off).map _ = _
  rw [ht]
  rfl
theorem h_ine {off : Int} {t : Nat} {x y : Int} (hf : am_find pc M.2.2.2.2.2.1 = some (.if_icmp .ne off, 3)) (ht : am_tgt pc off = some t) (hx : -2147483648 ≤ x ∧ x ≤ 2147483647) (hy : -2147483648 ≤ y ∧ y ≤ 2147483647) (k1 : x ≠ y → hG (zs zC) d M t l st H Q) (k2 : x = y → hG (zs zC) d M (pc + 3) l st H Q) : hG (zs zC) d M pc l (.inl y :: .inl x :: st) H Q := by
  refine h_br (st := st) (c := Int32.ofInt x = Int32.ofInt y) (t1 := pc + 3) (t2 := t) hf ?_ (fun h => k2 ((z_eq hx hy).mp h)) (fun h => k1 (fun e => h ((z_eq hx hy).mpr e)))
  intro lc
  show (am_tgt pc off).map _ = _
  rw [ht]
  rfl
theorem h_zne {off : Int} {t : Nat} {x : Int} (hf : am_find pc M.2.2.2.2.2.1 = some (.ifCond .ne off, 3)) (ht : am_tgt pc off = some t) (hx : -2147483648 ≤ x ∧ x ≤ 2147483647) (k1 : x ≠ 0 → hG (zs zC) d M t l st H Q) (k2 : x = 0 → hG (zs zC) d M (pc + 3) l st H Q) : hG (zs zC) d M pc l (.inl x :: st) H Q := by
  have hy : -2147483648 ≤ (0 : Int) ∧ (0 : Int) ≤ 2147483647 := by omega
  refine h_br (st := st) (c := Int32.ofInt x = Int32.ofInt 0) (t1 := pc + 3) (t2 := t) hf ?_ (fun h => k2 ((z_eq hx hy).mp h)) (fun h => k1 (fun e => h ((z_eq hx hy).mpr e)))
  intro lc
  show (am_tgt pc off).map _ = _
  rw [ht]
  rfl
theorem h_ilt {off : Int} {t : Nat} {x y : Int} (hf : am_find pc M.2.2.2.2.2.1 = some (.if_icmp .lt off, 3)) (ht : am_tgt pc off = some t) (hx : -2147483648 ≤ x ∧ x ≤ 2147483647) (hy : -2147483648 ≤ y ∧ y ≤ 2147483647) (k1 : x < y → hG (zs zC) d M t l st H Q) (k2 : y ≤ x → hG (zs zC) d M (pc + 3) l st H Q) : hG (zs zC) d M pc l (.inl y :: .inl x :: st) H Q := by
  refine h_br (st := st) (c := Int32.ofInt x < Int32.ofInt y) (t1 := t) (t2 := pc + 3) hf ?_ (fun h => k1 ((z_lt hx hy).mp h)) (fun h => k2 (Int.not_lt.mp (fun e => h ((z_lt hx hy).mpr e))))
  intro lc
  show (am_tgt pc off).map _ = _
  rw [ht]
  rfl
theorem h_zlt {off : Int} {t : Nat} {x : Int} (hf : am_find pc M.2.2.2.2.2.1 = some (.ifCond .lt off, 3)) (ht : am_tgt pc off = some t) (hx : -2147483648 ≤ x ∧ x ≤ 2147483647) (k1 : x < 0 → hG (zs zC) d M t l st H Q) (k2 : 0 ≤ x → hG (zs zC) d M (pc + 3) l st H Q) : hG (zs zC) d M pc l (.inl x :: st) H Q := by
  have hy : -2147483648 ≤ (0 : Int) ∧ (0 : Int) ≤ 2147483647 := by omega
  refine h_br (st := st) (c := Int32.ofInt x < Int32.ofInt 0) (t1 := t) (t2 := pc + 3) hf ?_ (fun h => k1 ((z_lt hx hy).mp h)) (fun h => k2 (Int.not_lt.mp (fun e => h ((z_lt hx hy).mpr e))))
  intro lc
  show (am_tgt pc off).map _ = _
  rw [ht]
  rfl
theorem h_ige {off : Int} {t : Nat} {x y : Int} (hf : am_find pc M.2.2.2.2.2.1 = some (.if_icmp .ge off, 3)) (ht : am_tgt pc off = some t) (hx : -2147483648 ≤ x ∧ x ≤ 2147483647) (hy : -2147483648 ≤ y ∧ y ≤ 2147483647) (k1 : y ≤ x → hG (zs zC) d M t l st H Q) (k2 : x < y → hG (zs zC) d M (pc + 3) l st H Q) : hG (zs zC) d M pc l (.inl y :: .inl x :: st) H Q := by
  refine h_br (st := st) (c := Int32.ofInt y ≤ Int32.ofInt x) (t1 := t) (t2 := pc + 3) hf ?_ (fun h => k1 ((z_le hy hx).mp h)) (fun h => k2 (Int.not_le.mp (fun e => h ((z_le hy hx).mpr e))))
  intro lc
  show (am_tgt pc off).map _ = _
  rw [ht]
  rfl
theorem h_zge {off : Int} {t : Nat} {x : Int} (hf : am_find pc M.2.2.2.2.2.1 = some (.ifCond .ge off, 3)) (ht : am_tgt pc off = some t) (hx : -2147483648 ≤ x ∧ x ≤ 2147483647) (k1 : 0 ≤ x → hG (zs zC) d M t l st H Q) (k2 : x < 0 → hG (zs zC) d M (pc + 3) l st H Q) : hG (zs zC) d M pc l (.inl x :: st) H Q := by
  have hy : -2147483648 ≤ (0 : Int) ∧ (0 : Int) ≤ 2147483647 := by omega
  refine h_br (st := st) (c := Int32.ofInt 0 ≤ Int32.ofInt x) (t1 := t) (t2 := pc + 3) hf ?_ (fun h => k1 ((z_le hy hx).mp h)) (fun h => k2 (Int.not_le.mp (fun e => h ((z_le hy hx).mpr e))))
  intro lc
  show (am_tgt pc off).map _ = _
  rw [ht]
  rfl
theorem h_igt {off : Int} {t : Nat} {x y : Int} (hf : am_find pc M.2.2.2.2.2.1 = some (.if_icmp .gt off, 3)) (ht : am_tgt pc off = some t) (hx : -2147483648 ≤ x ∧ x ≤ 2147483647) (hy : -2147483648 ≤ y ∧ y ≤ 2147483647) (k1 : y < x → hG (zs zC) d M t l st H Q) (k2 : x ≤ y → hG (zs zC) d M (pc + 3) l st H Q) : hG (zs zC) d M pc l (.inl y :: .inl x :: st) H Q := by
  refine h_br (st := st) (c := Int32.ofInt y < Int32.ofInt x) (t1 := t) (t2 := pc + 3) hf ?_ (fun h => k1 ((z_lt hy hx).mp h)) (fun h => k2 (Int.not_lt.mp (fun e => h ((z_lt hy hx).mpr e))))
  intro lc
  show (am_tgt pc off).map _ = _
  rw [ht]
  rfl
theorem h_zgt {off : Int} {t : Nat} {x : Int} (hf : am_find pc M.2.2.2.2.2.1 = some (.ifCond .gt off, 3)) (ht : am_tgt pc off = some t) (hx : -2147483648 ≤ x ∧ x ≤ 2147483647) (k1 : 0 < x → hG (zs zC) d M t l st H Q) (k2 : x ≤ 0 → hG (zs zC) d M (pc + 3) l st H Q) : hG (zs zC) d M pc l (.inl x :: st) H Q := by
  have hy : -2147483648 ≤ (0 : Int) ∧ (0 : Int) ≤ 2147483647 := by omega
  refine h_br (st := st) (c := Int32.ofInt 0 < Int32.ofInt x) (t1 := t) (t2 := pc + 3) hf ?_ (fun h => k1 ((z_lt hy hx).mp h)) (fun h => k2 (Int.not_lt.mp (fun e => h ((z_lt hy hx).mpr e))))
  intro lc
  show (am_tgt pc off).map _ = _
  rw [ht]
  rfl
theorem h_ile {off : Int} {t : Nat} {x y : Int} (hf : am_find pc M.2.2.2.2.2.1 = some (.if_icmp .le off, 3)) (ht : am_tgt pc off = some t) (hx : -2147483648 ≤ x ∧ x ≤ 2147483647) (hy : -2147483648 ≤ y ∧ y ≤ 2147483647) (k1 : x ≤ y → hG (zs zC) d M t l st H Q) (k2 : y < x → hG (zs zC) d M (pc + 3) l st H Q) : hG (zs zC) d M pc l (.inl y :: .inl x :: st) H Q := by
  refine h_br (st := st) (c := Int32.ofInt x ≤ Int32.ofInt y) (t1 := t) (t2 := pc + 3) hf ?_ (fun h => k1 ((z_le hx hy).mp h)) (fun h => k2 (Int.not_le.mp (fun e => h ((z_le hx hy).mpr e))))
  intro lc
  show (am_tgt pc off).map _ = _
  rw [ht]
  rfl
theorem h_zle {off : Int} {t : Nat} {x : Int} (hf : am_find pc M.2.2.2.2.2.1 = some (.ifCond .le off, 3)) (ht : am_tgt pc off = some t) (hx : -2147483648 ≤ x ∧ x ≤ 2147483647) (k1 : x ≤ 0 → hG (zs zC) d M t l st H Q) (k2 : 0 < x → hG (zs zC) d M (pc + 3) l st H Q) : hG (zs zC) d M pc l (.inl x :: st) H Q := by
  have hy : -2147483648 ≤ (0 : Int) ∧ (0 : Int) ≤ 2147483647 := by omega
  refine h_br (st := st) (c := Int32.ofInt x ≤ Int32.ofInt 0) (t1 := t) (t2 := pc + 3) hf ?_ (fun h => k1 ((z_le hx hy).mp h)) (fun h => k2 (Int.not_le.mp (fun e => h ((z_le hx hy).mpr e))))
  intro lc
  show (am_tgt pc off).map _ = _
  rw [ht]
  rfl
theorem h_ild {c n j : Nat} {i : Int} (hf : am_find pc M.2.2.2.2.2.1 = some (.iaload, 1)) (hs : zs zC c = some (.inr (.int, n))) (hn : n ≤ 2147483647) (hi : i = j) (hj : j < n) (k : hG (zs zC) d M (pc + 1) l (.inl (H.1 c j) :: st) H Q) : hG (zs zC) d M pc l (.inl i :: .inr (.inr c) :: st) H Q := by
  refine h_same (fun S lc Q' hS g => ?_) k
  obtain ⟨⟨z, dv, u, h1, h2⟩, -⟩ := hS c _ hs
  obtain ⟨h3, h4⟩ := z_ix hi hj hn
  refine G_ild hf h1 h3 ?_
  rw [h4, h2 j hj]
  exact g
theorem h_lld {c n j : Nat} {i : Int} (hf : am_find pc M.2.2.2.2.2.1 = some (.laload, 1)) (hs : zs zC c = some (.inr (.long, n))) (hn : n ≤ 2147483647) (hi : i = j) (hj : j < n) (k : hG (zs zC) d M (pc + 1) l (.inr (.inl (H.1 c j)) :: st) H Q) : hG (zs zC) d M pc l (.inl i :: .inr (.inr c) :: st) H Q := by
  refine h_same (fun S lc Q' hS g => ?_) k
  obtain ⟨⟨z, dv, u, h1, h2⟩, -⟩ := hS c _ hs
  obtain ⟨h3, h4⟩ := z_ix hi hj hn
  refine G_lld hf h1 h3 ?_
  rw [h4, h2 j hj]
  exact g
theorem h_bld {c n j : Nat} {i : Int} {ty : FieldType} (hty : ty = .byte ∨ ty = .boolean) (hf : am_find pc M.2.2.2.2.2.1 = some (.baload, 1)) (hs : zs zC c = some (.inr (ty, n))) (hn : n ≤ 2147483647) (hi : i = j) (hj : j < n) (k : hG (zs zC) d M (pc + 1) l (.inl (H.1 c j) :: st) H Q) : hG (zs zC) d M pc l (.inl i :: .inr (.inr c) :: st) H Q := by
  refine h_same (fun S lc Q' hS g => ?_) k
  obtain ⟨⟨z, dv, u, h1, h2⟩, -⟩ := hS c _ hs
  obtain ⟨h3, h4⟩ := z_ix hi hj hn
  have h5 : am_geta S c (Int32.ofInt i) ty = some (.int (Int32.ofInt (H.1 c j))) := by
    unfold am_geta
    rw [h1]
    show (if _ then _ else _) = _
    rw [if_pos ⟨rfl, h3⟩, h4, h2 j hj]
    rcases hty with rfl | rfl <;> rfl
  refine G_heap0 hf rfl (pc' := pc + 1) (st' := .int (Int32.ofInt (H.1 c j)) :: st.map zc) (S' := S) ?_ g
  rcases hty with rfl | rfl
  · show (match am_geta S c (Int32.ofInt i) .byte with
      | some v => some (pc + 1, v :: st.map zc, S, 0, 0)
      | none => (am_geta S c (Int32.ofInt i) .boolean).map fun v => (pc + 1, v :: st.map zc, S, 0, 0)) = _
    rw [h5]
  · have h6 : am_geta S c (Int32.ofInt i) .byte = none := by
      unfold am_geta
      rw [h1]
      show (if _ then _ else _) = _
      rw [if_neg (fun q => by cases q.1)]
    show (match am_geta S c (Int32.ofInt i) .byte with
      | some v => some (pc + 1, v :: st.map zc, S, 0, 0)
      | none => (am_geta S c (Int32.ofInt i) .boolean).map fun v => (pc + 1, v :: st.map zc, S, 0, 0)) = _
    rw [h6, h5]
    rfl
theorem h_alen {c n : Nat} {ty : FieldType} (hf : am_find pc M.2.2.2.2.2.1 = some (.arraylength, 1)) (hs : zs zC c = some (.inr (ty, n))) (k : hG (zs zC) d M (pc + 1) l (.inl n :: st) H Q) : hG (zs zC) d M pc l (.inr (.inr c) :: st) H Q := by
  refine h_same (fun S lc Q' hS g => ?_) k
  obtain ⟨⟨z, dv, u, h1, -⟩, -⟩ := hS c _ hs
  refine G_alen hf h1 ?_
  have g : am_G at_P at_cl at_ty d M (pc + 1) lc (.int (Int32.ofInt (n : Int)) :: st.map zc) S Q' := g
  rw [Int32.ofInt_eq_ofNat] at g
  exact g
/-- an array's cell behind a write -/
theorem zok_arr {ty : FieldType} {n z j : Nat} {dv v : Value} {u : List (Nat × Value)} {f : Nat → Int} {g : Nat → Nat} {x : Int} (h1 : ∀ k, k < n → am_fn dv u k = zval ty f g k) (h2 : ∀ k, k < n → zrng ty (f k)) (hv : ∀ f' : Nat → Int, f' j = x → zval ty f' g j = v) (hr : zrng ty x) (hty : ∀ (f' : Nat → Int) (k : Nat), f' k = f k → zval ty f' g k = zval ty f g k) : zok (.inr (ty, n)) (some (z, some (.inl (ty, n, dv, (j, v) :: u)))) (up f j x) g := by
  refine ⟨⟨z, dv, _, rfl, fun k hk => ?_⟩, fun k hk => ?_⟩
  · rw [am_fn_cons]
    unfold updV
    by_cases e : k = j
    · subst e
      rw [if_pos rfl]
      exact (hv _ (up_eq f k x)).symm
    · rw [if_neg e, h1 k hk]
      exact (hty _ k (up_ne f x e)).symm
  · rw [up_if]
    by_cases e : k = j
    · rw [if_pos e]
      exact hr
    · rw [if_neg e]
      exact h2 k hk
theorem zu_o (H : hp) (c : Nat) (f : Nat → Int) (k : Nat) (h : k ≠ c) : (zu H c f).1 k = H.1 k ∧ (zu H c f).2 k = H.2 k := ⟨zu_ne H f h, rfl⟩
theorem h_ist {c n j : Nat} {i x : Int} (hf : am_find pc M.2.2.2.2.2.1 = some (.iastore, 1)) (hs : zs zC c = some (.inr (.int, n))) (hc : c ≠ 0) (hn : n ≤ 2147483647) (hi : i = j) (hj : j < n) (hx : -2147483648 ≤ x ∧ x ≤ 2147483647) (k : hG (zs zC) d M (pc + 1) l st (zu H c (up (H.1 c) j x)) Q) : hG (zs zC) d M pc l (.inl x :: .inl i :: .inr (.inr c) :: st) H Q := by
  refine h_wr (fun S hS => ?_) k
  obtain ⟨⟨z, dv, u, h1, h2⟩, h5⟩ := hS c _ hs
  obtain ⟨h3, h4⟩ := z_ix hi hj hn
  obtain ⟨c0, rfl⟩ : ∃ c0, c = c0 + 1 := ⟨c - 1, by omega⟩
  have hz : zok (.inr (.int, n)) (some (z, some (.inl (.int, n, dv, (j, zc (.inl x)) :: u)))) ((zu H (c0 + 1) (up (H.1 (c0 + 1)) j x)).1 (c0 + 1)) ((zu H (c0 + 1) (up (H.1 (c0 + 1)) j x)).2 (c0 + 1)) := by
    rw [zu_eq]
    exact zok_arr h2 h5 (fun f' e => by show zval .int f' _ j = zc (.inl x); rw [← e]; rfl) hx (fun f' k e => by show zval .int f' _ k = zval .int _ _ k; unfold zval; dsimp only; rw [e])
  obtain ⟨q1, q2⟩ := zR_set hS hc hs hz (zu_o H _ _)
  refine ⟨_, q1, q2, fun lc Q' g => G_ist hf h1 h3 ?_⟩
  rw [h4]
  exact g
theorem h_lst {c n j : Nat} {i x : Int} (hf : am_find pc M.2.2.2.2.2.1 = some (.lastore, 1)) (hs : zs zC c = some (.inr (.long, n))) (hc : c ≠ 0) (hn : n ≤ 2147483647) (hi : i = j) (hj : j < n) (hx : -9223372036854775808 ≤ x ∧ x ≤ 9223372036854775807) (k : hG (zs zC) d M (pc + 1) l st (zu H c (up (H.1 c) j x)) Q) : hG (zs zC) d M pc l (.inr (.inl x) :: .inl i :: .inr (.inr c) :: st) H Q := by
  refine h_wr (fun S hS => ?_) k
  obtain ⟨⟨z, dv, u, h1, h2⟩, h5⟩ := hS c _ hs
  obtain ⟨h3, h4⟩ := z_ix hi hj hn
  obtain ⟨c0, rfl⟩ : ∃ c0, c = c0 + 1 := ⟨c - 1, by omega⟩
  have hz : zok (.inr (.long, n)) (some (z, some (.inl (.long, n, dv, (j, zc (.inr (.inl x))) :: u)))) ((zu H (c0 + 1) (up (H.1 (c0 + 1)) j x)).1 (c0 + 1)) ((zu H (c0 + 1) (up (H.1 (c0 + 1)) j x)).2 (c0 + 1)) := by
    rw [zu_eq]
    exact zok_arr h2 h5 (fun f' e => by show zval .long f' _ j = zc (.inr (.inl x)); rw [← e]; rfl) hx (fun f' k e => by show zval .long f' _ k = zval .long _ _ k; unfold zval; dsimp only; rw [e])
  obtain ⟨q1, q2⟩ := zR_set hS hc hs hz (zu_o H _ _)
  refine ⟨_, q1, q2, fun lc Q' g => G_lst hf h1 h3 ?_⟩
  rw [h4]
  exact g
theorem z_ny {x : Int} (h : -128 ≤ x ∧ x ≤ 127) : narrow .byte (.int (Int32.ofInt x)) = .int (Int32.ofInt x) := by
  show Value.int (Int32.ofInt x).toInt8.toInt32 = Value.int (Int32.ofInt x)
  congr 1
  apply Int32.toInt.inj
  rw [Int8.toInt_toInt32, Int32.toInt_toInt8, z_t (by omega)]
  exact Int.bmod_eq_of_le (by omega) (by omega)
theorem z_nb {x : Int} (h : 0 ≤ x ∧ x ≤ 1) : narrow .boolean (.int (Int32.ofInt x)) = .int (Int32.ofInt x) := by
  rcases (show x = 0 ∨ x = 1 by omega) with rfl | rfl <;> decide
theorem h_bst {c n j : Nat} {i x : Int} {ty : FieldType} (hty : ty = .byte ∨ ty = .boolean) (hf : am_find pc M.2.2.2.2.2.1 = some (.bastore, 1)) (hs : zs zC c = some (.inr (ty, n))) (hc : c ≠ 0) (hn : n ≤ 2147483647) (hi : i = j) (hj : j < n) (hx : zrng ty x) (k : hG (zs zC) d M (pc + 1) l st (zu H c (up (H.1 c) j x)) Q) : hG (zs zC) d M pc l (.inl x :: .inl i :: .inr (.inr c) :: st) H Q := by
  refine h_wr (fun S hS => ?_) k
  obtain ⟨⟨z, dv, u, h1, h2⟩, h5⟩ := hS c _ hs
  obtain ⟨h3, h4⟩ := z_ix hi hj hn
  obtain ⟨c0, rfl⟩ : ∃ c0, c = c0 + 1 := ⟨c - 1, by omega⟩
  have hz : zok (.inr (ty, n)) (some (z, some (.inl (ty, n, dv, (j, zc (.inl x)) :: u)))) ((zu H (c0 + 1) (up (H.1 (c0 + 1)) j x)).1 (c0 + 1)) ((zu H (c0 + 1) (up (H.1 (c0 + 1)) j x)).2 (c0 + 1)) := by
    rw [zu_eq]
    refine zok_arr h2 h5 (fun f' e => ?_) hx (fun f' k e => ?_)
    · rw [← e]
      rcases hty with rfl | rfl <;> rfl
    · rcases hty with rfl | rfl <;> (unfold zval; dsimp only; rw [e])
  obtain ⟨q1, q2⟩ := zR_set hS hc hs hz (zu_o H _ _)
  have hnr : narrow ty (.int (Int32.ofInt x)) = .int (Int32.ofInt x) := by
    rcases hty with rfl | rfl
    · exact z_ny hx
    · exact z_nb hx
  have h6 : am_seta S (c0 + 1) (Int32.ofInt i) ty (narrow ty (.int (Int32.ofInt x))) = some (am_set S (c0 + 1) (z, some (.inl (ty, n, dv, (j, zc (.inl x)) :: u)))) := by
    rw [hnr]
    unfold am_seta
    rw [h1]
    show (if _ then _ else _) = _
    rw [if_pos ⟨rfl, h3⟩, h4]
    rfl
  refine ⟨_, q1, q2, fun lc Q' g => G_heap0 hf rfl ?_ g⟩
  rcases hty with rfl | rfl
  · show (match am_seta S (c0 + 1) (Int32.ofInt i) .byte (narrow .byte (.int (Int32.ofInt x))) with
      | some S' => some (pc + 1, st.map zc, S', 0, 0)
      | none => (am_seta S (c0 + 1) (Int32.ofInt i) .boolean (narrow .boolean (.int (Int32.ofInt x)))).map fun S' => (pc + 1, st.map zc, S', 0, 0)) = _
    rw [h6]
  · have h7 : am_seta S (c0 + 1) (Int32.ofInt i) .byte (narrow .byte (.int (Int32.ofInt x))) = none := by
      unfold am_seta
      rw [h1]
      show (if _ then _ else _) = _
      rw [if_neg (fun q => by cases q.1)]
    show (match am_seta S (c0 + 1) (Int32.ofInt i) .byte (narrow .byte (.int (Int32.ofInt x))) with
      | some S' => some (pc + 1, st.map zc, S', 0, 0)
      | none => (am_seta S (c0 + 1) (Int32.ofInt i) .boolean (narrow .boolean (.int (Int32.ofInt x)))).map fun S' => (pc + 1, st.map zc, S', 0, 0)) = _
    rw [h7, h6]
    rfl
/-- an object's cell behind a write -/
theorem zok_obj {ci z k : Nat} {ds : List zsd} {fs : List Value} {f : Nat → Int} {g : Nat → Nat} {x : Int} {ty : FieldType} {v : Value} (hl : fs.length = ds.length) (h1 : ∀ (j : Nat) (dd : zsd), ds[j]? = some dd → fs[j]? = some (zslot dd f g j)) (h2 : ∀ (j : Nat) (ty : FieldType), ds[j]? = some (.inl ty) → zrng ty (f j)) (hk : ds[k]? = some (.inl ty)) (hv : ∀ f' : Nat → Int, f' k = x → zval ty f' g k = v) (hr : zrng ty x) : zok (.inl (ci, ds)) (some (z, some (.inr (ci, fs.set k v)))) (up f k x) g := by
  have hkl : k < fs.length := by
    rw [hl]
    exact (List.getElem?_eq_some_iff.mp hk).1
  refine ⟨⟨z, _, rfl, by rw [List.length_set]; exact hl, fun j dd hj => ?_⟩, fun j ty' hj => ?_⟩
  · by_cases e : j = k
    · subst e
      rw [List.getElem?_set_self hkl]
      rw [hk] at hj
      cases hj
      exact congrArg some (hv _ (up_eq f j x)).symm
    · rw [List.getElem?_set_ne (fun q => e q.symm), h1 j dd hj]
      congr 1
      unfold zslot
      split
      · unfold zval
        rw [up_ne f x e]
      · rfl
  · rw [up_if]
    by_cases e : j = k
    · subst e
      rw [hk] at hj
      cases hj
      rw [if_pos rfl]
      exact hr
    · rw [if_neg e]
      exact h2 j ty' hj
theorem h_puti {i ci k a : Nat} {ds : List zsd} {tys : List FieldType} {x : Int} (hf : am_find pc M.2.2.2.2.2.1 = some (.putfield i, 3)) (hi : am_find i M.2.2.2.2.1.2.1 = some (ci, k)) (hs : zs zC a = some (.inl (ci, ds))) (hk : ds[k]? = some (.inl .int)) (hty : at_ty[ci]? = some tys) (htk : tys.getD k .int = .int) (ha : a ≠ 0) (hx : -2147483648 ≤ x ∧ x ≤ 2147483647) (kk : hG (zs zC) d M (pc + 3) l st (zu H a (up (H.1 a) k x)) Q) : hG (zs zC) d M pc l (.inl x :: .inr (.inr a) :: st) H Q := by
  refine h_wr (fun S hS => ?_) kk
  obtain ⟨⟨z, fs, h1, h2, h3⟩, h5⟩ := hS a _ hs
  have hz : zok (.inl (ci, ds)) (some (z, some (.inr (ci, fs.set k (zc (.inl x)))))) ((zu H a (up (H.1 a) k x)).1 a) ((zu H a (up (H.1 a) k x)).2 a) := by
    rw [zu_eq]
    exact zok_obj h2 h3 h5 hk (fun f' e => by rw [← e]; rfl) hx
  obtain ⟨q1, q2⟩ := zR_set hS ha hs hz (zu_o H _ _)
  have hok : am_okv (tys.getD k .int) (zc (.inl x)) = true := by
    rw [htk]
    exact rfl
  exact ⟨_, q1, q2, fun lc Q' g => G_put hf hi h1 hty hok g⟩
theorem h_putz {i ci k a : Nat} {ds : List zsd} {tys : List FieldType} {x : Int} (hf : am_find pc M.2.2.2.2.2.1 = some (.putfield i, 3)) (hi : am_find i M.2.2.2.2.1.2.1 = some (ci, k)) (hs : zs zC a = some (.inl (ci, ds))) (hk : ds[k]? = some (.inl .boolean)) (hty : at_ty[ci]? = some tys) (htk : tys.getD k .int = .boolean) (ha : a ≠ 0) (hx : 0 ≤ x ∧ x ≤ 1) (kk : hG (zs zC) d M (pc + 3) l st (zu H a (up (H.1 a) k x)) Q) : hG (zs zC) d M pc l (.inl x :: .inr (.inr a) :: st) H Q := by
  refine h_wr (fun S hS => ?_) kk
  obtain ⟨⟨z, fs, h1, h2, h3⟩, h5⟩ := hS a _ hs
  have hz : zok (.inl (ci, ds)) (some (z, some (.inr (ci, fs.set k (zc (.inl x)))))) ((zu H a (up (H.1 a) k x)).1 a) ((zu H a (up (H.1 a) k x)).2 a) := by
    rw [zu_eq]
    exact zok_obj h2 h3 h5 hk (fun f' e => by rw [← e]; rfl) hx
  obtain ⟨q1, q2⟩ := zR_set hS ha hs hz (zu_o H _ _)
  have hok : am_okv (tys.getD k .int) (zc (.inl x)) = true := by
    rw [htk]
    exact by rcases (show x = 0 ∨ x = 1 by omega) with rfl | rfl <;> rfl
  exact ⟨_, q1, q2, fun lc Q' g => G_put hf hi h1 hty hok g⟩
theorem h_putl {i ci k a : Nat} {ds : List zsd} {tys : List FieldType} {x : Int} (hf : am_find pc M.2.2.2.2.2.1 = some (.putfield i, 3)) (hi : am_find i M.2.2.2.2.1.2.1 = some (ci, k)) (hs : zs zC a = some (.inl (ci, ds))) (hk : ds[k]? = some (.inl .long)) (hty : at_ty[ci]? = some tys) (htk : tys.getD k .int = .long) (ha : a ≠ 0) (hx : -9223372036854775808 ≤ x ∧ x ≤ 9223372036854775807) (kk : hG (zs zC) d M (pc + 3) l st (zu H a (up (H.1 a) k x)) Q) : hG (zs zC) d M pc l (.inr (.inl x) :: .inr (.inr a) :: st) H Q := by
  refine h_wr (fun S hS => ?_) kk
  obtain ⟨⟨z, fs, h1, h2, h3⟩, h5⟩ := hS a _ hs
  have hz : zok (.inl (ci, ds)) (some (z, some (.inr (ci, fs.set k (zc (.inr (.inl x))))))) ((zu H a (up (H.1 a) k x)).1 a) ((zu H a (up (H.1 a) k x)).2 a) := by
    rw [zu_eq]
    exact zok_obj h2 h3 h5 hk (fun f' e => by rw [← e]; rfl) hx
  obtain ⟨q1, q2⟩ := zR_set hS ha hs hz (zu_o H _ _)
  have hok : am_okv (tys.getD k .int) (zc (.inr (.inl x))) = true := by
    rw [htk]
    exact rfl
  exact ⟨_, q1, q2, fun lc Q' g => G_put hf hi h1 hty hok g⟩
theorem h_ldc {i : Nat} {x : Int32} {z : Int} (hf : am_find pc M.2.2.2.2.2.1 = some (.ldc i, 2)) (hi : am_find i M.2.2.2.2.1.2.2.2.2.1 = some (.int x)) (hz : x = Int32.ofInt z) (k : hG (zs zC) d M (pc + 2) l (.inl z :: st) H Q) : hG (zs zC) d M pc l st H Q := by
  refine h_same (fun S lc Q' hS g => G_heap0 hf rfl (pc' := pc + 2) (st' := .int x :: st.map zc) (S' := S) ?_ (by rw [hz]; exact g)) k
  show (match am_find i M.2.2.2.2.1.2.2.2.2.1 with
    | some (.int x) => some (pc + 2, Value.int x :: st.map zc, S, 0, 0)
    | _ => none) = _
  rw [hi]
theorem h_ldc2 {i : Nat} {x : Int64} {z : Int} (hf : am_find pc M.2.2.2.2.2.1 = some (.ldc2_w i, 3)) (hi : am_find i M.2.2.2.2.1.2.2.2.2.1 = some (.long x)) (hz : x = Int64.ofInt z) (k : hG (zs zC) d M (pc + 3) l (.inr (.inl z) :: st) H Q) : hG (zs zC) d M pc l st H Q := by
  refine h_same (fun S lc Q' hS g => G_heap0 hf rfl (pc' := pc + 3) (st' := .long x :: st.map zc) (S' := S) ?_ (by rw [hz]; exact g)) k
  show (match am_find i M.2.2.2.2.1.2.2.2.2.1 with
    | some (.long x) => some (pc + 3, Value.long x :: st.map zc, S, 0, 0)
    | _ => none) = _
  rw [hi]
theorem h_reti {x : Int} (hf : am_find pc M.2.2.2.2.2.1 = some (.ireturn, 1)) (hr : M.2.2.2.1 = some .int) (k : Q (some (.inl x)) H) : hG (zs zC) d M pc l [.inl x] H Q := by
  intro S lc hS hl
  refine G_ret (r := some (.int (Int32.ofInt x))) hf ?_ rfl ⟨rfl, rfl, some (.inl x), H, rfl, hS, zkeep_rf _ _, k⟩
  · show am_ret M.2.2.2.1 .ireturn 1 [.int (Int32.ofInt x)] = some (some (.int (Int32.ofInt x)))
    rw [hr]
    rfl
theorem h_retz {x : Int} (hf : am_find pc M.2.2.2.2.2.1 = some (.ireturn, 1)) (hr : M.2.2.2.1 = some .boolean) (hx : 0 ≤ x ∧ x ≤ 1) (k : Q (some (.inl x)) H) : hG (zs zC) d M pc l [.inl x] H Q := by
  intro S lc hS hl
  refine G_ret (r := some (.int (Int32.ofInt x))) hf ?_ rfl ⟨rfl, rfl, some (.inl x), H, rfl, hS, zkeep_rf _ _, k⟩
  · show am_ret M.2.2.2.1 .ireturn 1 [.int (Int32.ofInt x)] = some (some (.int (Int32.ofInt x)))
    have h0 : Int32.ofInt x = 0 ∨ Int32.ofInt x = 1 := by
      rcases (show x = 0 ∨ x = 1 by omega) with rfl | rfl
      · exact Or.inl rfl
      · exact Or.inr rfl
    rw [hr]
    show (if Int32.ofInt x = 0 ∨ Int32.ofInt x = 1 then some (some (Value.int (Int32.ofInt x))) else none) = _
    rw [if_pos h0]
theorem h_retl {x : Int} (hf : am_find pc M.2.2.2.2.2.1 = some (.lreturn, 1)) (hr : M.2.2.2.1 = some .long) (k : Q (some (.inr (.inl x))) H) : hG (zs zC) d M pc l [.inr (.inl x)] H Q := by
  intro S lc hS hl
  refine G_ret (r := some (.long (Int64.ofInt x))) hf ?_ rfl ⟨rfl, rfl, some (.inr (.inl x)), H, rfl, hS, zkeep_rf _ _, k⟩
  · show am_ret M.2.2.2.1 .lreturn 1 [.long (Int64.ofInt x)] = some (some (.long (Int64.ofInt x)))
    rw [hr]
    rfl
theorem h_ret (hf : am_find pc M.2.2.2.2.2.1 = some (.return_, 1)) (hr : M.2.2.2.1 = none) (k : Q none H) : hG (zs zC) d M pc l [] H Q := by
  intro S lc hS hl
  refine G_ret (r := none) hf ?_ rfl ⟨rfl, rfl, none, H, rfl, hS, zkeep_rf _ _, k⟩
  show am_ret M.2.2.2.1 .return_ 1 [] = some none
  rw [hr]
  rfl
def zargs : Nat → List zv → zl
  | _, [] => []
  | i, v :: vs => (i, v) :: zargs (bif Nat.beq (zk v) 2 then i + 2 else i + 1) vs
theorem zargs_ge : ∀ (vs : List zv) (i : Nat) (q : Nat × zv), q ∈ zargs i vs → i ≤ q.1
  | [], _, _, h => by cases h
  | v :: vs, i, q, h => by
    rcases List.mem_cons.mp h with rfl | h
    · exact Nat.le_refl _
    · have h1 := zargs_ge vs _ q h
      revert h1
      cases Nat.beq (zk v) 2
      · intro h1
        have h1 : i + 1 ≤ q.1 := h1
        omega
      · intro h1
        have h1 : i + 2 ≤ q.1 := h1
        omega
theorem zargs_ok : ∀ (vs : List zv) (i : Nat), zH (zargs i vs) (lv_args i (vs.map zc))
  | [], _ => fun q h => by cases h
  | v :: vs, i => by
    intro q hq
    have e : lv_args i ((v :: vs).map zc) = (i, zc v) :: lv_args (bif Nat.beq (zk v) 2 then i + 2 else i + 1) (vs.map zc) := by
      show (i, zc v) :: lv_args (if (zc v).category = 2 then i + 2 else i + 1) (vs.map zc) = _
      rw [zc_cat]
      by_cases e : zk v = 2
      · rw [if_pos e, e]
        rfl
      · rw [if_neg e, z_beq_ne e]
        rfl
    rw [e, am_find_cons]
    rcases List.mem_cons.mp hq with rfl | h
    · rw [if_pos rfl]
    · have h1 := zargs_ge vs _ q h
      have h2 : i ≠ q.1 := by
        revert h1
        cases Nat.beq (zk v) 2
        · intro h1
          have h1 : i + 1 ≤ q.1 := h1
          omega
        · intro h1
          have h1 : i + 2 ≤ q.1 := h1
          omega
      rw [if_neg h2]
      exact zargs_ok vs _ q h
def zw : List zv → Nat
  | [] => 0
  | v :: vs => zk v + zw vs
theorem zw_ok : ∀ vs : List zv, am_words (vs.map zc) = zw vs
  | [] => rfl
  | v :: vs => by
    have h := zw_ok vs
    unfold am_words at h ⊢
    rw [List.map_cons, List.map_cons, List.sum_cons, zc_cat, h]
    rfl
theorem zw_rev (vs : List zv) : am_words (vs.map zc).reverse = zw vs := by
  rw [← zw_ok]
  unfold am_words
  rw [List.map_reverse, List.sum_reverse]
theorem z_tl (r : Option zv) (rest : List zv) : (r.map zc).toList ++ rest.map zc = (r.toList ++ rest).map zc := by
  cases r <;> simp
/-- a call of a method of an object -/
theorem h_cv {i j b ci : Nat} {ds : List zsd} {M' : am_M} {xs rest : List zv} {Q' : Option zv → hp → Prop} (hf : am_find pc M.2.2.2.2.2.1 = some (.invokevirtual i, 3)) (hj : am_find i M.2.2.2.2.1.2.2.2.2.2 = some (j + 4)) (hP : at_P[j]? = some M') (hl : M'.2.2.2.2.2.2.1 = xs.length) (hs : zs zC b = some (.inl (ci, ds))) (hci : M'.2.2.2.2.2.2.2 = ci) (hw : zw rest ≤ 8) (hw2 : zw xs + 1 ≤ M'.2.2.1) (hd : 1 ≤ d) (hc : hG (zs zC) (d - 1) M' 0 (zargs 0 (.inr (.inr b) :: xs.reverse)) [] H Q') (k : ∀ r H1, Q' r H1 → hG (zs zC) d M (pc + 3) l (r.toList ++ rest) H1 Q) : hG (zs zC) d M pc l (xs ++ .inr (.inr b) :: rest) H Q := by
  obtain ⟨d, rfl⟩ : ∃ d0, d = d0 + 1 := ⟨d - 1, by omega⟩
  intro S lc hS hl9
  obtain ⟨⟨z, fs, h1, -, -⟩, -⟩ := hS b _ hs
  subst hci
  have hc := hc S _ hS (zargs_ok _ 0)
  rw [Nat.add_sub_cancel] at hc
  rw [List.map_append]
  refine G_cv (xs := xs.map zc) hf hj hP (by rw [List.length_map]; exact hl) h1 (by rw [zw_ok]; exact hw) (by rw [zw_rev]; exact hw2) (by rw [← List.map_reverse]; exact hc) ?_
  rintro r S1 c1 n1 ⟨rfl, rfl, r', H1, rfl, h4, h5, h6⟩
  obtain ⟨f, r2, S2, c2, n2, e1, rfl, rfl, r3, H3, e4, e5, e6, e7⟩ := k r' H1 h6 S1 lc h4 hl9
  rw [← z_tl] at e1
  exact ⟨f, r2, S2, _, _, e1, rfl, rfl, r3, H3, e4, e5, zkeep_tr h5 e6, e7⟩
/-- a call of a static method -/
theorem h_cs {i j : Nat} {M' : am_M} {xs rest : List zv} {Q' : Option zv → hp → Prop} (hf : am_find pc M.2.2.2.2.2.1 = some (.invokestatic i, 3)) (hj : am_find i M.2.2.2.2.1.2.2.2.2.2 = some (j + 4)) (hP : at_P[j]? = some M') (hl : M'.2.2.2.2.2.2.1 = xs.length) (hci : M'.2.2.2.2.2.2.2 = 1000) (hw : zw rest ≤ 8) (hw2 : zw xs ≤ M'.2.2.1) (hd : 1 ≤ d) (hc : hG (zs zC) (d - 1) M' 0 (zargs 0 xs.reverse) [] H Q') (k : ∀ r H1, Q' r H1 → hG (zs zC) d M (pc + 3) l (r.toList ++ rest) H1 Q) : hG (zs zC) d M pc l (xs ++ rest) H Q := by
  obtain ⟨d, rfl⟩ : ∃ d0, d = d0 + 1 := ⟨d - 1, by omega⟩
  intro S lc hS hl9
  have hc := hc S _ hS (zargs_ok _ 0)
  rw [Nat.add_sub_cancel] at hc
  rw [List.map_append]
  refine G_cs (xs := xs.map zc) hf hj hP (by rw [List.length_map]; exact hl) hci (by rw [zw_ok]; exact hw) (by rw [zw_rev]; exact hw2) (by rw [← List.map_reverse]; exact hc) ?_
  rintro r S1 c1 n1 ⟨rfl, rfl, r', H1, rfl, h4, h5, h6⟩
  obtain ⟨f, r2, S2, c2, n2, e1, rfl, rfl, r3, H3, e4, e5, e6, e7⟩ := k r' H1 h6 S1 lc h4 hl9
  rw [← z_tl] at e1
  exact ⟨f, r2, S2, _, _, e1, rfl, rfl, r3, H3, e4, e5, zkeep_tr h5 e6, e7⟩
end HR
