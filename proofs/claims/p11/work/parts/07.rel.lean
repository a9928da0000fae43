/-! THE STORE ON THE JVM's HEAP: cell 0 is the law's script (at b), cell k + 1 is the k-th cell made since the heap Hb -/
def am_ad (b base : Nat) : Nat → Nat
  | 0 => b
  | k + 1 => base + k
theorem am_ad_inj {b base : Nat} (hb : b < base) : ∀ {i j : Nat}, am_ad b base i = am_ad b base j → i = j
  | 0, 0, _ => rfl
  | 0, j + 1, h => by
    have h : b = base + j := h
    omega
  | i + 1, 0, h => by
    have h : base + i = b := h
    omega
  | i + 1, j + 1, h => by
    have h : base + i = base + j := h
    omega
/-- what a cell is on the heap -/
def am_at (D : va_G) (cl : List vw_C) (ad : Nat → Nat) (s : State) (a : Nat) (x : am_E) (H : Heap) : Prop := match x with
  | .inl (ty, n, d, u) => ∃ cA : ClassId, (ArrOfT s cA ty ∧ va_RA s cA ty) ∧ H[a]? = some (arrV cA n (fun j => am_cv ad (am_fn d u j)))
  | .inr (ci, fs) => ∃ r : vw_C, cl[ci]? = some r ∧ fs.length = r.2.2 ∧ t_OB a (D.1 ci) r.2.2 (D.2 ci) H (fun k => am_cv ad (vp_V fs k))
theorem am_at.kept {D : va_G} {cl : List vw_C} {ad : Nat → Nat} {s : State} {a : Nat} {x : am_E} {H H1 : Heap} (h : am_at D cl ad s a x H) (e : H1[a]? = H[a]?) : am_at D cl ad s a x H1 := by
  cases x with
  | inl q =>
    obtain ⟨ty, n, d, u⟩ := q
    obtain ⟨cA, h1, h2⟩ := h
    exact ⟨cA, h1, by rw [e]; exact h2⟩
  | inr q =>
    obtain ⟨ci, fs⟩ := q
    obtain ⟨r, h1, h2, h3⟩ := h
    exact ⟨r, h1, h2, h3.kept e⟩
theorem am_at.moved {D : va_G} {cl : List vw_C} {ad : Nat → Nat} {s t : State} {a : Nat} {x : am_E} {H : Heap} (hvm : s.vm.Alike t.vm) (h : am_at D cl ad s a x H) : am_at D cl ad t a x H := by
  cases x with
  | inl q =>
    obtain ⟨ty, n, d, u⟩ := q
    obtain ⟨cA, h1, h2⟩ := h
    exact ⟨cA, ⟨arrOfT_moved hvm h1.1, h1.2.moved hvm⟩, h2⟩
  | inr q =>
    obtain ⟨ci, fs⟩ := q
    exact h
/-- the store S on the heap H: what was there stays; the script; the cells made -/
def am_R (D : va_G) (cl : List vw_C) (b : Nat) (Hb : Heap) (S : am_S) (s : State) (H : Heap) : Prop :=
  b < Hb.size ∧ H.size = Hb.size + S.2.1 ∧ (∀ q : Nat, q < Hb.size → H[q]? = Hb[q]?) ∧
  (∃ (L : Nat) (xs : Nat → Int32), (S.1 = (0, none) ∨ ∃ u, S.1 = (L, some (.inl (.int, L, .int 0, u))) ∧ ∀ j, j < L → am_fn (.int 0) u j = .int (xs j)) ∧ va_X b L xs s H) ∧
  ∀ (k z : Nat) (x : am_E), am_nth S (k + 1) = some (z, some x) → am_at D cl (am_ad b Hb.size) s (Hb.size + k) x H
theorem am_R.moved {D : va_G} {cl : List vw_C} {b : Nat} {Hb : Heap} {S : am_S} {s t : State} {H : Heap} (hvm : s.vm.Alike t.vm) (h : am_R D cl b Hb S s H) : am_R D cl b Hb S t H := by
  obtain ⟨h1, h2, h3, ⟨L, xs, h4, h5⟩, h6⟩ := h
  exact ⟨h1, h2, h3, ⟨L, xs, h4, h5.moved hvm⟩, fun k z x hk => (h6 k z x hk).moved hvm⟩
/-- an array is read -/
theorem am_R.arr {D : va_G} {cl : List vw_C} {b : Nat} {Hb : Heap} {S : am_S} {s : State} {H : Heap} (h : am_R D cl b Hb S s H) {k z n : Nat} {ty : FieldType} {d : Value} {u : List (Nat × Value)} (hk : am_nth S k = some (z, some (.inl (ty, n, d, u)))) :
    ∃ cell : Cell, H[am_ad b Hb.size k]? = some cell ∧ s.isArrayOf cell ty ∧ cell.vm ≠ .unknown ∧ cell.slots.size = n ∧ ∀ j : Nat, j < n → cell.slots[j]? = some (am_cv (am_ad b Hb.size) (am_fn d u j)) := by
  obtain ⟨h1, h2, h3, ⟨L, xs, h4, scr, q1, q2, q3, q4, q5⟩, h6⟩ := h
  cases k with
  | zero =>
    have hk : some S.1 = some (z, some (.inl (ty, n, d, u))) := hk
    rcases h4 with h4 | ⟨u', h4, h7⟩
    · rw [h4] at hk
      cases hk
    · rw [h4] at hk
      cases hk
      exact ⟨scr, q1, q2, q3, q4, fun j hj => by rw [q5 j hj, h7 j hj]; rfl⟩
  | succ k =>
    obtain ⟨cA, ⟨e1, -⟩, e2⟩ := h6 k z _ hk
    exact ⟨_, e2, e1 n _, (fun q => by cases q), arrV_size _ _ _, (fun j hj => arrV_read _ _ hj)⟩
/-- one cell that was made is written -/
theorem am_R.put {D : va_G} {cl : List vw_C} {b : Nat} {Hb : Heap} {S : am_S} {s : State} {H H1 : Heap} (h : am_R D cl b Hb S s H) {k z : Nat} {x0 x : am_E} (hk : am_nth S (k + 1) = some (z, some x0)) (hx : am_at D cl (am_ad b Hb.size) s (Hb.size + k) x H1) (hz : H1.size = H.size) (ho : ∀ q : Nat, q ≠ Hb.size + k → H1[q]? = H[q]?) :
    am_R D cl b Hb (am_set S (k + 1) (z, some x)) s H1 := by
  obtain ⟨h1, h2, h3, ⟨L, xs, h4, h5⟩, h6⟩ := h
  refine ⟨h1, by rw [hz]; exact h2, fun q hq => (ho q (by omega)).trans (h3 q hq), ⟨L, xs, h4, h5.kept (ho b (by omega))⟩, fun j z' y hj => ?_⟩
  rw [am_nth_set _ hk] at hj
  by_cases e : j = k
  · subst e
    rw [if_pos rfl] at hj
    cases hj
    exact hx
  · rw [if_neg e] at hj
    exact (h6 j z' y hj).kept (ho _ (by omega))
/-- a cell is made -/
theorem am_R.new {D : va_G} {cl : List vw_C} {b : Nat} {Hb : Heap} {S : am_S} {s : State} {H H1 : Heap} (h : am_R D cl b Hb S s H) {z : Nat} {x : Option am_E} (hx : ∀ y, x = some y → am_at D cl (am_ad b Hb.size) s H.size y H1) (hz : H1.size = H.size + 1) (ho : ∀ q : Nat, q < H.size → H1[q]? = H[q]?) :
    am_R D cl b Hb (am_add S (z, x)) s H1 ∧ am_ad b Hb.size (am_len S) = H.size := by
  obtain ⟨h1, h2, h3, ⟨L, xs, h4, h5⟩, h6⟩ := h
  refine ⟨⟨h1, by show H1.size = Hb.size + (S.2.1 + 1); omega, fun q hq => (ho q (by omega)).trans (h3 q hq), ⟨L, xs, h4, h5.kept (ho b (by omega))⟩, fun j z' y hj => ?_⟩, ?_⟩
  · rw [am_nth_add] at hj
    by_cases e : j = S.2.1
    · rw [if_pos e] at hj
      cases hj
      have e3 : Hb.size + j = H.size := by omega
      rw [e3]
      exact hx _ rfl
    · rw [if_neg e] at hj
      have := (am_nth_lt hj).1
      exact (h6 j z' y hj).kept (ho _ (by omega))
  · show Hb.size + S.2.1 = H.size
    omega
theorem am_vpV_cv (ad : Nat → Nat) (fs : List Value) (k : Nat) (v : Value) (h : fs[k]? = some v) : am_cv ad (vp_V fs k) = am_cv ad v := by
  have : vp_V fs k = v := by
    unfold vp_V
    rw [List.getD_eq_getElem?_getD, h]
    rfl
  rw [this]
