/-! the start: the store behind both constructors is a heap, and all holds of it -/
def nmv (v : Value) : Int := match v with
  | .int x => x.toInt
  | .long x => x.toInt
  | _ => 0
def rfv (v : Value) : Nat := match v with
  | .ref a => a
  | _ => 0
def u0r (u : List (Nat × Value)) : Nat := match u with
  | [] => 0
  | q :: _ => rfv q.2
def cn (o : am_C) (j : Nat) : Int := match o.2 with
  | some (.inr (_, fs)) => match fs[j]? with
    | some v => nmv v
    | none => 0
  | some (.inl (_, _, dv, u)) => match am_find j u with
    | some v => nmv v
    | none => nmv dv
  | none => 0
def cr (o : am_C) (j : Nat) : Nat := match o.2 with
  | some (.inr (_, fs)) => match fs[j]? with
    | some v => rfv v
    | none => 0
  | some (.inl (_, _, _, u)) => match am_find j u with
    | some v => rfv v
    | none => u0r u
  | none => 0
/-- a value of a type, its number in the type's range -/
def vok (ty : FieldType) (v : Value) : Bool := match ty with
  | .long => match v with
    | .long _ => true
    | _ => false
  | .object _ => match v with
    | .ref _ => true
    | _ => false
  | .array _ => match v with
    | .ref _ => true
    | _ => false
  | .byte => match v with
    | .int x => decide (-128 ≤ x.toInt ∧ x.toInt ≤ 127)
    | _ => false
  | .boolean => match v with
    | .int x => decide (0 ≤ x.toInt ∧ x.toInt ≤ 1)
    | _ => false
  | _ => match v with
    | .int _ => true
    | _ => false
theorem vok_of {ty : FieldType} {v : Value} {f : Nat → Int} {g : Nat → Nat} {j : Nat} (h : vok ty v = true) (hf : f j = nmv v) (hg : (∃ a, v = .ref a) → g j = rfv v) : v = zval ty f g j ∧ zrng ty (f j) := by
  have i32 : ∀ x : Int32, Int32.ofInt x.toInt = x := fun x => Int32.ofInt_toInt x
  have i64 : ∀ x : Int64, Int64.ofInt x.toInt = x := fun x => Int64.ofInt_toInt x
  have r32 : ∀ x : Int32, -2147483648 ≤ x.toInt ∧ x.toInt ≤ 2147483647 := fun x => z_int x
  have r64 : ∀ x : Int64, -9223372036854775808 ≤ x.toInt ∧ x.toInt ≤ 9223372036854775807 := fun x => z_long x
  cases v with
  | int x =>
    have hf : f j = x.toInt := hf
    cases ty <;> first
      | (exact Bool.noConfusion (show false = true from h))
      | (refine ⟨?_, ?_⟩ <;> first
          | (show Value.int x = Value.int (Int32.ofInt (f j)); rw [hf, i32])
          | (rw [hf]; exact of_decide_eq_true (p := -128 ≤ x.toInt ∧ x.toInt ≤ 127) h)
          | (rw [hf]; exact of_decide_eq_true (p := 0 ≤ x.toInt ∧ x.toInt ≤ 1) h)
          | (rw [hf]; exact r32 _))
  | long x =>
    have hf : f j = x.toInt := hf
    cases ty <;> first
      | (exact Bool.noConfusion (show false = true from h))
      | (refine ⟨?_, ?_⟩ <;> first
          | (show Value.long x = Value.long (Int64.ofInt (f j)); rw [hf, i64])
          | (rw [hf]; exact r64 _))
  | ref a =>
    have hf : f j = 0 := hf
    have hg : g j = a := hg ⟨a, rfl⟩
    cases ty <;> first
      | (exact Bool.noConfusion (show false = true from h))
      | (refine ⟨?_, ?_⟩ <;> first
          | (show Value.ref a = Value.ref (g j); rw [hg])
          | (rw [hf]; show (-2147483648 : Int) ≤ 0 ∧ (0 : Int) ≤ 2147483647; decide))
  | _ =>
    cases ty <;> exact Bool.noConfusion (show false = true from h)
def zsl : List zsd → List Value → Bool
  | [], [] => true
  | .inl ty :: ds, v :: vs => vok ty v && zsl ds vs
  | .inr a :: ds, v :: vs => (match v with
    | .ref b => Nat.beq a b
    | _ => false) && zsl ds vs
  | _, _ => false
def zsp (dd : zsd) (v : Value) : Prop := match dd with
  | .inl ty => vok ty v = true
  | .inr a => v = .ref a
theorem zsl_len : ∀ {ds : List zsd} {fs : List Value}, zsl ds fs = true → fs.length = ds.length
  | [], [], _ => rfl
  | .inl ty :: ds, v :: vs, h => by
    unfold zsl at h
    rw [Bool.and_eq_true] at h
    exact congrArg (· + 1) (zsl_len h.2)
  | .inr a :: ds, v :: vs, h => by
    unfold zsl at h
    rw [Bool.and_eq_true] at h
    exact congrArg (· + 1) (zsl_len h.2)
  | .inl _ :: _, [], h => by unfold zsl at h; cases h
  | .inr _ :: _, [], h => by unfold zsl at h; cases h
  | [], _ :: _, h => by unfold zsl at h; cases h
theorem zsl_at : ∀ {ds : List zsd} {fs : List Value}, zsl ds fs = true → ∀ (j : Nat) (dd : zsd), ds[j]? = some dd → ∃ v, fs[j]? = some v ∧ zsp dd v
  | [], _, _, j, dd, h => by simp at h
  | .inl ty :: ds, v :: vs, h, j, dd, hj => by
    unfold zsl at h
    rw [Bool.and_eq_true] at h
    cases j with
    | zero =>
      simp at hj
      subst hj
      exact ⟨v, rfl, h.1⟩
    | succ j =>
      have hj : ds[j]? = some dd := hj
      exact zsl_at h.2 j dd hj
  | .inr a :: ds, v :: vs, h, j, dd, hj => by
    unfold zsl at h
    rw [Bool.and_eq_true] at h
    cases j with
    | zero =>
      simp at hj
      subst hj
      refine ⟨v, rfl, ?_⟩
      have h1 := h.1
      split at h1
      · exact congrArg Value.ref (Nat.eq_of_beq_eq_true h1).symm
      · cases h1
    | succ j =>
      have hj : ds[j]? = some dd := hj
      exact zsl_at h.2 j dd hj
  | .inl _ :: _, [], h, _, _, _ => by unfold zsl at h; cases h
  | .inr _ :: _, [], h, _, _, _ => by unfold zsl at h; cases h
def norf (v : Value) : Bool := match v with
  | .ref _ => false
  | _ => true
def zkb (x : zsh) (o : am_C) : Bool := match x, o.2 with
  | .inl (ci, ds), some (.inr (c, fs)) => Nat.beq c ci && zsl ds fs
  | .inr (ty, n), some (.inl (t, m, dv, u)) => decide (t = ty) && (Nat.beq m n && (norf dv && (match u with
    | [] => vok ty dv
    | _ => (List.range n).all (fun j => vok ty (am_fn dv u j)))))
  | _, _ => false
theorem cn_o {z c : Nat} {fs : List Value} {j : Nat} {v : Value} (h : fs[j]? = some v) : cn (z, some (.inr (c, fs))) j = nmv v := by
  show (match fs[j]? with
    | some v => nmv v
    | none => 0) = _
  rw [h]
theorem cr_o {z c : Nat} {fs : List Value} {j : Nat} {v : Value} (h : fs[j]? = some v) : cr (z, some (.inr (c, fs))) j = rfv v := by
  show (match fs[j]? with
    | some v => rfv v
    | none => 0) = _
  rw [h]
theorem cn_a (z : Nat) (t : FieldType) (m : Nat) (dv : Value) (u : List (Nat × Value)) (j : Nat) : cn (z, some (.inl (t, m, dv, u))) j = nmv (am_fn dv u j) := by
  show (match am_find j u with
    | some v => nmv v
    | none => nmv dv) = nmv (match am_find j u with
    | some v => v
    | none => dv)
  cases am_find j u <;> rfl
theorem cr_a (z : Nat) (t : FieldType) (m : Nat) (dv : Value) (u : List (Nat × Value)) (j : Nat) (hd : norf dv = true) : (∃ a, am_fn dv u j = .ref a) → cr (z, some (.inl (t, m, dv, u))) j = rfv (am_fn dv u j) := by
  show (∃ a, (match am_find j u with
    | some v => v
    | none => dv) = .ref a) → (match am_find j u with
    | some v => rfv v
    | none => u0r u) = rfv (match am_find j u with
    | some v => v
    | none => dv)
  cases am_find j u with
  | some v => intro _; rfl
  | none =>
    intro h
    obtain ⟨a, h⟩ := h
    dsimp only at h
    rw [h] at hd
    cases hd
theorem zkb_ok {x : zsh} {o : am_C} (h : zkb x o = true) : zok x (some o) (cn o) (cr o) := by
  unfold zkb at h
  split at h
  · rename_i ci ds c fs e
    obtain ⟨z, o2⟩ := o
    dsimp only at e
    subst e
    rw [Bool.and_eq_true] at h
    have h1 := Nat.eq_of_beq_eq_true h.1
    subst h1
    have hs : ∀ (j : Nat) (dd : zsd), ds[j]? = some dd → fs[j]? = some (zslot dd (cn (z, some (.inr (c, fs)))) (cr (z, some (.inr (c, fs)))) j) ∧ ∀ ty, dd = .inl ty → zrng ty (cn (z, some (.inr (c, fs))) j) := by
      intro j dd hj
      obtain ⟨v, h2, h3⟩ := zsl_at h.2 j dd hj
      cases dd with
      | inl ty =>
        have h4 := vok_of (f := cn (z, some (.inr (c, fs)))) (g := cr (z, some (.inr (c, fs)))) (j := j) h3 (cn_o h2) (fun _ => cr_o h2)
        refine ⟨?_, ?_⟩
        · rw [h2]
          exact congrArg some h4.1
        · intro ty' e
          cases e
          exact h4.2
      | inr a =>
        have h3 : v = .ref a := h3
        refine ⟨?_, ?_⟩
        · rw [h2, h3]
          rfl
        · intro ty' e
          cases e
    exact ⟨⟨z, fs, rfl, zsl_len h.2, fun j dd hj => (hs j dd hj).1⟩, fun j ty hj => (hs j _ hj).2 ty rfl⟩
  · rename_i ty n t m dv u e
    obtain ⟨z, o2⟩ := o
    dsimp only at e
    subst e
    rw [Bool.and_eq_true, Bool.and_eq_true, Bool.and_eq_true] at h
    obtain ⟨h1, h2, h3, h4⟩ := h
    have h1 := of_decide_eq_true h1
    subst h1
    have h2 := Nat.eq_of_beq_eq_true h2
    subst h2
    have hv : ∀ j, j < m → vok t (am_fn dv u j) = true := by
      intro j hj
      split at h4
      · exact h4
      · exact List.all_eq_true.mp h4 j (List.mem_range.mpr hj)
    have hs : ∀ j, j < m → am_fn dv u j = zval t (cn (z, some (.inl (t, m, dv, u)))) (cr (z, some (.inl (t, m, dv, u)))) j ∧ zrng t (cn (z, some (.inl (t, m, dv, u))) j) := fun j hj => vok_of (hv j hj) (cn_a z t m dv u j) (cr_a z t m dv u j h3)
    exact ⟨⟨z, dv, u, rfl, fun j hj => (hs j hj).1⟩, fun j hj => (hs j hj).2⟩
  · cases h
def isTb (t n : Nat) : Bool := q_o (kK t) (kTo t n) && (q_o (kK (t + 1)) (kTc n) && (Nat.ble 1 t && (Nat.ble (t + 2) 1826 && Nat.ble n 240)))
theorem isTb_ok {t n : Nat} (h : isTb t n = true) : isT t n := by
  unfold isTb at h
  simp only [Bool.and_eq_true] at h
  obtain ⟨h1, h2, h3, h4, h5⟩ := h
  have h1 := q_o_ok h1
  have h2 := q_o_ok h2
  have h3 := Nat.le_of_ble_eq_true h3
  have h4 := Nat.le_of_ble_eq_true h4
  have h5 := Nat.le_of_ble_eq_true h5
  exact ⟨h1, h2, by omega, by omega, h5⟩
def knb (c : Nat) : Nat := match kK c with
  | some (.inr (_, n), _) => n
  | _ => 0
def isEb (e : Nat) : Bool := q_o (kK e) (kEo e) && (q_o (kK (e + 5)) kEt && (isTb (e + 1) 40 && (isTb (e + 3) 40 && (Nat.ble 1 e && Nat.ble (e + 6) 1826))))
theorem isEb_ok {e : Nat} (h : isEb e = true) : isE e := by
  unfold isEb at h
  simp only [Bool.and_eq_true] at h
  obtain ⟨h1, h2, h3, h4, h5, h6⟩ := h
  have h1 := q_o_ok h1
  have h2 := q_o_ok h2
  have h5 := Nat.le_of_ble_eq_true h5
  have h6 := Nat.le_of_ble_eq_true h6
  exact ⟨h1, h2, isTb_ok h3, isTb_ok h4, by omega, by omega⟩
def isGb (g : Nat) : Bool := q_o (kK g) (kGo g) && (q_o (kK (g + 1)) kGt && (q_o (kK (g + 2)) kGf && (Nat.ble 1 g && Nat.ble (g + 3) 1826)))
theorem isGb_ok {g : Nat} (h : isGb g = true) : isG g := by
  unfold isGb at h
  simp only [Bool.and_eq_true] at h
  obtain ⟨h1, h2, h3, h5, h6⟩ := h
  have h1 := q_o_ok h1
  have h2 := q_o_ok h2
  have h3 := q_o_ok h3
  have h5 := Nat.le_of_ble_eq_true h5
  have h6 := Nat.le_of_ble_eq_true h6
  exact ⟨h1, h2, h3, by omega, by omega⟩
def isAb (a n : Nat) : Bool := (match kK a with
  | some x => q_o (kK a) (.inr (.int, n), [(-2, 100)], [0], x.2.2.2)
  | none => false) && (Nat.ble 1 a && (Nat.ble (a + 1) 1826 && Nat.ble n 240))
theorem isAb_ok {a n : Nat} (h : isAb a n = true) : isA a n := by
  unfold isAb at h
  simp only [Bool.and_eq_true] at h
  obtain ⟨h1, h3, h4, h5⟩ := h
  have h3 := Nat.le_of_ble_eq_true h3
  have h4 := Nat.le_of_ble_eq_true h4
  have h5 := Nat.le_of_ble_eq_true h5
  split at h1
  · exact ⟨_, q_o_ok h1, by omega, by omega, h5⟩
  · cases h1
def okb (k a : Nat) : Bool := match k with
  | 0 => true
  | 1 => isTb a (knb (a + 1))
  | 2 => isEb a
  | 3 => isGb a
  | 4 => isAb a (knb a)
  | 5 => isTb a (knb (a + 1)) && Nat.ble 370 a
  | _ => true
theorem okb_ok {k a : Nat} (h : okb k a = true) : okr k a := by
  unfold okb at h
  split at h
  · trivial
  · exact ⟨_, isTb_ok h⟩
  · exact isEb_ok h
  · exact isGb_ok h
  · exact ⟨_, isAb_ok h⟩
  · rw [Bool.and_eq_true] at h
    exact ⟨⟨_, isTb_ok h.1⟩, Nat.le_of_ble_eq_true h.2⟩
  · unfold okr
    split <;> first | trivial | contradiction
def limb (q : Int × Int) (z : Int) : Bool := decide (q.1 ≤ z) && decide (z ≤ q.2)
theorem limb_ok {q : Int × Int} {z : Int} (h : limb q z = true) : q.1 ≤ z ∧ z ≤ q.2 := by
  unfold limb at h
  simp only [Bool.and_eq_true, decide_eq_true_eq] at h
  exact h
def invb (x : kx) (o : am_C) : Bool := match x.1, o.2 with
  | .inl _, some (.inr (_, fs)) => Nat.ble x.2.1.length fs.length && (Nat.ble x.2.2.1.length fs.length && (List.range fs.length).all (fun j => limb (x.2.1.getD j (0, 0)) (cn o j) && okb (x.2.2.1.getD j 0) (cr o j)))
  | .inr _, some (.inl (_, _, dv, u)) => limb (x.2.1.getD 0 (0, 0)) (nmv dv) && (okb (x.2.2.1.getD 0 0) (u0r u) && u.all (fun q => limb (x.2.1.getD 0 (0, 0)) (nmv q.2) && okb (x.2.2.1.getD 0 0) (rfv q.2)))
  | _, _ => false
theorem invb_ok {x : kx} {o : am_C} (h : invb x o = true) : (∀ j, (klim x j).1 ≤ cn o j ∧ cn o j ≤ (klim x j).2) ∧ ∀ j, okr (kref x j) (cr o j) := by
  unfold invb at h
  split at h
  · rename_i y c fs e1 e2
    obtain ⟨z, o2⟩ := o
    dsimp only at e2
    subst e2
    obtain ⟨x1, x2, x3, x4⟩ := x
    dsimp only at e1 h
    subst e1
    simp only [Bool.and_eq_true] at h
    obtain ⟨h1, h2, h3⟩ := h
    have h1 := Nat.le_of_ble_eq_true h1
    have h2 := Nat.le_of_ble_eq_true h2
    have hk : ∀ j, klim (.inl y, x2, x3, x4) j = x2.getD j (0, 0) := fun _ => rfl
    have hr : ∀ j, kref (.inl y, x2, x3, x4) j = x3.getD j 0 := fun _ => rfl
    have hj : ∀ j, j < fs.length → limb (x2.getD j (0, 0)) (cn (z, some (.inr (c, fs))) j) = true ∧ okb (x3.getD j 0) (cr (z, some (.inr (c, fs))) j) = true := by
      intro j hj
      have h := List.all_eq_true.mp h3 j (List.mem_range.mpr hj)
      rw [Bool.and_eq_true] at h
      exact h
    refine ⟨fun j => ?_, fun j => ?_⟩
    · rw [hk]
      by_cases e : j < fs.length
      · exact limb_ok (hj j e).1
      · have e1 : cn (z, some (.inr (c, fs))) j = 0 := by
          show (match fs[j]? with
            | some v => nmv v
            | none => 0) = _
          rw [List.getElem?_eq_none (by omega)]
        rw [e1, List.getD_eq_getElem?_getD, List.getElem?_eq_none (by omega)]
        exact ⟨Int.le_refl 0, Int.le_refl 0⟩
    · rw [hr]
      by_cases e : j < fs.length
      · exact okb_ok (hj j e).2
      · rw [List.getD_eq_getElem?_getD, List.getElem?_eq_none (by omega)]
        trivial
  · rename_i y t n dv u e1 e2
    obtain ⟨z, o2⟩ := o
    dsimp only at e2
    subst e2
    obtain ⟨x1, x2, x3, x4⟩ := x
    dsimp only at e1 h
    subst e1
    simp only [Bool.and_eq_true] at h
    obtain ⟨h1, h2, h3⟩ := h
    have hu : ∀ j v, am_find j u = some v → limb (x2.getD 0 (0, 0)) (nmv v) = true ∧ okb (x3.getD 0 0) (rfv v) = true := by
      intro j v hv
      have h := List.all_eq_true.mp h3 _ (am_find_mem hv)
      rw [Bool.and_eq_true] at h
      exact h
    refine ⟨fun j => ?_, fun j => ?_⟩
    · show (x2.getD 0 (0, 0)).1 ≤ (match am_find j u with
        | some v => nmv v
        | none => nmv dv) ∧ (match am_find j u with
        | some v => nmv v
        | none => nmv dv) ≤ (x2.getD 0 (0, 0)).2
      split
      · rename_i v hv
        exact limb_ok (hu j v hv).1
      · exact limb_ok h1
    · show okr (x3.getD 0 0) (match am_find j u with
        | some v => rfv v
        | none => u0r u)
      split
      · rename_i v hv
        exact okb_ok (hu j v hv).2
      · exact okb_ok h2
  · cases h
def ck1 (c : Nat) (o : am_C) : Bool := (match zs zK c with
  | some x => zkb x o
  | none => true) && (match kK c with
  | some x => invb x o
  | none => true)
theorem ck1_z {c : Nat} {o : am_C} {x : zsh} (h : ck1 c o = true) (hx : zs zK c = some x) : zok x (some o) (cn o) (cr o) := by
  unfold ck1 at h
  rw [Bool.and_eq_true, hx] at h
  exact zkb_ok h.1
theorem ck1_i {c : Nat} {o : am_C} {x : kx} (h : ck1 c o = true) (hx : kK c = some x) : (∀ j, (klim x j).1 ≤ cn o j ∧ cn o j ≤ (klim x j).2) ∧ ∀ j, okr (kref x j) (cr o j) := by
  unfold ck1 at h
  rw [Bool.and_eq_true, hx] at h
  exact invb_ok h.2
def ckl : Nat → List am_C → Bool
  | _, [] => true
  | c, o :: l => ck1 c o && ckl (c - 1) l
theorem ckl_at : ∀ {l : List am_C} {c : Nat}, ckl c l = true → ∀ (i : Nat) (o : am_C), l[i]? = some o → ck1 (c - i) o = true
  | [], _, _, i, o, h => by simp at h
  | p :: l, c, h, i, o, hi => by
    unfold ckl at h
    rw [Bool.and_eq_true] at h
    cases i with
    | zero =>
      simp at hi
      subst hi
      exact h.1
    | succ i =>
      have hi : l[i]? = some o := hi
      rw [show c - (i + 1) = c - 1 - i by omega]
      exact ckl_at h.2 i o hi
theorem ckl_s8 : ckl 1899 s8.2 = true := by decide +kernel
theorem len_s8 : s8.2.length = 1899 := by decide +kernel
def H0 : hp := (fun c => match am_nth ((0, none), s8) c with
  | some o => cn o
  | none => fun _ => 0, fun c => match am_nth ((0, none), s8) c with
  | some o => cr o
  | none => fun _ => 0)
theorem s8_cell {c : Nat} (h0 : c ≠ 0) (h1 : c ≤ 1899) (c0 : am_C) : ∃ o, am_nth (c0, s8) c = some o ∧ ck1 c o = true ∧ H0.1 c = cn o ∧ H0.2 c = cr o := by
  obtain ⟨k, rfl⟩ : ∃ k, c = k + 1 := ⟨c - 1, by omega⟩
  have hl := len_s8
  have hn : ∀ c0 : am_C, am_nth (c0, s8) (k + 1) = s8.2[1899 - 1 - k]? := fun c0 => if_pos (show k < 1899 by omega)
  have hg : s8.2[1899 - 1 - k]? = some (s8.2[1899 - 1 - k]'(by rw [hl]; omega)) := List.getElem?_eq_getElem _
  refine ⟨_, (hn c0).trans hg, ?_, ?_, ?_⟩
  · have h := ckl_at ckl_s8 (1899 - 1 - k) _ hg
    rw [show 1899 - (1899 - 1 - k) = k + 1 by omega] at h
    exact h
  · show (match am_nth ((0, none), s8) (k + 1) with
      | some o => cn o
      | none => fun _ => 0) = _
    rw [hn, hg]
  · show (match am_nth ((0, none), s8) (k + 1) with
      | some o => cr o
      | none => fun _ => 0) = _
    rw [hn, hg]
theorem zs_rng {c : Nat} {x : zsh} (h : zs zK c = some x) : c ≠ 0 ∧ c ≤ 1898 := by
  unfold zs at h
  split at h
  · rename_i y e
    refine ⟨?_, ?_⟩
    · intro e0
      rw [e0, show am_find 0 zT = none from rfl] at e
      cases e
    · have := am_find_lt (m := 1899) (l := zT) rfl e
      omega
  · unfold zK at h
    cases e : kK c with
    | none => rw [e] at h; cases h
    | some y =>
      refine ⟨?_, ?_⟩
      · intro e0
        rw [e0, show kK 0 = none from rfl] at e
        cases e
      · have := kK_lt e
        omega
theorem H0_zR (c0 : am_C) : zR (zs zK) (c0, s8) H0 := by
  intro c x hx
  obtain ⟨h1, h2⟩ := zs_rng hx
  obtain ⟨o, h3, h4, h5, h6⟩ := s8_cell h1 (by omega) c0
  rw [h3, h5, h6]
  exact ck1_z h4 hx
theorem H0_Inv : Inv H0 := by
  intro c x hx
  obtain ⟨h1, h2⟩ := zs_rng (zs_K hx (kK_lt hx))
  obtain ⟨o, h3, h4, h5, h6⟩ := s8_cell h1 (by omega) (0, none)
  rw [h5, h6]
  exact ck1_i h4 hx
theorem H0_GI : GI H0 := by
  have e1 : H0.1 1826 1 = 0 := by decide +kernel
  have e3 : H0.1 1826 3 = 0 := by decide +kernel
  have e8 : H0.1 1826 8 = 0 := by decide +kernel
  have e13 : H0.1 1826 13 = 0 := by decide +kernel
  have e19 : H0.1 1826 19 = 0 := by decide +kernel
  have e28 : H0.1 1826 28 = 0 := by decide +kernel
  have e32 : H0.1 1826 32 = 0 := by decide +kernel
  have e59 : H0.1 1826 59 = 0 := by decide +kernel
  have e67 : H0.1 1826 67 = -1 := by decide +kernel
  have e77 : H0.1 1826 77 = 0 := by decide +kernel
  have e89 : H0.1 1826 89 = 0 := by decide +kernel
  have e97 : H0.1 1826 97 = -1 := by decide +kernel
  have eo : H0.1 1871 0 = 0 := by decide +kernel
  refine ⟨?_, ?_, ?_, ?_, ?_, ?_⟩
  · unfold PWc
    rw [e1, e3, e8, e13, e19]
    refine ⟨by decide, ?_, ?_, ?_, ?_⟩
    · intro c hc
      exact absurd hc (by omega)
    · intro c hc
      exact absurd hc (by omega)
    · intro c hc
      exact absurd hc (by omega)
    · intro c hc
      exact absurd hc (by omega)
  · rw [e28]
    decide
  · rw [e32]
    decide
  · rw [e59]
    decide
  · refine ⟨?_, ?_, e97, 0, e77, Or.inl rfl⟩
    · rw [eo]
      decide
    · rw [e89]
      decide
  · exact Or.inl e67
theorem H0_tape : H0.1 2 1 = 0 ∧ H0.1 1826 28 = 0 := ⟨by decide +kernel, by decide +kernel⟩
/-- a cell names no told term where it must not -/
def cl1 (c : Nat) (o : am_C) : Bool := match kK c with
  | none => true
  | some x => match x.1 with
    | .inl (ci, ds) => (List.range ds.length).all (fun k => match ds[k]? with
      | some (.inl ty) => !(rty ty && !(dDw ci k)) || !(bdcw (cr o k))
      | _ => true)
    | .inr (ty, n) => !(rty ty && !(Nat.beq c 377)) || (List.range n).all (fun k => !(bdcw (cr o k)))
theorem cl1_of {c k : Nat} {o : am_C} (h : cl1 c o = true) (hm : mrb c k = true) : bdcw (cr o k) = false := by
  unfold mrb at hm
  rw [Bool.and_eq_true, Bool.and_eq_true] at hm
  obtain ⟨-, -, hm⟩ := hm
  unfold cl1 at h
  cases hx : kK c with
  | none =>
    rw [hx] at hm
    cases hm
  | some x =>
    rw [hx] at hm h
    obtain ⟨x1, x2, x3, x4⟩ := x
    cases x1 with
    | inl y =>
      obtain ⟨ci, ds⟩ := y
      have hm : (match ds[k]? with
        | some (.inl ty) => rty ty && !(dDw ci k)
        | _ => false) = true := hm
      have h : (List.range ds.length).all (fun k => match ds[k]? with
        | some (.inl ty) => !(rty ty && !(dDw ci k)) || !(bdcw (cr o k))
        | _ => true) = true := h
      cases hd : ds[k]? with
      | none =>
        rw [hd] at hm
        cases hm
      | some dd =>
        have hkl : k < ds.length := (List.getElem?_eq_some_iff.mp hd).1
        have q : (match ds[k]? with
          | some (.inl ty) => !(rty ty && !(dDw ci k)) || !(bdcw (cr o k))
          | _ => true) = true := List.all_eq_true.mp h k (List.mem_range.mpr hkl)
        rw [hd] at hm q
        cases dd with
        | inr n => cases hm
        | inl ty =>
          have hm : (rty ty && !(dDw ci k)) = true := hm
          have q : (!(rty ty && !(dDw ci k)) || !(bdcw (cr o k))) = true := q
          rw [hm] at q
          cases e : bdcw (cr o k)
          · rfl
          · rw [e] at q
            cases q
    | inr y =>
      obtain ⟨ty, n⟩ := y
      have hm : (rty ty && (Nat.blt k n && !(Nat.beq c 377))) = true := hm
      have h : (!(rty ty && !(Nat.beq c 377)) || (List.range n).all (fun k => !(bdcw (cr o k)))) = true := h
      rw [Bool.and_eq_true, Bool.and_eq_true] at hm
      obtain ⟨m1, m2, m3⟩ := hm
      rw [m1, m3] at h
      have h : (List.range n).all (fun k => !(bdcw (cr o k))) = true := h
      have q : (!(bdcw (cr o k))) = true := List.all_eq_true.mp h k (List.mem_range.mpr (blt_of m2))
      cases e : bdcw (cr o k)
      · rfl
      · rw [e] at q
        cases q
def cll : Nat → List am_C → Bool
  | _, [] => true
  | c, o :: l => cl1 c o && cll (c - 1) l
theorem cll_at : ∀ {l : List am_C} {c : Nat}, cll c l = true → ∀ (i : Nat) (o : am_C), l[i]? = some o → cl1 (c - i) o = true
  | [], _, _, i, o, h => by simp at h
  | p :: l, c, h, i, o, hi => by
    unfold cll at h
    rw [Bool.and_eq_true] at h
    cases i with
    | zero =>
      simp at hi
      subst hi
      exact h.1
    | succ i =>
      have hi : l[i]? = some o := hi
      rw [show c - (i + 1) = c - 1 - i by omega]
      exact cll_at h.2 i o hi
set_option maxRecDepth 1000000 in
theorem cll_s8 : cll 1899 s8.2 = true := by decide +kernel
theorem H0_CL : CLw H0 := by
  intro a k hm
  have ha : a ≠ 0 ∧ a < 1826 := by
    have h := hm
    unfold mrb at h
    rw [Bool.and_eq_true, Bool.and_eq_true] at h
    have h1 := blt_of h.1
    have h2 := blt_of h.2.1
    omega
  obtain ⟨o, h3, -, -, h6⟩ := s8_cell ha.1 (by omega) (0, none)
  obtain ⟨j, rfl⟩ : ∃ j, a = j + 1 := ⟨a - 1, by omega⟩
  have hn : am_nth ((0, none), s8) (j + 1) = s8.2[1899 - 1 - j]? := if_pos (show j < 1899 by omega)
  rw [hn] at h3
  have h := cll_at cll_s8 (1899 - 1 - j) o h3
  rw [show 1899 - (1899 - 1 - j) = j + 1 by omega] at h
  rw [h6]
  exact cl1_of h hm
theorem H0_LX : LX H0 := by
  have n : ∀ {k : Nat} {P : Prop}, (k : Int) < 0 → P := fun h => absurd h (by omega)
  have h8 : H0.1 1826 8 = 0 := by decide +kernel
  refine ⟨⟨⟨by decide +kernel, by decide +kernel⟩, ⟨fun _ _ => 0, ⟨⟨?_, ?_, ?_, ?_, ?_⟩, fun k hk => n hk, fun k hk => n hk, fun k hk => n hk, fun l _ hk => n hk⟩, rfl, ⟨⟨?_, fun k hk => n hk⟩, ⟨?_, fun k hk => n hk⟩, ⟨?_, fun k hk => n hk⟩, ⟨⟨?_, ?_⟩, fun k hk => n hk⟩, fun k hk => n (by rw [h8] at hk; exact hk)⟩, ⟨fun r _ hk => n hk, fun l _ hk => n hk, by decide +kernel, by decide +kernel⟩, ⟨⟨by decide, fun k hk => n hk, fun s hs => ⟨show (0 : Int) ≤ 0 ∧ (0 : Int) ≤ 40 by decide, fun k hk => n hk⟩⟩, by decide, fun k hk => n hk, fun k hk => n hk⟩, fun r hk => n hk, fun l hk => n hk⟩, fun j hj => n (by rw [H0_tape.1] at hj; exact hj), ⟨by decide +kernel, by decide +kernel⟩, H0_CL⟩, Or.inl ⟨by decide +kernel, by decide +kernel⟩⟩
  · show H0.1 8 4 = 0
    decide +kernel
  · show H0.1 13 4 = 0
    decide +kernel
  · show H0.1 18 4 = 0
    decide +kernel
  · show H0.1 7 5 = 0
    decide +kernel
  · show H0.1 7 6 = 0
    decide +kernel
  · show H0.1 1826 1 = 0
    decide +kernel
  · show H0.1 1826 3 = 0
    decide +kernel
  · exact h8
  · show H0.1 1826 13 = 0
    decide +kernel
  · show H0.1 1826 19 = 0
    decide +kernel
