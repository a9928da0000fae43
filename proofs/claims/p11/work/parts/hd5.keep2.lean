/-! the class's calls but test leave the told terms -/
def okc2 (a : Nat) : Bool := match kK a with
  | none => true
  | some x => match x.1 with
    | .inl (ci, ds) => (List.range ds.length).all (fun k => match ds[k]? with
      | some (.inr n) => bdcw a || (dDw ci k || !(bdcw n))
      | some (.inl ty) => !(bdcw a && rty ty)
      | none => true)
    | .inr _ => true
set_option maxRecDepth 1000000 in
theorem okc2_all : (List.range 1826).all okc2 = true := by decide +kernel
/-- a place that names another cell, and may change -/
def mrb (a k : Nat) : Bool := Nat.blt 0 a && (Nat.blt a 1826 && (match kK a with
  | none => false
  | some x => match x.1 with
    | .inl (ci, ds) => (match ds[k]? with
      | some (.inl ty) => rty ty && !(dDw ci k)
      | _ => false)
    | .inr (ty, n) => rty ty && (Nat.blt k n && !(Nat.beq a 377))))
/-- no such place names a told term -/
def CLw (H : hp) : Prop := ∀ a k : Nat, mrb a k = true → bdcw (H.2 a k) = false
theorem wk_w {v : Value} (h : wkv v) : wkvw v := by
  cases v
  case ref k => exact h
  all_goals exact True.intro
theorem okc_at {a : Nat} (a0 : 0 < a) (a1 : a < 1826) : ∃ x, kK a = some x ∧ okc a = true := by
  have q := List.all_eq_true.mp okc_all a (List.mem_range.mpr a1)
  rw [Bool.or_eq_true] at q
  rcases q with q | q
  · have := Nat.eq_of_beq_eq_true q
    omega
  · have q2 := q
    unfold okc at q2
    cases e : kK a with
    | none =>
      rw [e] at q2
      cases q2
    | some x => exact ⟨x, rfl, q⟩
theorem blt_ok {a b : Nat} (h : a < b) : Nat.blt a b = true := Nat.ble_eq_true_of_le h
theorem WO_ofw {S : am_S} {H : hp} (hz : zR (zs zK) S H) (hI : Inv H) (hC : CLw H) : WOw S := by
  refine ⟨fun a z ci fs a0 a1 e k v hk => ?_, fun a z ty n d u a0 a1 e j hj => ?_⟩
  · obtain ⟨x, hx, hc⟩ := okc_at a0 a1
    have hm : ∀ k9, mrb a k9 = (match kK a with
      | none => false
      | some x => match x.1 with
        | .inl (ci, ds) => (match ds[k9]? with
          | some (.inl ty) => rty ty && !(dDw ci k9)
          | _ => false)
        | .inr (ty, n) => rty ty && (Nat.blt k9 n && !(Nat.beq a 377))) := by
      intro k9
      unfold mrb
      rw [blt_ok a0, blt_ok a1]
      rfl
    have hm := hm k
    have hzk := hz a _ (zs_K hx a1)
    have hr := kr hI hx k
    have h2 := List.all_eq_true.mp okc2_all a (List.mem_range.mpr a1)
    unfold okc2 at h2
    unfold okc at hc
    rw [hx] at hc h2 hm
    obtain ⟨x1, x2, x3, x4⟩ := x
    cases x1 with
    | inr y =>
      obtain ⟨ty, n⟩ := y
      obtain ⟨⟨z', dv, u, e', -⟩, -⟩ := hzk
      rw [e] at e'
      cases e'
    | inl y =>
      obtain ⟨cj, ds⟩ := y
      obtain ⟨⟨z', fs', e', hlen, hv⟩, -⟩ := hzk
      rw [e] at e'
      cases e'
      have hkl : k < ds.length := by
        rw [← hlen]
        exact (List.getElem?_eq_some_iff.mp hk).1
      have hck : (match ds[k]? with
        | some (.inr n) => Nat.blt 0 n && (Nat.blt n 1826 && (bdc a || (dD ci k || !(bdc n))))
        | some (.inl ty) => !(rty ty) || okk (kref ((.inl (ci, ds), x2, x3, x4) : kx) k) (bdc a || dD ci k)
        | none => true) = true := List.all_eq_true.mp hc k (List.mem_range.mpr hkl)
      have hc2 : (match ds[k]? with
        | some (.inr n) => bdcw a || (dDw ci k || !(bdcw n))
        | some (.inl ty) => !(bdcw a && rty ty)
        | none => true) = true := List.all_eq_true.mp h2 k (List.mem_range.mpr hkl)
      have hm : mrb a k = (match ds[k]? with
        | some (.inl ty) => rty ty && !(dDw ci k)
        | _ => false) := hm
      obtain ⟨dd, hdd⟩ : ∃ dd, ds[k]? = some dd := ⟨_, List.getElem?_eq_getElem hkl⟩
      rw [hdd] at hck hc2 hm
      have hvv := hv k dd hdd
      rw [hk] at hvv
      have ev := Option.some.inj hvv
      rw [ev]
      cases dd with
      | inr n =>
        have hck : (Nat.blt 0 n && (Nat.blt n 1826 && (bdc a || (dD ci k || !(bdc n))))) = true := hck
        have hc2 : (bdcw a || (dDw ci k || !(bdcw n))) = true := hc2
        rw [Bool.and_eq_true, Bool.and_eq_true] at hck
        have h1 := blt_of hck.1
        have h2 := blt_of hck.2.1
        refine ⟨⟨h1, h2⟩, fun e1 e2 => ⟨⟨h1, h2⟩, ?_⟩⟩
        rw [e1, e2] at hc2
        cases e3 : bdcw n
        · rfl
        · rw [e3] at hc2
          cases hc2
      | inl ty =>
        have hm : mrb a k = (rty ty && !(dDw ci k)) := hm
        have fin : ∀ b : Nat, b = H.2 a k → rty ty = true → okk (kref ((.inl (ci, ds), x2, x3, x4) : kx) k) (bdc a || dD ci k) = true → wkvw (.ref b) ∧ (bdcw a = false → dDw ci k = false → clnw (.ref b)) := by
          intro b eb er h9
          have q := wk_w (okr_any h9 hr).1
          rw [eb]
          refine ⟨q, fun _ e2 => ⟨q, hC a k ?_⟩⟩
          rw [hm, er, e2]
          rfl
        cases ty
        case object C => exact fin _ rfl rfl hck
        case array C => exact fin _ rfl rfl hck
        all_goals exact ⟨True.intro, fun _ _ => True.intro⟩
  · obtain ⟨x, hx, hc⟩ := okc_at a0 a1
    have hzk := hz a _ (zs_K hx a1)
    have hr := kr hI hx j
    have hm : mrb a j = (match kK a with
      | none => false
      | some x => match x.1 with
        | .inl (ci, ds) => (match ds[j]? with
          | some (.inl ty) => rty ty && !(dDw ci j)
          | _ => false)
        | .inr (ty, n) => rty ty && (Nat.blt j n && !(Nat.beq a 377))) := by
      unfold mrb
      rw [blt_ok a0, blt_ok a1]
      rfl
    unfold okc at hc
    rw [hx] at hc hm
    obtain ⟨x1, x2, x3, x4⟩ := x
    cases x1 with
    | inl y =>
      obtain ⟨cj, ds⟩ := y
      obtain ⟨⟨z', fs', e', -, -⟩, -⟩ := hzk
      rw [e] at e'
      cases e'
    | inr y =>
      obtain ⟨ty', n'⟩ := y
      obtain ⟨⟨z', dv, u', e', hv⟩, -⟩ := hzk
      rw [e] at e'
      cases e'
      rw [hv j hj]
      have hm : mrb a j = (rty ty && (Nat.blt j n && !(Nat.beq a 377))) := hm
      have fin : ∀ b : Nat, b = H.2 a j → rty ty = true → okk (kref ((.inr (ty, n), x2, x3, x4) : kx) 0) false = true → wkvw (.ref b) ∧ (rty ty = false ∨ a ≠ 377 → clnw (.ref b)) := by
        intro b eb er h9
        have q := wk_w (okr_any h9 hr).1
        rw [eb]
        refine ⟨q, fun e2 => ⟨q, hC a j ?_⟩⟩
        have e3 : a ≠ 377 := e2.resolve_left (fun q9 => by rw [er] at q9; cases q9)
        rw [hm, er, blt_ok hj]
        cases e4 : Nat.beq a 377
        · rfl
        · exact absurd (Nat.eq_of_beq_eq_true e4) e3
      cases ty
      case object C => exact fin _ rfl rfl hc
      case array C => exact fin _ rfl rfl hc
      all_goals exact ⟨True.intro, fun _ => True.intro⟩
/-- and such places name none afterwards -/
theorem CL_ofw {S : am_S} {H : hp} (hz : zR (zs zK) S H) (w : WOw S) : CLw H := by
  intro a k hm
  unfold mrb at hm
  rw [Bool.and_eq_true, Bool.and_eq_true] at hm
  obtain ⟨h0, h1, hm⟩ := hm
  have a0 := blt_of h0
  have a1 := blt_of h1
  cases hx : kK a with
  | none =>
    rw [hx] at hm
    cases hm
  | some x =>
    rw [hx] at hm
    have hzk := hz a _ (zs_K hx a1)
    obtain ⟨x1, x2, x3, x4⟩ := x
    cases x1 with
    | inl y =>
      obtain ⟨ci, ds⟩ := y
      have hm : (match ds[k]? with
        | some (.inl ty) => rty ty && !(dDw ci k)
        | _ => false) = true := hm
      obtain ⟨⟨z, fs, e, hlen, hv⟩, -⟩ := hzk
      cases hd : ds[k]? with
      | none =>
        rw [hd] at hm
        cases hm
      | some dd =>
        rw [hd] at hm
        cases dd with
        | inr n => cases hm
        | inl ty =>
          have hm : (rty ty && !(dDw ci k)) = true := hm
          rw [Bool.and_eq_true] at hm
          have hvv := hv k _ hd
          have hdd : dDw ci k = false := by
            cases e9 : dDw ci k
            · rfl
            · rw [e9] at hm
              cases hm.2
          have hba : bdcw a = false := by
            cases e9 : bdcw a
            · rfl
            · exfalso
              have h2 := List.all_eq_true.mp okc2_all a (List.mem_range.mpr a1)
              unfold okc2 at h2
              rw [hx] at h2
              have hkl : k < ds.length := (List.getElem?_eq_some_iff.mp hd).1
              have hc2 : (match ds[k]? with
                | some (.inr n) => bdcw a || (dDw ci k || !(bdcw n))
                | some (.inl ty) => !(bdcw a && rty ty)
                | none => true) = true := List.all_eq_true.mp h2 k (List.mem_range.mpr hkl)
              rw [hd] at hc2
              have hc2 : (!(bdcw a && rty ty)) = true := hc2
              rw [e9, hm.1] at hc2
              cases hc2
          have fin : ∀ b : Nat, b = H.2 a k → fs[k]? = some (.ref b) → bdcw (H.2 a k) = false := by
            intro b eb h9
            rw [← eb]
            exact ((w.1 a z ci fs a0 a1 e k _ h9).2 hba hdd).2
          cases ty
          case object C => exact fin _ rfl hvv
          case array C => exact fin _ rfl hvv
          all_goals cases hm.1
    | inr y =>
      obtain ⟨ty, n⟩ := y
      have hm : (rty ty && (Nat.blt k n && !(Nat.beq a 377))) = true := hm
      rw [Bool.and_eq_true, Bool.and_eq_true] at hm
      obtain ⟨hm1, hm2, hm3⟩ := hm
      have hk := blt_of hm2
      have ha : a ≠ 377 := fun e9 => by
        rw [e9] at hm3
        exact absurd hm3 (by decide)
      obtain ⟨⟨z, dv, u, e, hv⟩, -⟩ := hzk
      have q := (w.2 a z ty n dv u a0 a1 e k hk).2 (Or.inr ha)
      rw [hv k hk] at q
      cases ty
      case object C => exact q.2
      case array C => exact q.2
      all_goals cases hm1
/-- the told terms are as they were -/
def TKw (H K : hp) : Prop := ∀ v : Nat, v < 6 → K.1 (384 + 4 * v) 1 = H.1 (384 + 4 * v) 1 ∧ ∀ j : Nat, j < 6 → K.1 (385 + 4 * v) j = H.1 (385 + 4 * v) j
def tdb (t : Nat) : Bool := bdcw t && (bdcw (t + 1) && (match kK t, kK (t + 1) with
  | some (.inl (5, [.inr _, .inl .int]), _), some (.inr (.int, 6), _) => true
  | _, _ => false))
theorem tdb_all : (List.range 6).all (fun v => tdb (384 + 4 * v)) = true := by decide +kernel
theorem tdb_of {t : Nat} (h : tdb t = true) (h9 : t + 1 < 1826) : bdcw t = true ∧ bdcw (t + 1) = true ∧ (∃ n : Nat, zs zK t = some (.inl (5, [.inr n, .inl .int]))) ∧ zs zK (t + 1) = some (.inr (.int, 6)) := by
  unfold tdb at h
  rw [Bool.and_eq_true, Bool.and_eq_true] at h
  obtain ⟨h1, h2, h3⟩ := h
  split at h3
  · rename_i n q1 q2 e1 e2
    exact ⟨h1, h2, ⟨_, zs_K e1 (by omega)⟩, zs_K e2 (by omega)⟩
  · cases h3
theorem TK_ofw {S S' : am_S} {H K : hp} (hz : zR (zs zK) S H) (hk : zR (zs zK) S' K) (h : KDw S S') : TKw H K := by
  intro v hv9
  obtain ⟨b1, b2, ⟨n, e1⟩, e2⟩ := tdb_of (List.all_eq_true.mp tdb_all v (List.mem_range.mpr hv9)) (by omega)
  refine ⟨?_, fun j hj => ?_⟩
  · obtain ⟨⟨z, fs, q1, -, q2⟩, g1⟩ := hz _ _ e1
    obtain ⟨⟨z', fs', q1', -, q2'⟩, g2⟩ := hk _ _ e1
    rw [h _ b1, q1] at q1'
    cases q1'
    have q3 := q2 1 (.inl .int) rfl
    have q4 := q2' 1 (.inl .int) rfl
    rw [q3] at q4
    exact (i32_inj (Option.some.inj q4) (g1 1 .int rfl) (g2 1 .int rfl)).symm
  · rw [show 384 + 4 * v + 1 = 385 + 4 * v by omega] at b2 e2
    obtain ⟨⟨z, dv, u, q1, q2⟩, g1⟩ := hz _ _ e2
    obtain ⟨⟨z', dv', u', q1', q2'⟩, g2⟩ := hk _ _ e2
    rw [h _ b2, q1] at q1'
    cases q1'
    have q3 := q2 j hj
    rw [q2' j hj] at q3
    exact i32_inj q3 (g2 j hj) (g1 j hj)
theorem h_ownw {d i : Nat} {M : am_M} {xs : List zv} {H : hp} {Q : Option zv → hp → Prop} (hM : at_P[i]? = some M) (hG9 : oGw i = true) (hx : ∀ v ∈ xs.map zc, clnw v) (hI : Inv H) (hC : CLw H) (h : hE d M xs H Q) : hE d M xs H (fun r K => Q r K ∧ TKw H K ∧ CLw K) := by
  intro S hz
  obtain ⟨f, r, S', c, n, e, hc, hn, r', K, h1, h2, h3, h4⟩ := h S hz
  refine ⟨f, r, S', c, n, e, hc, hn, r', K, h1, h2, h3, h4, ?_⟩
  have hk := own_runw oG_Pw f d i M 0 _ _ S r S' c n hM hG9 (show TSw (aSw (oTw i) 0) (([] : List zv).map zc) from True.intro) (TL_allw _ 0 hx) (WO_ofw hz hI hC) e
  exact ⟨TK_ofw hz h2 hk.1, CL_ofw h2 hk.2.1⟩
theorem cl_xsw (as : List Int) : ∀ v ∈ ((.inr (.inr 1) :: as.map Sum.inl : List zv).map zc), clnw v := by
  intro v hv
  rcases List.mem_cons.mp hv with e | e
  · rw [e]
    exact ⟨⟨by decide, by decide⟩, rfl⟩
  · obtain ⟨w, hw, rfl⟩ := List.mem_map.mp e
    obtain ⟨a, -, rfl⟩ := List.mem_map.mp hw
    exact True.intro
