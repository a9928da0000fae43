/-! the class's calls that read nothing leave the sides of rules and laws -/
def okk (kr : Nat) (d : Bool) : Bool := (Nat.beq kr 2 || (Nat.beq kr 3 || Nat.beq kr 5)) || ((Nat.beq kr 1 || Nat.beq kr 4) && d)
def rty (ty : FieldType) : Bool := match ty with
  | .object _ => true
  | .array _ => true
  | _ => false
def okc (a : Nat) : Bool := match kK a with
  | none => false
  | some x => match x.1 with
    | .inl (ci, ds) => (List.range ds.length).all (fun k => match ds[k]? with
      | some (.inr n) => Nat.blt 0 n && (Nat.blt n 1826 && (bdc a || (dD ci k || !(bdc n))))
      | some (.inl ty) => !(rty ty) || okk (kref x k) (bdc a || dD ci k)
      | none => true)
    | .inr (ty, _) => !(rty ty) || okk (kref x 0) false
set_option maxRecDepth 1000000 in
theorem okc_all : (List.range 1826).all (fun a => Nat.beq a 0 || okc a) = true := by decide +kernel
def tgb (x : kx) : Bool := Nat.beq x.2.2.2 1 || (match x.2.1 with
  | [q] => decide (q.1 = -2)
  | _ => false)
set_option maxRecDepth 1000000 in
theorem bd_all : (List.range 370).all (fun a => !(bdc a) || (match kK a with | some x => tgb x | none => false)) = true := by decide +kernel
theorem bdc_le {a : Nat} (h : bdc a = true) : a ≤ 369 := by
  unfold bdc at h
  rw [Bool.or_eq_true, Bool.and_eq_true, Bool.and_eq_true, Bool.or_eq_true] at h
  rcases h with h | h | h
  · have := Nat.le_of_ble_eq_true h.2.1
    omega
  · have := Nat.eq_of_beq_eq_true h
    omega
  · have := Nat.eq_of_beq_eq_true h
    omega
theorem bd_tag {a : Nat} {x : kx} (h : bdc a = true) (hx : kK a = some x) : tgb x = true := by
  have q := List.all_eq_true.mp bd_all a (List.mem_range.mpr (by have := bdc_le h; omega))
  rw [h, hx] at q
  exact q
theorem bd_no {a : Nat} {x : kx} (hx : kK a = some x) (h : tgb x = false) : bdc a = false := by
  cases e : bdc a
  · rfl
  · rw [bd_tag e hx] at h
    cases h
theorem okr_w {a : Nat} (h : okr 1 a) : wkv (.ref a) := by
  obtain ⟨n, h⟩ := (show ∃ n, isT a n from h)
  have h1 := h.2.2.1
  have h2 := h.2.2.2.1
  exact (show 0 < a ∧ a < 1826 from ⟨by omega, by omega⟩)
theorem okr_w4 {a : Nat} (h : okr 4 a) : wkv (.ref a) := by
  obtain ⟨n, b, h3, h4, h5, -⟩ := (show ∃ n, isA a n from h)
  exact (show 0 < a ∧ a < 1826 from ⟨by omega, by omega⟩)
theorem okr_c {k a : Nat} (h : okr k a) (hk : k = 2 ∨ k = 3 ∨ k = 5) : cln (.ref a) := by
  rcases hk with rfl | rfl | rfl
  · have h : isE a := h
    have h3 := h.2.2.2.2.1
    have h4 := h.2.2.2.2.2
    exact ⟨(show 0 < a ∧ a < 1826 from ⟨by omega, by omega⟩), bd_no h.1 rfl⟩
  · have h : isG a := h
    have h3 := h.2.2.2.1
    have h4 := h.2.2.2.2
    exact ⟨(show 0 < a ∧ a < 1826 from ⟨by omega, by omega⟩), bd_no h.1 rfl⟩
  · have h : (∃ n, isT a n) ∧ 369 < a := h
    obtain ⟨⟨n, h3⟩, h4⟩ := h
    have h5 := h3.2.2.1
    have h6 := h3.2.2.2.1
    refine ⟨(show 0 < a ∧ a < 1826 from ⟨by omega, by omega⟩), ?_⟩
    cases e : bdc a
    · rfl
    · have := bdc_le e
      omega
theorem okk_of {kr : Nat} {d : Bool} (h : okk kr d = true) : (kr = 2 ∨ kr = 3 ∨ kr = 5) ∨ ((kr = 1 ∨ kr = 4) ∧ d = true) := by
  unfold okk at h
  rw [Bool.or_eq_true, Bool.or_eq_true, Bool.or_eq_true, Bool.and_eq_true, Bool.or_eq_true] at h
  rcases h with (h | h | h) | ⟨h, h2⟩
  · exact Or.inl (Or.inl (Nat.eq_of_beq_eq_true h))
  · exact Or.inl (Or.inr (Or.inl (Nat.eq_of_beq_eq_true h)))
  · exact Or.inl (Or.inr (Or.inr (Nat.eq_of_beq_eq_true h)))
  · exact Or.inr ⟨h.imp Nat.eq_of_beq_eq_true Nat.eq_of_beq_eq_true, h2⟩
theorem okr_any {kr a : Nat} {d : Bool} (h : okk kr d = true) (g : okr kr a) : wkv (.ref a) ∧ (d = false → cln (.ref a)) := by
  rcases okk_of h with q | ⟨q, e⟩
  · exact ⟨cln_wk (okr_c g q), fun _ => okr_c g q⟩
  · rcases q with q | q
    · rw [q] at g
      exact ⟨okr_w g, fun e1 => by rw [e] at e1; cases e1⟩
    · rw [q] at g
      exact ⟨okr_w4 g, fun e1 => by rw [e] at e1; cases e1⟩
theorem blt_of {a b : Nat} (h : Nat.blt a b = true) : a < b := Nat.le_of_ble_eq_true h
theorem WO_of {S : am_S} {H : hp} (hz : zR (zs zK) S H) (hI : Inv H) : WO S := by
  have ha : ∀ a, 0 < a → a < 1826 → ∃ x, kK a = some x ∧ okc a = true := by
    intro a a0 a1
    have q := List.all_eq_true.mp okc_all a (List.mem_range.mpr a1)
    rw [Bool.or_eq_true] at q
    rcases q with q | q
    · have := Nat.eq_of_beq_eq_true q
      omega
    · have q2 := q
      unfold okc at q2
      cases e : kK a with
      | none =>
        rw [e] at q2
        cases q2
      | some x => exact ⟨x, rfl, q⟩
  refine ⟨fun a z ci fs a0 a1 e k v hk => ?_, fun a z ty n d u a0 a1 e j hj => ?_⟩
  · obtain ⟨x, hx, hc⟩ := ha a a0 a1
    have hzk := hz a _ (zs_K hx a1)
    have hr := kr hI hx k
    unfold okc at hc
    rw [hx] at hc
    obtain ⟨x1, x2, x3, x4⟩ := x
    cases x1 with
    | inr y =>
      obtain ⟨ty, n⟩ := y
      obtain ⟨⟨z', dv, u, e', -⟩, -⟩ := hzk
      rw [e] at e'
      cases e'
    | inl y =>
      obtain ⟨cj, ds⟩ := y
      obtain ⟨⟨z', fs', e', hlen, hv⟩, -⟩ := hzk
      rw [e] at e'
      cases e'
      have hkl : k < ds.length := by
        rw [← hlen]
        exact (List.getElem?_eq_some_iff.mp hk).1
      have hck : (match ds[k]? with
        | some (.inr n) => Nat.blt 0 n && (Nat.blt n 1826 && (bdc a || (dD ci k || !(bdc n))))
        | some (.inl ty) => !(rty ty) || okk (kref ((.inl (ci, ds), x2, x3, x4) : kx) k) (bdc a || dD ci k)
        | none => true) = true := List.all_eq_true.mp hc k (List.mem_range.mpr hkl)
      obtain ⟨dd, hdd⟩ : ∃ dd, ds[k]? = some dd := ⟨_, List.getElem?_eq_getElem hkl⟩
      rw [hdd] at hck
      have hvv := hv k dd hdd
      rw [hk] at hvv
      have ev := Option.some.inj hvv
      rw [ev]
      cases dd with
      | inr n =>
        have hck : (Nat.blt 0 n && (Nat.blt n 1826 && (bdc a || (dD ci k || !(bdc n))))) = true := hck
        rw [Bool.and_eq_true, Bool.and_eq_true] at hck
        have h1 := blt_of hck.1
        have h2 := blt_of hck.2.1
        refine ⟨⟨h1, h2⟩, fun e1 e2 => ⟨⟨h1, h2⟩, ?_⟩⟩
        have h3 := hck.2.2
        rw [e1, e2] at h3
        cases e3 : bdc n
        · rfl
        · rw [e3] at h3
          cases h3
      | inl ty =>
        have fin : ∀ b : Nat, b = H.2 a k → okk (kref ((.inl (ci, ds), x2, x3, x4) : kx) k) (bdc a || dD ci k) = true → wkv (.ref b) ∧ (bdc a = false → dD ci k = false → cln (.ref b)) := by
          intro b eb h9
          have q := okr_any h9 hr
          rw [eb]
          exact ⟨q.1, fun e1 e2 => q.2 (by rw [e1, e2]; rfl)⟩
        cases ty
        case object C => exact fin _ rfl hck
        case array C => exact fin _ rfl hck
        all_goals exact ⟨True.intro, fun _ _ => True.intro⟩
  · obtain ⟨x, hx, hc⟩ := ha a a0 a1
    have hzk := hz a _ (zs_K hx a1)
    have hr := kr hI hx j
    unfold okc at hc
    rw [hx] at hc
    obtain ⟨x1, x2, x3, x4⟩ := x
    cases x1 with
    | inl y =>
      obtain ⟨cj, ds⟩ := y
      obtain ⟨⟨z', fs', e', -, -⟩, -⟩ := hzk
      rw [e] at e'
      cases e'
    | inr y =>
      obtain ⟨ty', n'⟩ := y
      obtain ⟨⟨z', dv, u', e', hv⟩, -⟩ := hzk
      rw [e] at e'
      cases e'
      rw [hv j hj]
      have fin : ∀ b : Nat, b = H.2 a j → okk (kref ((.inr (ty, n), x2, x3, x4) : kx) 0) false = true → cln (.ref b) := by
        intro b eb h9
        rw [eb]
        exact (okr_any h9 hr).2 rfl
      cases ty
      case object C => exact fin _ rfl hc
      case array C => exact fin _ rfl hc
      all_goals exact True.intro
/-- the sides are as they were -/
def UK (H K : hp) : Prop := K.1 368 1 = H.1 368 1 ∧ K.1 369 0 = H.1 369 0
def SKp0 (H K : hp) : Prop := ∀ k : Nat, k < 56 → ∀ o : Nat, o = 1 ∨ o = 3 → K.1 (25 + 6 * k + o) 1 = H.1 (25 + 6 * k + o) 1 ∧ ∀ j : Nat, j < 40 → K.1 (25 + 6 * k + o + 1) j = H.1 (25 + 6 * k + o + 1) j
/-- the types of laws' variables are as they were -/
def VKp (H K : hp) : Prop := ∀ l : Nat, l < 16 → ∀ v : Nat, v < 40 → K.1 (265 + 6 * l + 5) v = H.1 (265 + 6 * l + 5) v
def SKp (H K : hp) : Prop := SKp0 H K ∧ UK H K ∧ VKp H K
theorem SKp_rf (H : hp) : SKp H H := ⟨fun _ _ _ _ => ⟨rfl, fun _ _ => rfl⟩, ⟨rfl, rfl⟩, fun _ _ _ _ => rfl⟩
theorem SKp_tr {H1 H2 H3 : hp} (h : SKp H1 H2) (g : SKp H2 H3) : SKp H1 H3 := ⟨fun k hk o ho => ⟨(g.1 k hk o ho).1.trans (h.1 k hk o ho).1, fun j hj => ((g.1 k hk o ho).2 j hj).trans ((h.1 k hk o ho).2 j hj)⟩, ⟨g.2.1.1.trans h.2.1.1, g.2.1.2.trans h.2.1.2⟩, fun l hl v hv => (g.2.2 l hl v hv).trans (h.2.2 l hl v hv)⟩
def sdb (t : Nat) : Bool := bdc t && (bdc (t + 1) && (match kK t, kK (t + 1) with
  | some (.inl (5, [.inr _, .inl .int]), _), some (.inr (.int, 40), _) => true
  | _, _ => false))
set_option maxRecDepth 1000000 in
theorem sdb_all : (List.range 56).all (fun k => sdb (25 + 6 * k + 1) && sdb (25 + 6 * k + 3)) = true := by decide +kernel
theorem sdb_of {t : Nat} (h : sdb t = true) : bdc t = true ∧ bdc (t + 1) = true ∧ (∃ n : Nat, zs zK t = some (.inl (5, [.inr n, .inl .int]))) ∧ zs zK (t + 1) = some (.inr (.int, 40)) := by
  unfold sdb at h
  rw [Bool.and_eq_true, Bool.and_eq_true] at h
  obtain ⟨h1, h2, h3⟩ := h
  have l1 := bdc_le h1
  have l2 := bdc_le h2
  split at h3
  · rename_i n q1 q2 e1 e2
    exact ⟨h1, h2, ⟨_, zs_K e1 (by omega)⟩, zs_K e2 (by omega)⟩
  · cases h3
theorem z_t32 {x : Int} (h : -2147483648 ≤ x ∧ x ≤ 2147483647) : (Int32.ofInt x).toInt = x := Int32.toInt_ofInt_of_le (by omega) (by omega)
theorem i32_inj {x y : Int} (h : Value.int (Int32.ofInt x) = Value.int (Int32.ofInt y)) (hx : -2147483648 ≤ x ∧ x ≤ 2147483647) (hy : -2147483648 ≤ y ∧ y ≤ 2147483647) : x = y := by
  have h1 : Int32.ofInt x = Int32.ofInt y := by injection h
  have h2 := congrArg Int32.toInt h1
  rw [z_t32 hx, z_t32 hy] at h2
  exact h2
theorem SKp0_of {S S' : am_S} {H K : hp} (hz : zR (zs zK) S H) (hk : zR (zs zK) S' K) (h : KD S S') : SKp0 H K := by
  intro k hk9 o ho
  have hs : sdb (25 + 6 * k + o) = true := by
    have q := List.all_eq_true.mp sdb_all k (List.mem_range.mpr hk9)
    rw [Bool.and_eq_true] at q
    rcases ho with rfl | rfl
    · exact q.1
    · exact q.2
  obtain ⟨b1, b2, ⟨n, e1⟩, e2⟩ := sdb_of hs
  refine ⟨?_, fun j hj => ?_⟩
  · obtain ⟨⟨z, fs, q1, -, q2⟩, g1⟩ := hz _ _ e1
    obtain ⟨⟨z', fs', q1', -, q2'⟩, g2⟩ := hk _ _ e1
    rw [h _ b1, q1] at q1'
    cases q1'
    have q3 := q2 1 (.inl .int) rfl
    have q4 := q2' 1 (.inl .int) rfl
    rw [q3] at q4
    exact (i32_inj (Option.some.inj q4) (g1 1 .int rfl) (g2 1 .int rfl)).symm
  · obtain ⟨⟨z, dv, u, q1, q2⟩, g1⟩ := hz _ _ e2
    obtain ⟨⟨z', dv', u', q1', q2'⟩, g2⟩ := hk _ _ e2
    rw [h _ b2, q1] at q1'
    cases q1'
    have q3 := q2 j hj
    rw [q2' j hj] at q3
    exact i32_inj q3 (g2 j hj) (g1 j hj)
theorem zs_368 : ∃ n : Nat, zs zK 368 = some (.inl (5, [.inr n, .inl .int])) := ⟨_, rfl⟩
theorem zs_369 : zs zK 369 = some (.inr (.int, 1)) := rfl
theorem UK_of {S S' : am_S} {H K : hp} (hz : zR (zs zK) S H) (hk : zR (zs zK) S' K) (h : KD S S') : UK H K := by
  obtain ⟨n, e1⟩ := zs_368
  refine ⟨?_, ?_⟩
  · obtain ⟨⟨z, fs, q1, -, q2⟩, g1⟩ := hz _ _ e1
    obtain ⟨⟨z', fs', q1', -, q2'⟩, g2⟩ := hk _ _ e1
    rw [h _ (by decide), q1] at q1'
    cases q1'
    have q3 := q2 1 (.inl .int) rfl
    have q4 := q2' 1 (.inl .int) rfl
    rw [q3] at q4
    exact (i32_inj (Option.some.inj q4) (g1 1 .int rfl) (g2 1 .int rfl)).symm
  · obtain ⟨⟨z, dv, u, q1, q2⟩, g1⟩ := hz _ _ zs_369
    obtain ⟨⟨z', dv', u', q1', q2'⟩, g2⟩ := hk _ _ zs_369
    rw [h _ (by decide), q1] at q1'
    cases q1'
    have q3 := q2 0 (by decide)
    rw [q2' 0 (by decide)] at q3
    exact i32_inj q3 (g2 0 (by decide)) (g1 0 (by decide))
def vkb (t : Nat) : Bool := bdc t && (match kK t with
  | some (.inr (.int, 40), _) => true
  | _ => false)
set_option maxRecDepth 1000000 in
theorem vkb_all : (List.range 16).all (fun l => vkb (265 + 6 * l + 5)) = true := by decide +kernel
theorem vkb_of {t : Nat} (h : vkb t = true) (ht : t < 1826) : bdc t = true ∧ zs zK t = some (.inr (.int, 40)) := by
  unfold vkb at h
  rw [Bool.and_eq_true] at h
  obtain ⟨h1, h3⟩ := h
  split at h3
  · rename_i e1
    exact ⟨h1, zs_K e1 ht⟩
  · cases h3
theorem VKp_of {S S' : am_S} {H K : hp} (hz : zR (zs zK) S H) (hk : zR (zs zK) S' K) (h : KD S S') : VKp H K := by
  intro l hl v hv
  obtain ⟨b2, e2⟩ := vkb_of (List.all_eq_true.mp vkb_all l (List.mem_range.mpr hl)) (by omega)
  obtain ⟨⟨z, dv, u, q1, q2⟩, g1⟩ := hz _ _ e2
  obtain ⟨⟨z', dv', u', q1', q2'⟩, g2⟩ := hk _ _ e2
  rw [h _ b2, q1] at q1'
  cases q1'
  have q3 := q2 v hv
  rw [q2' v hv] at q3
  exact i32_inj q3 (g2 v hv) (g1 v hv)
theorem SKp_of {S S' : am_S} {H K : hp} (hz : zR (zs zK) S H) (hk : zR (zs zK) S' K) (h : KD S S') : SKp H K := ⟨SKp0_of hz hk h, UK_of hz hk h, VKp_of hz hk h⟩
/-- a call alone, its locals just what it gets -/
def hE (d : Nat) (M : am_M) (xs : List zv) (H : hp) (Q : Option zv → hp → Prop) : Prop := ∀ S : am_S, zR (zs zK) S H → am_G at_P at_cl at_ty d M 0 (lv_args 0 (xs.map zc)) [] S (fun r S' c n => c = 0 ∧ n = 0 ∧ ∃ (r' : Option zv) (H' : hp), r = r'.map zc ∧ zR (zs zK) S' H' ∧ zkeep (zs zK) S S' ∧ Q r' H')
theorem hE_of {d : Nat} {M : am_M} {xs : List zv} {H : hp} {Q : Option zv → hp → Prop} (h : hG (zs zK) d M 0 (zargs 0 xs) [] H Q) : hE d M xs H Q := fun S hz => h S _ hz (zargs_ok _ 0)
theorem hE_mono {d : Nat} {M : am_M} {xs : List zv} {H : hp} {Q Q' : Option zv → hp → Prop} (h : hE d M xs H Q) (g : ∀ r K, Q r K → Q' r K) : hE d M xs H Q' := by
  intro S hz
  obtain ⟨f, r, S', c, n, e, hc, hn, r', K, h1, h2, h3, h4⟩ := h S hz
  exact ⟨f, r, S', c, n, e, hc, hn, r', K, h1, h2, h3, g _ _ h4⟩
theorem h_own {d i : Nat} {M : am_M} {xs : List zv} {H : hp} {Q : Option zv → hp → Prop} (hM : at_P[i]? = some M) (hG9 : oG i = true) (hx : ∀ v ∈ xs.map zc, cln v) (hI : Inv H) (h : hG (zs zK) d M 0 (zargs 0 xs) [] H Q) : hE d M xs H (fun r K => Q r K ∧ SKp H K) := by
  intro S hz
  obtain ⟨f, r, S', c, n, e, hc, hn, r', K, h1, h2, h3, h4⟩ := h S _ hz (zargs_ok _ 0)
  refine ⟨f, r, S', c, n, e, hc, hn, r', K, h1, h2, h3, h4, ?_⟩
  have hk := own_run oG_P f d i M 0 _ _ S r S' c n hM hG9 (show TS (aS (oT i) 0) (([] : List zv).map zc) from True.intro) (TL_all _ 0 hx) (WO_of hz hI) e
  exact SKp_of hz h2 hk.1
theorem cl_xs (as : List Int) : ∀ v ∈ ((.inr (.inr 1) :: as.map Sum.inl : List zv).map zc), cln v := by
  intro v hv
  rcases List.mem_cons.mp hv with e | e
  · rw [e]
    exact ⟨⟨by decide, by decide⟩, rfl⟩
  · obtain ⟨w, hw, rfl⟩ := List.mem_map.mp e
    obtain ⟨a, -, rfl⟩ := List.mem_map.mp hw
    exact True.intro
