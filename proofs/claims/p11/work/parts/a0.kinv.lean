/-! the class: its cells' shapes, the limits of their numbers, the kinds of their references -/
/-- a cell: its shape; limits; kinds of references (1 a term, 2 an equation, 3 a goal, 4 types of variables); 0 it has a name, 1 a term or its codes, 2 of an equation, of a goal -/
abbrev kx : Type := zsh × List (Int × Int) × List Nat × Nat
def kI : Int × Int := (-2147483648, 2147483647)
def kJ : Int × Int := (-9223372036854775808, 9223372036854775807)
def kx_1 : kx := (.inl (0, [.inr 2, .inr 7, .inr 361, .inr 363, .inr 366, .inr 372, .inr 406, .inr 1824, .inl .int]), [(0, 0), (0, 0), (0, 0), (0, 0), (0, 0), (0, 0), (0, 0), (0, 0), kI], [0, 0, 0, 0, 0, 0, 0, 0, 0], 0)
def kx_2 : kx := (.inl (1, [.inr 3, .inl .int, .inr 4, .inr 5, .inr 6, .inl .int]), [(0, 0), (0, 1000), (0, 0), (0, 0), (0, 0), (0, 1001)], [0, 0, 0, 0, 0, 0], 0)
def kx_3 : kx := (.inr (.int, 1000), [kI], [0], 0)
def kx_4 : kx := (.inr (.int, 1001), [kI], [0], 0)
def kx_5 : kx := (.inr (.int, 1001), [kI], [0], 0)
def kx_6 : kx := (.inr (.long, 1001), [kJ], [0], 0)
def kx_7 : kx := (.inl (2, [.inr 8, .inr 13, .inr 18, .inr 23, .inr 24, .inl .int, .inl .int]), [(0, 0), (0, 0), (0, 0), (0, 0), (0, 0), (0, 40), (0, 16)], [0, 0, 0, 0, 0, 0, 0], 0)
def kx_8 : kx := (.inl (3, [.inr 9, .inr 10, .inr 11, .inr 12, .inl .int]), [(0, 0), (0, 0), (0, 0), (0, 0), (0, 6)], [0, 0, 0, 0, 0], 0)
def kx_9 : kx := (.inr (.long, 6), [kJ], [0], 0)
def kx_10 : kx := (.inr (.int, 6), [(-2, 100)], [0], 0)
def kx_11 : kx := (.inr (.int, 6), [(0, 4)], [0], 0)
def kx_12 : kx := (.inr (.int, 24), [(-2, 100)], [0], 0)
def kx_13 : kx := (.inl (3, [.inr 14, .inr 15, .inr 16, .inr 17, .inl .int]), [(0, 0), (0, 0), (0, 0), (0, 0), (0, 16)], [0, 0, 0, 0, 0], 0)
def kx_14 : kx := (.inr (.long, 16), [kJ], [0], 0)
def kx_15 : kx := (.inr (.int, 16), [(-2, 100)], [0], 0)
def kx_16 : kx := (.inr (.int, 16), [(0, 4)], [0], 0)
def kx_17 : kx := (.inr (.int, 64), [(-2, 100)], [0], 0)
def kx_18 : kx := (.inl (3, [.inr 19, .inr 20, .inr 21, .inr 22, .inl .int]), [(0, 0), (0, 0), (0, 0), (0, 0), (0, 16)], [0, 0, 0, 0, 0], 0)
def kx_19 : kx := (.inr (.long, 16), [kJ], [0], 0)
def kx_20 : kx := (.inr (.int, 16), [(-2, 100)], [0], 0)
def kx_21 : kx := (.inr (.int, 16), [(0, 4)], [0], 0)
def kx_22 : kx := (.inr (.int, 64), [(-2, 100)], [0], 0)
def kx_23 : kx := (.inr ((.object "EquationProofs$Equation"), 40), [(0, 0)], [2], 0)
def kx_24 : kx := (.inr ((.object "EquationProofs$Equation"), 16), [(0, 0)], [2], 0)
def kx_361 : kx := (.inl (6, [.inr 2, .inr 7, .inr 362, .inl .int, .inl .int, .inl .int, .inl .int, .inl (.object "EquationProofs$Equation"), .inl (.object "EquationProofs$Term"), .inl .int]), [(0, 0), (0, 0), (0, 0), kI, kI, kI, kI, (0, 0), (0, 0), (0, 40)], [0, 0, 0, 0, 0, 0, 0, 2, 1, 0], 0)
def kx_362 : kx := (.inr (.long, 40), [kJ], [0], 0)
def kx_363 : kx := (.inl (7, [.inr 7, .inr 364, .inr 365, .inl .int]), [(0, 0), (0, 0), (0, 0), (0, 1080)], [0, 0, 0, 0], 0)
def kx_364 : kx := (.inr (.int, 1080), [kI], [0], 0)
def kx_365 : kx := (.inr (.int, 120), [kI], [0], 0)
def kx_366 : kx := (.inl (8, [.inr 7, .inr 367, .inr 368, .inr 370, .inl (.object "EquationProofs$Term"), .inl .int, .inl .int]), [(0, 0), (0, 0), (0, 0), (0, 0), (0, 0), kI, (0, 2000)], [0, 0, 0, 0, 1, 0, 0], 0)
def kx_367 : kx := (.inr (.int, 60), [kI], [0], 0)
def kx_372 : kx := (.inl (9, [.inr 7, .inr 366, .inr 373, .inr 374, .inr 375, .inr 376, .inr 377, .inr 378, .inr 380, .inl .boolean, .inl .int]), [(0, 0), (0, 0), (0, 0), (0, 0), (0, 0), (0, 0), (0, 0), (0, 0), (0, 0), (0, 1), (-1, 6)], [0, 0, 0, 0, 0, 0, 0, 0, 0, 0, 0], 0)
def kx_373 : kx := (.inr (.int, 42), [kI], [0], 0)
def kx_374 : kx := (.inr (.int, 448), [kI], [0], 0)
def kx_375 : kx := (.inr (.int, 6), [kI], [0], 0)
def kx_376 : kx := (.inr ((.object "EquationProofs$Term"), 6), [(0, 0)], [5], 0)
def kx_377 : kx := (.inr ((.object "EquationProofs$Term"), 6), [(0, 0)], [5], 0)
def kx_406 : kx := (.inl (10, [.inr 7, .inr 366, .inr 407, .inr 878, .inr 1349, .inr 1350, .inl (.object "EquationProofs$Term"), .inl (.object "EquationProofs$Term"), .inl .long, .inl .long, .inl (.array .int), .inr 1352, .inr 1354, .inl .int, .inl .int, .inl .long, .inl .boolean, .inl .boolean, .inl .boolean]), [(0, 0), (0, 0), (0, 0), (0, 0), (0, 0), (0, 0), (0, 0), (0, 0), kJ, kJ, (0, 0), (0, 0), (0, 0), kI, kI, kJ, (0, 1), (0, 1), (0, 1)], [0, 0, 0, 0, 0, 0, 1, 1, 0, 0, 4, 0, 0, 0, 0, 0, 0, 0, 0], 0)
def kx_407 : kx := (.inl (11, [.inr 408, .inr 409, .inl .int, .inl .int, .inl .int, .inl .boolean, .inl .int, .inl .long, .inl .long]), [(0, 0), (0, 0), (0, 12), kI, kI, (0, 1), (0, 60), kJ, kJ], [0, 0, 0, 0, 0, 0, 0, 0, 0], 0)
def kx_408 : kx := (.inr ((.object "EquationProofs$Goal"), 12), [(0, 0)], [3], 0)
def kx_409 : kx := (.inr (.int, 60), [(-2, 100)], [0], 0)
def kx_878 : kx := (.inl (11, [.inr 879, .inr 880, .inl .int, .inl .int, .inl .int, .inl .boolean, .inl .int, .inl .long, .inl .long]), [(0, 0), (0, 0), (0, 12), kI, kI, (0, 1), (0, 60), kJ, kJ], [0, 0, 0, 0, 0, 0, 0, 0, 0], 0)
def kx_879 : kx := (.inr ((.object "EquationProofs$Goal"), 12), [(0, 0)], [3], 0)
def kx_880 : kx := (.inr (.int, 60), [(-2, 100)], [0], 0)
def kx_1349 : kx := (.inr ((.object "EquationProofs$Goal"), 12), [(0, 0)], [3], 0)
def kFX : List (Nat × kx) := [(1, kx_1), (2, kx_2), (3, kx_3), (4, kx_4), (5, kx_5), (6, kx_6), (7, kx_7), (8, kx_8), (9, kx_9), (10, kx_10), (11, kx_11), (12, kx_12), (13, kx_13), (14, kx_14), (15, kx_15), (16, kx_16), (17, kx_17), (18, kx_18), (19, kx_19), (20, kx_20), (21, kx_21), (22, kx_22), (23, kx_23), (24, kx_24), (361, kx_361), (362, kx_362), (363, kx_363), (364, kx_364), (365, kx_365), (366, kx_366), (367, kx_367), (372, kx_372), (373, kx_373), (374, kx_374), (375, kx_375), (376, kx_376), (377, kx_377), (406, kx_406), (407, kx_407), (408, kx_408), (409, kx_409), (878, kx_878), (879, kx_879), (880, kx_880), (1349, kx_1349)]
def kTo (t n : Nat) : kx := (.inl (5, [.inr (t + 1), .inl .int]), [(0, 0), (0, (n : Int))], [0, 0], 1)
def kTc (n : Nat) : kx := (.inr (.int, n), [kI], [0], 1)
def kEo (e : Nat) : kx := (.inl (4, [.inr (e + 1), .inr (e + 3), .inr (e + 5), .inl .int, .inl .int, .inl .long, .inl .int]), [(0, 0), (0, 0), (0, 0), (0, 40), kI, kJ, kI], [0, 0, 0, 0, 0, 0, 0], 2)
def kEt : kx := (.inr (.int, 40), [(-2, 100)], [0], 2)
def kGo (g : Nat) : kx := (.inl (12, [.inr (g + 1), .inr (g + 2), .inl .int, .inl .int]), [(0, 0), (0, 0), (0, 8), kI], [0, 0, 0, 0], 2)
def kGt : kx := (.inr (.object "EquationProofs$Term", 18), [(0, 0)], [5], 2)
def kGf : kx := (.inr (.long, 8), [kJ], [0], 2)
def kOT : List (Nat × Nat) := [(368, 1), (370, 120), (378, 240), (380, 240), (382, 6), (384, 6), (386, 6), (388, 6), (390, 6), (392, 6), (394, 6), (396, 6), (398, 6), (400, 6), (402, 6), (404, 6), (1350, 60), (1352, 60), (1354, 4), (1824, 120)]
def kE6 (c o : Nat) : Option kx := if o = 0 then some (kEo c) else if o = 5 then some kEt else if o % 2 = 1 then some (kTo c 40) else some (kTc 40)
def kG39 (c o : Nat) : Option kx := if o = 0 then some (kGo c) else if o = 1 then some kGt else if o = 2 then some kGf else if o % 2 = 1 then some (kTo c 60) else some (kTc 60)
def kK (c : Nat) : Option kx := match am_find c kFX with
  | some x => some x
  | none => match am_find c kOT with
    | some n => some (kTo c n)
    | none => match am_find (c - 1) kOT with
      | some n => some (kTc n)
      | none => if c < 25 then none else if c < 361 then kE6 c ((c - 25) % 6) else if c < 410 then none else if c < 878 then kG39 c ((c - 410) % 39) else if c < 881 then none else if c < 1349 then kG39 c ((c - 881) % 39) else if c < 1356 then none else if c < 1824 then kG39 c ((c - 1356) % 39) else none
def zK (c : Nat) : Option zsh := (kK c).map (fun x => x.1)
def klim (x : kx) (j : Nat) : Int × Int := match x.1 with
  | .inl _ => x.2.1.getD j (0, 0)
  | .inr _ => x.2.1.getD 0 (0, 0)
def kref (x : kx) (j : Nat) : Nat := match x.1 with
  | .inl _ => x.2.2.1.getD j 0
  | .inr _ => x.2.2.1.getD 0 0
def isT (t n : Nat) : Prop := kK t = some (kTo t n) ∧ kK (t + 1) = some (kTc n) ∧ t ≠ 0 ∧ t + 1 < 1826 ∧ n ≤ 240
def isE (e : Nat) : Prop := kK e = some (kEo e) ∧ kK (e + 5) = some kEt ∧ isT (e + 1) 40 ∧ isT (e + 3) 40 ∧ e ≠ 0 ∧ e + 5 < 1826
def isG (g : Nat) : Prop := kK g = some (kGo g) ∧ kK (g + 1) = some kGt ∧ kK (g + 2) = some kGf ∧ g ≠ 0 ∧ g + 2 < 1826
/-- types of variables: an array -/
def isA (a n : Nat) : Prop := ∃ b : Nat, kK a = some (.inr (.int, n), [(-2, 100)], [0], b) ∧ a ≠ 0 ∧ a < 1826 ∧ n ≤ 240
def okr (k a : Nat) : Prop := match k with
  | 1 => ∃ n, isT a n
  | 2 => isE a
  | 3 => isG a
  | 4 => ∃ n, isA a n
  | 5 => (∃ n, isT a n) ∧ 369 < a
  | _ => True
/-- what holds between all steps -/
def Inv (H : hp) : Prop := ∀ (c : Nat) (x : kx), kK c = some x → (∀ j, (klim x j).1 ≤ H.1 c j ∧ H.1 c j ≤ (klim x j).2) ∧ ∀ j, okr (kref x j) (H.2 c j)
theorem kn {H : hp} {c : Nat} {x : kx} (hI : Inv H) (hx : kK c = some x) (j : Nat) : (klim x j).1 ≤ H.1 c j ∧ H.1 c j ≤ (klim x j).2 := (hI c x hx).1 j
theorem kr {H : hp} {c : Nat} {x : kx} (hI : Inv H) (hx : kK c = some x) (j : Nat) : okr (kref x j) (H.2 c j) := (hI c x hx).2 j
theorem am_find_ge {α : Type} {c m : Nat} (hc : c < m) : ∀ {l : List (Nat × α)}, l.all (fun q => Nat.ble m q.1) = true → am_find c l = none
  | [], _ => rfl
  | q :: l, h => by
    rw [List.all_cons, Bool.and_eq_true] at h
    rw [am_find_cons, if_neg (by have := Nat.le_of_ble_eq_true h.1; omega)]
    exact am_find_ge hc h.2
theorem zs_K {c : Nat} {x : kx} (hx : kK c = some x) (hc : c < 1826) : zs zK c = some x.1 := by
  unfold zs
  rw [am_find_ge hc (l := zT) rfl]
  show (kK c).map (fun x => x.1) = _
  rw [hx]
  rfl
/-- the cells with names, and all of the reference's -/
def fx (c : Nat) : Bool := Nat.ble 1826 c || (am_find c kFX).isSome
theorem kFX_true : ∀ {c : Nat} {x : kx} {l : List (Nat × kx)}, l.all (fun q => Nat.beq q.2.2.2.2 0) = true → am_find c l = some x → x.2.2.2 = 0
  | _, _, [], _, h => by cases h
  | c, x, q :: l, ha, h => by
    rw [List.all_cons, Bool.and_eq_true] at ha
    rw [am_find_cons] at h
    by_cases e : q.1 = c
    · rw [if_pos e] at h
      cases h
      exact Nat.eq_of_beq_eq_true ha.1
    · rw [if_neg e] at h
      exact kFX_true ha.2 h
theorem fx_no {c : Nat} {x : kx} (hx : kK c = some x) (hb : x.2.2.2 ≠ 0) (hc : c < 1826) : fx c = false := by
  unfold fx
  have h1 : Nat.ble 1826 c = false := by
    cases e : Nat.ble 1826 c
    · rfl
    · have := Nat.le_of_ble_eq_true e
      omega
  rw [h1]
  cases e : am_find c kFX with
  | none => rfl
  | some y =>
    have h2 := kFX_true (l := kFX) rfl e
    unfold kK at hx
    rw [e] at hx
    cases hx
    exact absurd h2 hb
/-- cells of equations and goals -/
def tg (c : Nat) : Bool := match kK c with
  | some x => Nat.beq x.2.2.2 2
  | none => false
theorem tg_of {c : Nat} {x : kx} (hx : kK c = some x) : tg c = Nat.beq x.2.2.2 2 := by
  unfold tg
  rw [hx]
theorem iT0 {t n : Nat} (h : isT t n) : t < 1826 := by have := h.2.2.2.1; omega
theorem iT1 {t n : Nat} (h : isT t n) : t + 1 < 1826 := h.2.2.2.1
theorem iTf {t n : Nat} (h : isT t n) : fx t = false := fx_no h.1 (show (1 : Nat) ≠ 0 by decide) (iT0 h)
theorem iTg {t n : Nat} (h : isT t n) : fx (t + 1) = false := fx_no h.2.1 (show (1 : Nat) ≠ 0 by decide) (iT1 h)
theorem iTt {t n : Nat} (h : isT t n) : tg t = false := tg_of h.1
theorem iTu {t n : Nat} (h : isT t n) : tg (t + 1) = false := tg_of h.2.1
theorem iGt {g : Nat} (h : isG g) : tg g = true := tg_of h.1
theorem iEt {e : Nat} (h : isE e) : tg e = true := tg_of h.1
theorem iTC {t n u m : Nat} (h : isT t n) (g : isT u m) : t ≠ u + 1 := by
  intro e
  have h1 := h.1
  rw [e, g.2.1] at h1
  have h2 := congrArg Prod.fst (Option.some.inj h1)
  cases h2
theorem iEl {e : Nat} (h : isE e) : isT (e + 1) 40 := h.2.2.1
theorem iEr {e : Nat} (h : isE e) : isT (e + 3) 40 := h.2.2.2.1
theorem iE0 {e : Nat} (h : isE e) : e < 1826 := by have := h.2.2.2.2.2; omega
theorem iE5 {e : Nat} (h : isE e) : e + 5 < 1826 := h.2.2.2.2.2
theorem iEf {e : Nat} (h : isE e) : fx e = false := fx_no h.1 (show (2 : Nat) ≠ 0 by decide) (iE0 h)
theorem iEg {e : Nat} (h : isE e) : fx (e + 5) = false := fx_no h.2.1 (show (2 : Nat) ≠ 0 by decide) (iE5 h)
theorem iEa {e : Nat} (h : isE e) : isA (e + 5) 40 := ⟨2, h.2.1, by omega, iE5 h, by omega⟩
theorem iG0 {g : Nat} (h : isG g) : g < 1826 := by have := h.2.2.2.2; omega
theorem iG1 {g : Nat} (h : isG g) : g + 1 < 1826 := by have := h.2.2.2.2; omega
theorem iG2 {g : Nat} (h : isG g) : g + 2 < 1826 := h.2.2.2.2
theorem iGf {g : Nat} (h : isG g) : fx g = false := fx_no h.1 (show (2 : Nat) ≠ 0 by decide) (iG0 h)
theorem iGg {g : Nat} (h : isG g) : fx (g + 2) = false := fx_no h.2.2.1 (show (2 : Nat) ≠ 0 by decide) (iG2 h)
theorem iAz {H : hp} {a n : Nat} (hI : Inv H) (h : isA a n) (j : Nat) : -2 ≤ H.1 a j ∧ H.1 a j ≤ 100 := by
  obtain ⟨b, h1, -⟩ := h
  exact kn hI h1 j
theorem iAs {a n : Nat} (h : isA a n) : zs zK a = some (.inr (.int, n)) := by
  obtain ⟨b, h1, -, h2, -⟩ := h
  exact zs_K h1 h2
theorem iA_409 : isA 409 60 := ⟨0, rfl, by decide, by decide, by decide⟩
/-- what may change -/
def wr (a k : Nat) (H H1 : hp) : Prop := H1.2 = H.2 ∧ ∀ c j, ¬ (c = a ∧ j = k) → H1.1 c j = H.1 c j
def wr2 (a k : Nat) (H H1 : hp) : Prop := H1.1 = H.1 ∧ ∀ c j, ¬ (c = a ∧ j = k) → H1.2 c j = H.2 c j
def wra (a : Nat) (H H1 : hp) : Prop := H1.2 = H.2 ∧ ∀ c j, c ≠ a → H1.1 c j = H.1 c j
/-- only these fields, these arrays, terms; of equations and goals nothing, or all -/
def fq (ob : List (Nat × Nat)) (ar : List Nat) (gl : Bool) (H H1 : hp) : Prop := (∀ c j, fx c = true → c ∉ ar → (c, j) ∉ ob → H1.1 c j = H.1 c j ∧ H1.2 c j = H.2 c j) ∧ (gl = false → ∀ c j, tg c = true → H1.1 c j = H.1 c j ∧ H1.2 c j = H.2 c j)
theorem fq_rf (ob : List (Nat × Nat)) (ar : List Nat) (gl : Bool) (H : hp) : fq ob ar gl H H := ⟨fun _ _ _ _ _ => ⟨rfl, rfl⟩, fun _ _ _ _ => ⟨rfl, rfl⟩⟩
/-- is a place one that may change? -/
def fp (ob : List (Nat × Nat)) (ar : List Nat) (gl : Bool) (a k : Nat) : Prop := (fx a = false ∨ a ∈ ar ∨ (a, k) ∈ ob) ∧ (gl = true ∨ tg a = false)
theorem fx_tg {c : Nat} (h : fx c = true) (hc : c < 1826) : tg c = false := by
  cases e : kK c with
  | none =>
    unfold tg
    rw [e]
  | some x =>
    cases q : tg c with
    | false => rfl
    | true =>
      rw [tg_of e] at q
      have := fx_no e (by rw [Nat.eq_of_beq_eq_true q]; decide) hc
      rw [this] at h
      cases h
theorem fq_w {ob : List (Nat × Nat)} {ar : List Nat} {gl : Bool} {H H1 H2 : hp} {a k : Nat} (h : fq ob ar gl H H1) (w : wr a k H1 H2) (q : fp ob ar gl a k) : fq ob ar gl H H2 := by
  refine ⟨fun c j h1 h2 h3 => ?_, fun hg c j h1 => ?_⟩
  · have e := h.1 c j h1 h2 h3
    refine ⟨(w.2 c j ?_).trans e.1, by rw [w.1]; exact e.2⟩
    rintro ⟨rfl, rfl⟩
    rcases q.1 with q | q | q
    · rw [q] at h1
      cases h1
    · exact h2 q
    · exact h3 q
  · have e := h.2 hg c j h1
    refine ⟨(w.2 c j ?_).trans e.1, by rw [w.1]; exact e.2⟩
    rintro ⟨rfl, rfl⟩
    rcases q.2 with q | q
    · rw [hg] at q
      cases q
    · rw [q] at h1
      cases h1
theorem fq_r {ob : List (Nat × Nat)} {ar : List Nat} {gl : Bool} {H H1 H2 : hp} {a k : Nat} (h : fq ob ar gl H H1) (w : wr2 a k H1 H2) (q : fp ob ar gl a k) : fq ob ar gl H H2 := by
  refine ⟨fun c j h1 h2 h3 => ?_, fun hg c j h1 => ?_⟩
  · have e := h.1 c j h1 h2 h3
    refine ⟨by rw [w.1]; exact e.1, (w.2 c j ?_).trans e.2⟩
    rintro ⟨rfl, rfl⟩
    rcases q.1 with q | q | q
    · rw [q] at h1
      cases h1
    · exact h2 q
    · exact h3 q
  · have e := h.2 hg c j h1
    refine ⟨by rw [w.1]; exact e.1, (w.2 c j ?_).trans e.2⟩
    rintro ⟨rfl, rfl⟩
    rcases q.2 with q | q
    · rw [hg] at q
      cases q
    · rw [q] at h1
      cases h1
theorem fq_a {ob : List (Nat × Nat)} {ar : List Nat} {gl : Bool} {H H1 H2 : hp} {t n : Nat} (h : fq ob ar gl H H1) (w : wra (t + 1) H1 H2) (hT : isT t n) : fq ob ar gl H H2 := by
  refine ⟨fun c j h1 h2 h3 => ?_, fun hg c j h1 => ?_⟩
  · have e := h.1 c j h1 h2 h3
    refine ⟨(w.2 c j ?_).trans e.1, by rw [w.1]; exact e.2⟩
    rintro rfl
    rw [iTg hT] at h1
    cases h1
  · have e := h.2 hg c j h1
    refine ⟨(w.2 c j ?_).trans e.1, by rw [w.1]; exact e.2⟩
    rintro rfl
    rw [iTu hT] at h1
    cases h1
theorem fq_t {ob ob2 : List (Nat × Nat)} {ar ar2 : List Nat} {gl gl2 : Bool} {H H1 H2 : hp} (h : fq ob ar gl H H1) (h2 : fq ob2 ar2 gl2 H1 H2) (s1 : ob2.all (fun x => ob.contains x) = true) (s2 : ar2.all (fun x => ar.contains x) = true) (s3 : (!gl2 || gl) = true) : fq ob ar gl H H2 := by
  have t1 : ∀ x, x ∈ ob2 → x ∈ ob := fun x hx => List.contains_iff_mem.mp (List.all_eq_true.mp s1 x hx)
  have t2 : ∀ x, x ∈ ar2 → x ∈ ar := fun x hx => List.contains_iff_mem.mp (List.all_eq_true.mp s2 x hx)
  refine ⟨fun c j q1 q2 q3 => ?_, fun hg c j q1 => ?_⟩
  · have e1 := h.1 c j q1 q2 q3
    have e2 := h2.1 c j q1 (fun q => q2 (t2 _ q)) (fun q => q3 (t1 _ q))
    exact ⟨e2.1.trans e1.1, e2.2.trans e1.2⟩
  · have e1 := h.2 hg c j q1
    have e2 := h2.2 (by cases gl2; { rfl }; { rw [hg] at s3; cases s3 }) c j q1
    exact ⟨e2.1.trans e1.1, e2.2.trans e1.2⟩
theorem fpT {ob : List (Nat × Nat)} {ar : List Nat} {gl : Bool} {t n k : Nat} (h : isT t n) : fp ob ar gl t k := ⟨Or.inl (iTf h), Or.inr (iTt h)⟩
theorem fpC {ob : List (Nat × Nat)} {ar : List Nat} {gl : Bool} {t n k : Nat} (h : isT t n) : fp ob ar gl (t + 1) k := ⟨Or.inl (iTg h), Or.inr (iTu h)⟩
theorem fpg {ob : List (Nat × Nat)} {ar : List Nat} {a k : Nat} (h : fx a = false) : fp ob ar true a k := ⟨Or.inl h, Or.inl rfl⟩
theorem fpa {ob : List (Nat × Nat)} {ar : List Nat} {gl : Bool} {a k : Nat} (h : a ∈ ar) (h2 : tg a = false) : fp ob ar gl a k := ⟨Or.inr (Or.inl h), Or.inr h2⟩
theorem fpo {ob : List (Nat × Nat)} {ar : List Nat} {gl : Bool} {a k : Nat} (h : (a, k) ∈ ob) (h2 : tg a = false) : fp ob ar gl a k := ⟨Or.inr (Or.inr h), Or.inr h2⟩
/-- one cell's references are others -/
def zv2 (H : hp) (c : Nat) (g : Nat → Nat) : hp := (H.1, fun k => bif Nat.beq k c then g else H.2 k)
def up2 (f : Nat → Nat) (j a : Nat) : Nat → Nat := fun i => bif Nat.beq i j then a else f i
theorem up2_if (f : Nat → Nat) (i j a : Nat) : up2 f j a i = if i = j then a else f i := by
  unfold up2
  by_cases h : i = j
  · rw [if_pos h, h, z_beq_rf]
    rfl
  · rw [if_neg h, z_beq_ne h]
    rfl
theorem zv2_if (H : hp) (k c : Nat) (g : Nat → Nat) : (zv2 H c g).2 k = if k = c then g else H.2 k := by
  show (bif Nat.beq k c then g else H.2 k) = _
  by_cases h : k = c
  · rw [if_pos h, h, z_beq_rf]
    rfl
  · rw [if_neg h, z_beq_ne h]
    rfl
theorem zu_if (H : hp) (k c : Nat) (f : Nat → Int) : (zu H c f).1 k = if k = c then f else H.1 k := by
  by_cases h : k = c
  · rw [if_pos h, h, zu_eq]
  · rw [if_neg h, zu_ne H f h]
theorem wr_zu (H : hp) (a k : Nat) (z : Int) : wr a k H (zu H a (up (H.1 a) k z)) := by
  refine ⟨rfl, fun c j h => ?_⟩
  rw [zu_if]
  by_cases e : c = a
  · rw [if_pos e, up_if, if_neg (fun q => h ⟨e, q⟩), e]
  · rw [if_neg e]
theorem wr2_zv (H : hp) (a k t : Nat) : wr2 a k H (zv2 H a (up2 (H.2 a) k t)) := by
  refine ⟨rfl, fun c j h => ?_⟩
  rw [zv2_if]
  by_cases e : c = a
  · rw [if_pos e, up2_if, if_neg (fun q => h ⟨e, q⟩), e]
  · rw [if_neg e]
theorem Inv_w {H H1 : hp} {a k : Nat} {x : kx} {z : Int} (hI : Inv H) (hx : kK a = some x) (w : wr a k H H1) (e : H1.1 a k = z) (hz : (klim x k).1 ≤ z ∧ z ≤ (klim x k).2) : Inv H1 := by
  intro c y hy
  refine ⟨fun j => ?_, fun j => by rw [w.1]; exact (hI c y hy).2 j⟩
  by_cases q : c = a ∧ j = k
  · obtain ⟨rfl, rfl⟩ := q
    rw [hx] at hy
    cases hy
    rw [e]
    exact hz
  · rw [w.2 c j q]
    exact (hI c y hy).1 j
theorem Inv_r {H H1 : hp} {a k t : Nat} {x : kx} (hI : Inv H) (hx : kK a = some x) (w : wr2 a k H H1) (e : H1.2 a k = t) (hz : okr (kref x k) t) : Inv H1 := by
  intro c y hy
  refine ⟨fun j => by rw [w.1]; exact (hI c y hy).1 j, fun j => ?_⟩
  by_cases q : c = a ∧ j = k
  · obtain ⟨rfl, rfl⟩ := q
    rw [hx] at hy
    cases hy
    rw [e]
    exact hz
  · rw [w.2 c j q]
    exact (hI c y hy).2 j
def zgetk (T : List (Nat × Nat × Nat)) (H : hp) (ins : Instr) (len : Nat) (st : List zv) : Option (List zv) := match ins, len, st with
  | .getfield i, 3, .inr (.inr a) :: st => (match am_find i T, am_find a kFX with
    | some (ci, k), some (.inl (cj, ds), _, _, _) => bif Nat.beq ci cj then (match ds[k]? with
      | some (.inr b) => some (.inr (.inr b) :: st)
      | some (.inl .long) => some (.inr (.inl (H.1 a k)) :: st)
      | some (.inl .int) => some (.inl (H.1 a k) :: st)
      | some (.inl .boolean) => some (.inl (H.1 a k) :: st)
      | _ => none) else none
    | _, _ => none)
  | _, _, _ => none
/-- steps with one way on that write nothing -/
def zrunk (M : am_M) (H : hp) : Nat → Nat → zl → List zv → Option (Nat × zl × List zv)
  | 0, pc, l, st => some (pc, l, st)
  | n + 1, pc, l, st => match am_find pc M.2.2.2.2.2.1 with
    | none => none
    | some (ins, len) => match zpure M.2.2.1 ins len pc l st with
      | some (pc', l', st') => zrunk M H n pc' l' st'
      | none => match zgetk M.2.2.2.2.1.1 H ins len st with
        | some st' => zrunk M H n (pc + 3) l st'
        | none => none
section KR
variable {d : Nat} {M : am_M} {pc : Nat} {l : zl} {st : List zv} {H : hp} {Q : Option zv → hp → Prop}
theorem kFX_lt {c : Nat} {x : kx} (h : am_find c kFX = some x) : kK c = some x ∧ c < 1826 := by
  refine ⟨by unfold kK; rw [h], ?_⟩
  by_cases q : c < 1826
  · exact q
  · have h2 : ∀ {l : List (Nat × kx)}, l.all (fun q => Nat.blt q.1 1826) = true → am_find c l = none := by
      intro l
      induction l with
      | nil => exact fun _ => rfl
      | cons p l ih =>
        intro ha
        rw [List.all_cons, Bool.and_eq_true] at ha
        rw [am_find_cons, if_neg (by have := Nat.le_of_ble_eq_true ha.1; omega)]
        exact ih ha.2
    rw [h2 (l := kFX) rfl] at h
    cases h
theorem k_get {i ci k a : Nat} {x : kx} {ds : List zsd} {dd : zsd} {v : zv} (hf : am_find pc M.2.2.2.2.2.1 = some (.getfield i, 3)) (hi : am_find i M.2.2.2.2.1.1 = some (ci, k)) (hx : kK a = some x) (ha : a < 1826) (hs : x.1 = .inl (ci, ds)) (hk : ds[k]? = some dd) (hv : zslot dd (H.1 a) (H.2 a) k = zc v) (kk : hG (zs zK) d M (pc + 3) l (v :: st) H Q) : hG (zs zK) d M pc l (.inr (.inr a) :: st) H Q :=
  h_get hf hi (by rw [zs_K hx ha, hs]) hk hv kk
theorem zgetk_ok {ins : Instr} {len : Nat} {st' : List zv} (hf : am_find pc M.2.2.2.2.2.1 = some (ins, len)) (h : zgetk M.2.2.2.2.1.1 H ins len st = some st') (k : hG (zs zK) d M (pc + 3) l st' H Q) : hG (zs zK) d M pc l st H Q := by
  unfold zgetk at h
  split at h
  · rename_i i a st0
    split at h
    · rename_i ci k0 cj ds y1 y2 y3 hi ha
      obtain ⟨hx, hlt⟩ := kFX_lt ha
      revert h
      cases hb : Nat.beq ci cj
      · intro h
        cases h
      · have e := Nat.eq_of_beq_eq_true hb
        subst e
        intro h
        have h : (match ds[k0]? with
          | some (.inr b) => some (.inr (.inr b) :: st0)
          | some (.inl .long) => some (.inr (.inl (H.1 a k0)) :: st0)
          | some (.inl .int) => some (.inl (H.1 a k0) :: st0)
          | some (.inl .boolean) => some (.inl (H.1 a k0) :: st0)
          | _ => none : Option (List zv)) = some st' := h
        split at h
        · rename_i hd
          cases h
          exact k_get hf hi hx hlt rfl hd rfl k
        · rename_i hd
          cases h
          exact k_get hf hi hx hlt rfl hd rfl k
        · rename_i hd
          cases h
          exact k_get hf hi hx hlt rfl hd rfl k
        · rename_i hd
          cases h
          exact k_get hf hi hx hlt rfl hd rfl k
        · cases h
    · cases h
  · cases h
theorem k_run : ∀ (n : Nat) {pc : Nat} {l : zl} {st : List zv} {pc' : Nat} {l' : zl} {st' : List zv}, zrunk M H n pc l st = some (pc', l', st') → hG (zs zK) d M pc' l' st' H Q → hG (zs zK) d M pc l st H Q := by
  intro n
  induction n with
  | zero =>
    intro pc l st pc' l' st' h k
    cases h
    exact k
  | succ n ih =>
    intro pc l st pc' l' st' h k
    unfold zrunk at h
    split at h
    · cases h
    · rename_i ins len hins
      split at h
      · rename_i pc1 l1 st1 hp
        exact h_pure hins hp (ih h k)
      · split at h
        · rename_i st1 hg
          exact zgetk_ok hins hg (ih h k)
        · cases h
/-- the same values otherwise told -/
theorem k_st {st' : List zv} (e : st.map zc = st'.map zc) (k : hG (zs zK) d M pc l st' H Q) : hG (zs zK) d M pc l st H Q := by
  intro S lc hS hl
  rw [e]
  exact k S lc hS hl
theorem z_nrm (z : Int) : Int32.ofInt (Int32.ofInt z).toInt = Int32.ofInt z := Int32.ofInt_toInt _
/-- a number's place forgotten but for its range -/
theorem k_nrm {z : Int} (k : ∀ y : Int, -2147483648 ≤ y ∧ y ≤ 2147483647 → hG (zs zK) d M pc l (.inl y :: st) H Q) : hG (zs zK) d M pc l (.inl z :: st) H Q := by
  refine k_st (st' := .inl (Int32.ofInt z).toInt :: st) ?_ (k _ (z_int _))
  show Value.int _ :: _ = Value.int _ :: _
  rw [z_nrm]
theorem z_nrmj (z : Int) : Int64.ofInt (Int64.ofInt z).toInt = Int64.ofInt z := Int64.ofInt_toInt _
theorem k_nrmj {z : Int} (k : ∀ y : Int, -9223372036854775808 ≤ y ∧ y ≤ 9223372036854775807 → hG (zs zK) d M pc l (.inr (.inl y) :: st) H Q) : hG (zs zK) d M pc l (.inr (.inl z) :: st) H Q := by
  refine k_st (st' := .inr (.inl (Int64.ofInt z).toInt) :: st) ?_ (k _ (z_long _))
  show Value.long _ :: _ = Value.long _ :: _
  rw [z_nrmj]
def zrep (i : Nat) (y : Int) (l : zl) : zl := l.map (fun q => bif Nat.beq q.1 i then (q.1, .inl y) else q)
theorem k_nrml (i : Nat) {z : Int} (hz : am_find i l = some (.inl z)) (hu : l.all (fun q => !(Nat.beq q.1 i) || (match q.2 with | .inl _ => true | _ => false)) = true) (hn : (l.filter (fun q => Nat.beq q.1 i)).length = 1) (k : ∀ y : Int, -2147483648 ≤ y ∧ y ≤ 2147483647 → hG (zs zK) d M pc (zrep i y l) st H Q) : hG (zs zK) d M pc l st H Q := by
  intro S lc hS hl
  refine k (Int32.ofInt z).toInt (z_int _) S lc hS ?_
  intro q hq
  unfold zrep at hq
  obtain ⟨p, hp, e⟩ := List.mem_map.mp hq
  cases hb : Nat.beq p.1 i
  · rw [hb] at e
    rw [← e]
    exact hl p hp
  · rw [hb] at e
    rw [← e]
    have h1 := Nat.eq_of_beq_eq_true hb
    show am_find p.1 lc = some (Value.int (Int32.ofInt (Int32.ofInt z).toInt))
    rw [z_nrm]
    have h2 := hl _ (am_find_mem hz)
    rw [h1]
    exact h2
/-- writes -/
theorem k_puti {i ci k a : Nat} {x : kx} {ds : List zsd} {tys : List FieldType} {z : Int} (hf : am_find pc M.2.2.2.2.2.1 = some (.putfield i, 3)) (hi : am_find i M.2.2.2.2.1.2.1 = some (ci, k)) (hx : kK a = some x) (ha : a < 1826) (h0 : a ≠ 0) (hs : x.1 = .inl (ci, ds)) (hk : ds[k]? = some (.inl .int)) (hty : at_ty[ci]? = some tys) (htk : tys.getD k .int = .int) (hI : Inv H) (hr : -2147483648 ≤ z ∧ z ≤ 2147483647) (hz : (klim x k).1 ≤ z ∧ z ≤ (klim x k).2) (kk : ∀ H1, Inv H1 → wr a k H H1 → H1.1 a k = z → hG (zs zK) d M (pc + 3) l st H1 Q) : hG (zs zK) d M pc l (.inl z :: .inr (.inr a) :: st) H Q := by
  have e : (zu H a (up (H.1 a) k z)).1 a k = z := by rw [zu_eq, up_eq]
  exact h_puti hf hi (by rw [zs_K hx ha, hs]) hk hty htk h0 hr (kk _ (Inv_w hI hx (wr_zu H a k z) e hz) (wr_zu H a k z) e)
theorem k_putw {i ci k a : Nat} {x : kx} {ds : List zsd} {tys : List FieldType} {z : Int} (hf : am_find pc M.2.2.2.2.2.1 = some (.putfield i, 3)) (hi : am_find i M.2.2.2.2.1.2.1 = some (ci, k)) (hx : kK a = some x) (ha : a < 1826) (h0 : a ≠ 0) (hs : x.1 = .inl (ci, ds)) (hk : ds[k]? = some (.inl .int)) (hty : at_ty[ci]? = some tys) (htk : tys.getD k .int = .int) (hI : Inv H) (hl : klim x k = kI) (kk : ∀ H1, Inv H1 → wr a k H H1 → hG (zs zK) d M (pc + 3) l st H1 Q) : hG (zs zK) d M pc l (.inl z :: .inr (.inr a) :: st) H Q :=
  k_nrm (fun y hy => k_puti hf hi hx ha h0 hs hk hty htk hI hy (by rw [hl]; exact hy) (fun H1 h1 h2 _ => kk H1 h1 h2))
theorem k_putz {i ci k a : Nat} {x : kx} {ds : List zsd} {tys : List FieldType} {z : Int} (hf : am_find pc M.2.2.2.2.2.1 = some (.putfield i, 3)) (hi : am_find i M.2.2.2.2.1.2.1 = some (ci, k)) (hx : kK a = some x) (ha : a < 1826) (h0 : a ≠ 0) (hs : x.1 = .inl (ci, ds)) (hk : ds[k]? = some (.inl .boolean)) (hty : at_ty[ci]? = some tys) (htk : tys.getD k .int = .boolean) (hI : Inv H) (hr : 0 ≤ z ∧ z ≤ 1) (hl : klim x k = (0, 1)) (kk : ∀ H1, Inv H1 → wr a k H H1 → H1.1 a k = z → hG (zs zK) d M (pc + 3) l st H1 Q) : hG (zs zK) d M pc l (.inl z :: .inr (.inr a) :: st) H Q := by
  have e : (zu H a (up (H.1 a) k z)).1 a k = z := by rw [zu_eq, up_eq]
  exact h_putz hf hi (by rw [zs_K hx ha, hs]) hk hty htk h0 hr (kk _ (Inv_w hI hx (wr_zu H a k z) e (by rw [hl]; exact hr)) (wr_zu H a k z) e)
theorem k_putl {i ci k a : Nat} {x : kx} {ds : List zsd} {tys : List FieldType} {z : Int} (hf : am_find pc M.2.2.2.2.2.1 = some (.putfield i, 3)) (hi : am_find i M.2.2.2.2.1.2.1 = some (ci, k)) (hx : kK a = some x) (ha : a < 1826) (h0 : a ≠ 0) (hs : x.1 = .inl (ci, ds)) (hk : ds[k]? = some (.inl .long)) (hty : at_ty[ci]? = some tys) (htk : tys.getD k .int = .long) (hI : Inv H) (hl : klim x k = kJ) (kk : ∀ H1, Inv H1 → wr a k H H1 → hG (zs zK) d M (pc + 3) l st H1 Q) : hG (zs zK) d M pc l (.inr (.inl z) :: .inr (.inr a) :: st) H Q :=
  k_nrmj (fun y hy => by
    have e : (zu H a (up (H.1 a) k y)).1 a k = y := by rw [zu_eq, up_eq]
    exact h_putl hf hi (by rw [zs_K hx ha, hs]) hk hty htk h0 hy (kk _ (Inv_w hI hx (wr_zu H a k y) e (by rw [hl]; exact hy)) (wr_zu H a k y)))
theorem k_ist {c n j : Nat} {x : kx} {i z : Int} (hf : am_find pc M.2.2.2.2.2.1 = some (.iastore, 1)) (hx : kK c = some x) (hc : c < 1826) (h0 : c ≠ 0) (hs : x.1 = .inr (.int, n)) (hn : n ≤ 2147483647) (hi : i = j) (hj : j < n) (hI : Inv H) (hr : -2147483648 ≤ z ∧ z ≤ 2147483647) (hz : (klim x j).1 ≤ z ∧ z ≤ (klim x j).2) (kk : ∀ H1, Inv H1 → wr c j H H1 → H1.1 c j = z → hG (zs zK) d M (pc + 1) l st H1 Q) : hG (zs zK) d M pc l (.inl z :: .inl i :: .inr (.inr c) :: st) H Q := by
  have e : (zu H c (up (H.1 c) j z)).1 c j = z := by rw [zu_eq, up_eq]
  exact h_ist hf (by rw [zs_K hx hc, hs]) h0 hn hi hj hr (kk _ (Inv_w hI hx (wr_zu H c j z) e hz) (wr_zu H c j z) e)
theorem k_istw {c n j : Nat} {x : kx} {i z : Int} (hf : am_find pc M.2.2.2.2.2.1 = some (.iastore, 1)) (hx : kK c = some x) (hc : c < 1826) (h0 : c ≠ 0) (hs : x.1 = .inr (.int, n)) (hn : n ≤ 2147483647) (hi : i = j) (hj : j < n) (hI : Inv H) (hl : klim x j = kI) (kk : ∀ H1, Inv H1 → wr c j H H1 → hG (zs zK) d M (pc + 1) l st H1 Q) : hG (zs zK) d M pc l (.inl z :: .inl i :: .inr (.inr c) :: st) H Q :=
  k_nrm (fun y hy => k_ist hf hx hc h0 hs hn hi hj hI hy (by rw [hl]; exact hy) (fun H1 h1 h2 _ => kk H1 h1 h2))
theorem k_lst {c n j : Nat} {x : kx} {i z : Int} (hf : am_find pc M.2.2.2.2.2.1 = some (.lastore, 1)) (hx : kK c = some x) (hc : c < 1826) (h0 : c ≠ 0) (hs : x.1 = .inr (.long, n)) (hn : n ≤ 2147483647) (hi : i = j) (hj : j < n) (hI : Inv H) (hl : klim x j = kJ) (kk : ∀ H1, Inv H1 → wr c j H H1 → hG (zs zK) d M (pc + 1) l st H1 Q) : hG (zs zK) d M pc l (.inr (.inl z) :: .inl i :: .inr (.inr c) :: st) H Q :=
  k_nrmj (fun y hy => by
    have e : (zu H c (up (H.1 c) j y)).1 c j = y := by rw [zu_eq, up_eq]
    exact h_lst hf (by rw [zs_K hx hc, hs]) h0 hn hi hj hy (kk _ (Inv_w hI hx (wr_zu H c j y) e (by rw [hl]; exact hy)) (wr_zu H c j y)))
theorem k_ild {c n j : Nat} {x : kx} {i : Int} (hf : am_find pc M.2.2.2.2.2.1 = some (.iaload, 1)) (hx : kK c = some x) (hc : c < 1826) (hs : x.1 = .inr (.int, n)) (hn : n ≤ 2147483647) (hi : i = j) (hj : j < n) (k : hG (zs zK) d M (pc + 1) l (.inl (H.1 c j) :: st) H Q) : hG (zs zK) d M pc l (.inl i :: .inr (.inr c) :: st) H Q := h_ild hf (by rw [zs_K hx hc, hs]) hn hi hj k
theorem k_lld {c n j : Nat} {x : kx} {i : Int} (hf : am_find pc M.2.2.2.2.2.1 = some (.laload, 1)) (hx : kK c = some x) (hc : c < 1826) (hs : x.1 = .inr (.long, n)) (hn : n ≤ 2147483647) (hi : i = j) (hj : j < n) (k : hG (zs zK) d M (pc + 1) l (.inr (.inl (H.1 c j)) :: st) H Q) : hG (zs zK) d M pc l (.inl i :: .inr (.inr c) :: st) H Q := h_lld hf (by rw [zs_K hx hc, hs]) hn hi hj k
theorem k_alen {c n : Nat} {x : kx} {ty : FieldType} (hf : am_find pc M.2.2.2.2.2.1 = some (.arraylength, 1)) (hx : kK c = some x) (hc : c < 1826) (hs : x.1 = .inr (ty, n)) (k : hG (zs zK) d M (pc + 1) l (.inl n :: st) H Q) : hG (zs zK) d M pc l (.inr (.inr c) :: st) H Q := h_alen hf (by rw [zs_K hx hc, hs]) k
/-- references -/
theorem h_ald {sh : Nat → Option zsh} {c n j : Nat} {i : Int} {C : String} (hf : am_find pc M.2.2.2.2.2.1 = some (.aaload, 1)) (hs : sh c = some (.inr (.object C, n))) (hn : n ≤ 2147483647) (hi : i = j) (hj : j < n) (k : hG sh d M (pc + 1) l (.inr (.inr (H.2 c j)) :: st) H Q) : hG sh d M pc l (.inl i :: .inr (.inr c) :: st) H Q := by
  refine h_same (fun S lc Q' hS g => ?_) k
  obtain ⟨⟨z, dv, u, h1, h2⟩, -⟩ := hS c _ hs
  obtain ⟨h3, h4⟩ := z_ix hi hj hn
  have h5 : am_geta S c (Int32.ofInt i) (.object C) = some (.ref (H.2 c j)) := by
    unfold am_geta
    rw [h1]
    show (if _ then _ else _) = _
    rw [if_pos ⟨rfl, h3⟩, h4, h2 j hj]
    rfl
  refine G_heap0 hf rfl (pc' := pc + 1) (st' := .ref (H.2 c j) :: st.map zc) (S' := S) ?_ g
  show (match am_nth S c with
    | some (_, some (.inl (.object C, _, _, _))) => (am_geta S c (Int32.ofInt i) (.object C)).map fun v => (pc + 1, v :: st.map zc, S, 0, 0)
    | _ => none) = _
  rw [h1]
  show (am_geta S c (Int32.ofInt i) (.object C)).map (fun v => (pc + 1, v :: st.map zc, S, 0, 0)) = _
  rw [h5]
  rfl
theorem k_ald {c n j : Nat} {x : kx} {i : Int} {C : String} (hf : am_find pc M.2.2.2.2.2.1 = some (.aaload, 1)) (hx : kK c = some x) (hc : c < 1826) (hs : x.1 = .inr (.object C, n)) (hn : n ≤ 2147483647) (hi : i = j) (hj : j < n) (hI : Inv H) (k : okr (kref x j) (H.2 c j) → hG (zs zK) d M (pc + 1) l (.inr (.inr (H.2 c j)) :: st) H Q) : hG (zs zK) d M pc l (.inl i :: .inr (.inr c) :: st) H Q := h_ald hf (by rw [zs_K hx hc, hs]) hn hi hj (k (kr hI hx j))
theorem k_getr {i ci k a : Nat} {x : kx} {ds : List zsd} {ty : FieldType} (hf : am_find pc M.2.2.2.2.2.1 = some (.getfield i, 3)) (hi : am_find i M.2.2.2.2.1.1 = some (ci, k)) (hx : kK a = some x) (ha : a < 1826) (hs : x.1 = .inl (ci, ds)) (hk : ds[k]? = some (.inl ty)) (hv : zval ty (H.1 a) (H.2 a) k = .ref (H.2 a k)) (hI : Inv H) (kk : okr (kref x k) (H.2 a k) → hG (zs zK) d M (pc + 3) l (.inr (.inr (H.2 a k)) :: st) H Q) : hG (zs zK) d M pc l (.inr (.inr a) :: st) H Q := k_get (v := .inr (.inr (H.2 a k))) hf hi hx ha hs hk hv (kk (kr hI hx k))
theorem zok_obr {ci z k t : Nat} {ds : List zsd} {fs : List Value} {f : Nat → Int} {g : Nat → Nat} {ty : FieldType} (hl : fs.length = ds.length) (h1 : ∀ (j : Nat) (dd : zsd), ds[j]? = some dd → fs[j]? = some (zslot dd f g j)) (h2 : ∀ (j : Nat) (ty : FieldType), ds[j]? = some (.inl ty) → zrng ty (f j)) (hk : ds[k]? = some (.inl ty)) (hv : ∀ g' : Nat → Nat, g' k = t → zval ty f g' k = .ref t) : zok (.inl (ci, ds)) (some (z, some (.inr (ci, fs.set k (.ref t))))) f (up2 g k t) := by
  have hkl : k < fs.length := by
    rw [hl]
    exact (List.getElem?_eq_some_iff.mp hk).1
  refine ⟨⟨z, _, rfl, by rw [List.length_set]; exact hl, fun j dd hj => ?_⟩, h2⟩
  by_cases e : j = k
  · subst e
    rw [List.getElem?_set_self hkl]
    rw [hk] at hj
    cases hj
    exact congrArg some (hv _ (by rw [up2_if, if_pos rfl])).symm
  · rw [List.getElem?_set_ne (fun q => e q.symm), h1 j dd hj]
    congr 1
    unfold zslot
    split
    · unfold zval
      rw [up2_if, if_neg e]
    · rfl
theorem zv2_o (H : hp) (c : Nat) (g : Nat → Nat) (k : Nat) (h : k ≠ c) : (zv2 H c g).1 k = H.1 k ∧ (zv2 H c g).2 k = H.2 k := ⟨rfl, by rw [zv2_if, if_neg h]⟩
theorem k_putr {i ci k a t : Nat} {x : kx} {ds : List zsd} {tys : List FieldType} {ty : FieldType} (hf : am_find pc M.2.2.2.2.2.1 = some (.putfield i, 3)) (hi : am_find i M.2.2.2.2.1.2.1 = some (ci, k)) (hx : kK a = some x) (ha : a < 1826) (h0 : a ≠ 0) (hs : x.1 = .inl (ci, ds)) (hk : ds[k]? = some (.inl ty)) (hv : ∀ g' : Nat → Nat, g' k = t → zval ty (H.1 a) g' k = .ref t) (hty : at_ty[ci]? = some tys) (hok : am_okv (tys.getD k .int) (.ref t) = true) (hI : Inv H) (ht : okr (kref x k) t) (kk : ∀ H1, Inv H1 → wr2 a k H H1 → hG (zs zK) d M (pc + 3) l st H1 Q) : hG (zs zK) d M pc l (.inr (.inr t) :: .inr (.inr a) :: st) H Q := by
  have e : (zv2 H a (up2 (H.2 a) k t)).2 a k = t := by rw [zv2_if, if_pos rfl, up2_if, if_pos rfl]
  have hs9 : zs zK a = some (.inl (ci, ds)) := by rw [zs_K hx ha, hs]
  refine h_wr (fun S hS => ?_) (kk _ (Inv_r hI hx (wr2_zv H a k t) e ht) (wr2_zv H a k t))
  obtain ⟨⟨z, fs, h1, h2, h3⟩, h5⟩ := hS a _ hs9
  have hz : zok (.inl (ci, ds)) (some (z, some (.inr (ci, fs.set k (.ref t))))) ((zv2 H a (up2 (H.2 a) k t)).1 a) ((zv2 H a (up2 (H.2 a) k t)).2 a) := by
    rw [zv2_if, if_pos rfl]
    exact zok_obr h2 h3 h5 hk hv
  obtain ⟨q1, q2⟩ := zR_set hS h0 hs9 hz (zv2_o H _ _)
  exact ⟨_, q1, q2, fun lc Q' g => G_put hf hi h1 hty hok g⟩
theorem k_ast {c n j t ci : Nat} {x xt : kx} {i : Int} {ds : List zsd} {C : String} {r : vw_C} (hf : am_find pc M.2.2.2.2.2.1 = some (.aastore, 1)) (hx : kK c = some x) (hc : c < 1826) (h0 : c ≠ 0) (hs : x.1 = .inr (.object C, n)) (hn : n ≤ 2147483647) (hi : i = j) (hj : j < n) (htx : kK t = some xt) (htc : t < 1826) (hts : xt.1 = .inl (ci, ds)) (hcl : at_cl[ci]? = some r) (hC : r.1 = C) (hI : Inv H) (ht : okr (kref x j) t) (kk : ∀ H1, Inv H1 → wr2 c j H H1 → hG (zs zK) d M (pc + 1) l st H1 Q) : hG (zs zK) d M pc l (.inr (.inr t) :: .inl i :: .inr (.inr c) :: st) H Q := by
  have e : (zv2 H c (up2 (H.2 c) j t)).2 c j = t := by rw [zv2_if, if_pos rfl, up2_if, if_pos rfl]
  have hs9 : zs zK c = some (.inr (.object C, n)) := by rw [zs_K hx hc, hs]
  have ht9 : zs zK t = some (.inl (ci, ds)) := by rw [zs_K htx htc, hts]
  refine h_wr (fun S hS => ?_) (kk _ (Inv_r hI hx (wr2_zv H c j t) e ht) (wr2_zv H c j t))
  obtain ⟨⟨z, dv, u, h1, h2⟩, h5⟩ := hS c _ hs9
  obtain ⟨⟨zt, fst, h1t, -, -⟩, -⟩ := hS t _ ht9
  obtain ⟨h3, h4⟩ := z_ix hi hj hn
  obtain ⟨c0, rfl⟩ : ∃ c0, c = c0 + 1 := ⟨c - 1, by omega⟩
  have hz : zok (.inr (.object C, n)) (some (z, some (.inl (.object C, n, dv, (j, .ref t) :: u)))) ((zv2 H (c0 + 1) (up2 (H.2 (c0 + 1)) j t)).1 (c0 + 1)) ((zv2 H (c0 + 1) (up2 (H.2 (c0 + 1)) j t)).2 (c0 + 1)) := by
    rw [zv2_if, if_pos rfl]
    refine ⟨⟨z, dv, _, rfl, fun k hk => ?_⟩, h5⟩
    rw [am_fn_cons]
    unfold updV
    show _ = Value.ref (up2 (H.2 (c0 + 1)) j t k)
    rw [up2_if]
    by_cases e : k = j
    · rw [if_pos e, if_pos e]
    · rw [if_neg e, if_neg e, h2 k hk]
      rfl
  obtain ⟨q1, q2⟩ := zR_set hS h0 hs9 hz (zv2_o H _ _)
  refine ⟨_, q1, q2, fun lc Q' g => G_heap0 hf rfl ?_ g⟩
  have h6 : am_seta S (c0 + 1) (Int32.ofInt i) (.object r.1) (.ref t) = some (am_set S (c0 + 1) (z, some (.inl (.object C, n, dv, (j, .ref t) :: u)))) := by
    unfold am_seta
    rw [h1]
    show (if _ then _ else _) = _
    rw [if_pos ⟨by rw [hC], h3⟩, h4]
  show (match am_nth S t with
    | some (_, some (.inr (ci, _))) => (match at_cl[ci]? with
      | some r => (am_seta S (c0 + 1) (Int32.ofInt i) (.object r.1) (.ref t)).map fun S' => (pc + 1, st.map zc, S', 0, 0)
      | none => none)
    | _ => none) = _
  rw [h1t]
  show (match at_cl[ci]? with
      | some r => (am_seta S (c0 + 1) (Int32.ofInt i) (.object r.1) (.ref t)).map fun S' => (pc + 1, st.map zc, S', 0, 0)
      | none => none) = _
  rw [hcl]
  show (am_seta S (c0 + 1) (Int32.ofInt i) (.object r.1) (.ref t)).map (fun S' => (pc + 1, st.map zc, S', 0, 0)) = _
  rw [h6]
  rfl
/-- an answer that is a reference -/
theorem h_reta {sh : Nat → Option zsh} {a : Nat} {C : String} (hf : am_find pc M.2.2.2.2.2.1 = some (.areturn, 1)) (hr : M.2.2.2.1 = some (.object C)) (k : Q (some (.inr (.inr a))) H) : hG sh d M pc l [.inr (.inr a)] H Q := by
  intro S lc hS hl
  refine G_ret (r := some (.ref a)) hf ?_ rfl ⟨rfl, rfl, some (.inr (.inr a)), H, rfl, hS, zkeep_rf _ _, k⟩
  show am_ret M.2.2.2.1 .areturn 1 [.ref a] = some (some (.ref a))
  rw [hr]
  rfl
/-- the JDK's own -/
theorem G_lib {P : List am_M} {cl : List vw_C} {tyL : List (List FieldType)} {l : am_L} {st st' : List Value} {S S' : am_S} {Q : Option Value → am_S → Nat → Nat → Prop} {i j : Nat} (hf : am_find pc M.2.2.2.2.2.1 = some (.invokestatic i, 3)) (hj : am_find i M.2.2.2.2.1.2.2.2.2.2 = some j) (hj4 : j < 4) (hd : 1 ≤ d) (h : am_lib j (.invokestatic i) st S = some (st', S')) (k : am_G P cl tyL d M (pc + 3) l st' S' Q) : am_G P cl tyL d M pc l st S Q := by
  obtain ⟨f, r, S2, c, n, h1, h2⟩ := k
  obtain ⟨d, rfl⟩ : ∃ d0, d = d0 + 1 := ⟨d - 1, by omega⟩
  refine ⟨f + 1, r, S2, c, n, ?_, h2⟩
  have hp : am_pure M.2.2.1 (.invokestatic i) 3 pc l st = none := rfl
  have hh : am_heap cl tyL M.2.2.2.2.1 (.invokestatic i) 3 pc st S = none := rfl
  have hr : am_ret M.2.2.2.1 (.invokestatic i) 3 st = none := rfl
  unfold am_run
  rw [hf]
  dsimp only
  rw [hp]
  dsimp only
  rw [hh]
  dsimp only
  rw [hr]
  dsimp only
  rw [show am_cix (.invokestatic i) 3 = some i from rfl]
  dsimp only
  rw [hj]
  dsimp only
  rw [if_pos hj4, h]
  exact h1
theorem k_max {i : Nat} {x y : Int} (hf : am_find pc M.2.2.2.2.2.1 = some (.invokestatic i, 3)) (hj : am_find i M.2.2.2.2.1.2.2.2.2.2 = some 1) (hw : zw st ≤ 8) (hd : 1 ≤ d) (hx : -2147483648 ≤ x ∧ x ≤ 2147483647) (hy : -2147483648 ≤ y ∧ y ≤ 2147483647) (k : ∀ z : Int, x ≤ z ∧ y ≤ z ∧ (z = x ∨ z = y) → hG (zs zK) d M (pc + 3) l (.inl z :: st) H Q) : hG (zs zK) d M pc l (.inl y :: .inl x :: st) H Q := by
  by_cases q : x < y
  · refine h_same (fun S lc Q' hS g => G_lib hf hj (by decide) hd ?_ g) (k y (by omega))
    show (if am_words (st.map zc) ≤ 8 then some (Value.int (if Int32.ofInt x < Int32.ofInt y then Int32.ofInt y else Int32.ofInt x) :: st.map zc, S) else none) = _
    rw [zw_ok, if_pos hw, if_pos ((z_lt hx hy).mpr q)]
    rfl
  · refine h_same (fun S lc Q' hS g => G_lib hf hj (by decide) hd ?_ g) (k x (by omega))
    show (if am_words (st.map zc) ≤ 8 then some (Value.int (if Int32.ofInt x < Int32.ofInt y then Int32.ofInt y else Int32.ofInt x) :: st.map zc, S) else none) = _
    rw [zw_ok, if_pos hw, if_neg (fun e => q ((z_lt hx hy).mp e))]
    rfl
theorem k_min {i : Nat} {x y : Int} (hf : am_find pc M.2.2.2.2.2.1 = some (.invokestatic i, 3)) (hj : am_find i M.2.2.2.2.1.2.2.2.2.2 = some 2) (hw : zw st ≤ 8) (hd : 1 ≤ d) (hx : -2147483648 ≤ x ∧ x ≤ 2147483647) (hy : -2147483648 ≤ y ∧ y ≤ 2147483647) (k : ∀ z : Int, z ≤ x ∧ z ≤ y ∧ (z = x ∨ z = y) → hG (zs zK) d M (pc + 3) l (.inl z :: st) H Q) : hG (zs zK) d M pc l (.inl y :: .inl x :: st) H Q := by
  by_cases q : y < x
  · refine h_same (fun S lc Q' hS g => G_lib hf hj (by decide) hd ?_ g) (k y (by omega))
    show (if am_words (st.map zc) ≤ 8 then some (Value.int (if Int32.ofInt y < Int32.ofInt x then Int32.ofInt y else Int32.ofInt x) :: st.map zc, S) else none) = _
    rw [zw_ok, if_pos hw, if_pos ((z_lt hy hx).mpr q)]
    rfl
  · refine h_same (fun S lc Q' hS g => G_lib hf hj (by decide) hd ?_ g) (k x (by omega))
    show (if am_words (st.map zc) ≤ 8 then some (Value.int (if Int32.ofInt y < Int32.ofInt x then Int32.ofInt y else Int32.ofInt x) :: st.map zc, S) else none) = _
    rw [zw_ok, if_pos hw, if_neg (fun e => q ((z_lt hy hx).mp e))]
    rfl
theorem z_clamp {z : Int} (h : 0 ≤ z ∧ z ≤ 2147483647) : (Int32.ofInt z).toNatClampNeg = z.toNat ∧ ¬ Int32.ofInt z < 0 := by
  have h1 : (Int32.ofInt z).toNatClampNeg = z.toNat := Int32.toNatClampNeg_ofInt_of_le (by omega) (by omega)
  refine ⟨h1, fun q => ?_⟩
  have q : Int32.ofInt z < Int32.ofInt 0 := q
  rw [z_lt (by omega) (by omega)] at q
  omega
/-- System.arraycopy of codes -/
theorem k_copy {i t u n m : Nat} {sp dp k : Int} (hf : am_find pc M.2.2.2.2.2.1 = some (.invokestatic i, 3)) (hj : am_find i M.2.2.2.2.1.2.2.2.2.2 = some 3) (hw : zw st ≤ 8) (hd : 1 ≤ d) (hT : isT t n) (hU : isT u m) (hsp : 0 ≤ sp) (hdp : 0 ≤ dp) (hk : 0 ≤ k) (h1 : sp + k ≤ n) (h2 : dp + k ≤ m) (hI : Inv H) (kk : ∀ H1, Inv H1 → wra (u + 1) H H1 → hG (zs zK) d M (pc + 3) l st H1 Q) : hG (zs zK) d M pc l (.inl k :: .inl dp :: .inr (.inr (u + 1)) :: .inl sp :: .inr (.inr (t + 1)) :: st) H Q := by
  have hn := hT.2.2.2.2
  have hm := hU.2.2.2.2
  have hsT : zs zK (t + 1) = some (.inr (.int, n)) := zs_K hT.2.1 (iT1 hT)
  have hsU : zs zK (u + 1) = some (.inr (.int, m)) := zs_K hU.2.1 (iT1 hU)
  obtain ⟨f9, hf9⟩ : ∃ f9 : Nat → Int, f9 = fun j => if dp.toNat ≤ j ∧ j < dp.toNat + k.toNat then H.1 (t + 1) (sp.toNat + (j - dp.toNat)) else H.1 (u + 1) j := ⟨_, rfl⟩
  have hr9 : ∀ j, -2147483648 ≤ f9 j ∧ f9 j ≤ 2147483647 := by
    intro j
    rw [hf9]
    dsimp only
    split
    · exact kn hI hT.2.1 _
    · exact kn hI hU.2.1 _
  have hw9 : wra (u + 1) H (zu H (u + 1) f9) := ⟨rfl, fun c j hc => by rw [zu_if, if_neg hc]⟩
  have hI9 : Inv (zu H (u + 1) f9) := by
    intro c y hy
    refine ⟨fun j => ?_, fun j => (hI c y hy).2 j⟩
    by_cases q : c = u + 1
    · subst q
      rw [hU.2.1] at hy
      cases hy
      rw [zu_eq]
      exact hr9 j
    · rw [zu_if, if_neg q]
      exact (hI c y hy).1 j
  refine h_wr (fun S hS => ?_) (kk _ hI9 hw9)
  obtain ⟨⟨z0, df, uf, a1, a2⟩, a3⟩ := hS _ _ hsT
  obtain ⟨⟨z1, dg, ug, b1, b2⟩, b3⟩ := hS _ _ hsU
  obtain ⟨c1, c2⟩ := z_clamp (z := sp) (by omega)
  obtain ⟨c3, c4⟩ := z_clamp (z := dp) (by omega)
  obtain ⟨c5, c6⟩ := z_clamp (z := k) (by omega)
  have hz : zok (.inr (.int, m)) (some (z1, some (.inl (.int, m, dg, am_cpy (am_fn df uf) sp.toNat dp.toNat k.toNat ug)))) ((zu H (u + 1) f9).1 (u + 1)) ((zu H (u + 1) f9).2 (u + 1)) := by
    rw [zu_eq]
    refine ⟨⟨z1, dg, _, rfl, fun j hj => ?_⟩, fun j _ => hr9 j⟩
    rw [am_cpy_fn]
    unfold va_cpy
    show _ = Value.int (Int32.ofInt (f9 j))
    rw [hf9]
    dsimp only
    by_cases q : dp.toNat ≤ j ∧ j < dp.toNat + k.toNat
    · rw [if_pos q, if_pos q, a2 _ (by omega)]
      rfl
    · rw [if_neg q, if_neg q, b2 j hj]
      rfl
  obtain ⟨q1, q2⟩ := zR_set hS (by omega) hsU hz (zu_o H _ _)
  refine ⟨_, q1, q2, fun lc Q' g => G_lib hf hj (by decide) hd ?_ g⟩
  have hall : (List.range k.toNat).all (fun q => match am_fn df uf (sp.toNat + q) with | .int _ => true | _ => false) = true := by
    rw [List.all_eq_true]
    intro q hq
    have hq := List.mem_range.mp hq
    rw [a2 _ (by omega)]
    rfl
  show (match am_nth S (t + 1), am_nth S (u + 1) with
    | some (_, some (.inl (.int, n0, df, uf))), some (z1, some (.inl (.int, n1, dg, ug))) => if am_words (st.map zc) ≤ 8 ∧ ¬ Int32.ofInt sp < 0 ∧ ¬ Int32.ofInt dp < 0 ∧ ¬ Int32.ofInt k < 0 ∧ (Int32.ofInt sp).toNatClampNeg + (Int32.ofInt k).toNatClampNeg ≤ n0 ∧ (Int32.ofInt dp).toNatClampNeg + (Int32.ofInt k).toNatClampNeg ≤ n1 ∧ (List.range (Int32.ofInt k).toNatClampNeg).all (fun q => match am_fn df uf ((Int32.ofInt sp).toNatClampNeg + q) with | .int _ => true | _ => false) = true then some (st.map zc, am_set S (u + 1) (z1, some (.inl (.int, n1, dg, am_cpy (am_fn df uf) (Int32.ofInt sp).toNatClampNeg (Int32.ofInt dp).toNatClampNeg (Int32.ofInt k).toNatClampNeg ug)))) else none
    | _, _ => none) = _
  rw [a1, b1]
  show (if _ then _ else _) = _
  rw [c1, c3, c5, zw_ok, if_pos ⟨hw, c2, c4, c6, by omega, by omega, hall⟩]
/-- a switch over numbers that are told -/
theorem k_lsw {dflt off : Int} {ps : Array (Int × Int)} {len t : Nat} {x : Int} (hf : am_find pc M.2.2.2.2.2.1 = some (.lookupswitch dflt ps, len)) (hx : -2147483648 ≤ x ∧ x ≤ 2147483647) (hs : (ps.toList.zip (ps.toList.drop 1)).all (fun (a, next) => a.1 < next.1) = true) (ho : Op.lookupswitch.offset ps.toList dflt x = off) (ht : am_tgt pc off = some t) (kk : hG (zs zK) d M t l st H Q) : hG (zs zK) d M pc l (.inl x :: st) H Q := by
  refine h_same (fun S lc Q' hS g => ?_) kk
  refine G_ps 1 (pc' := t) (l' := lc) (st' := st.map zc) ?_ g
  unfold am_ps
  rw [hf]
  dsimp only
  have h1 : am_pure M.2.2.1 (.lookupswitch dflt ps) len pc lc ((.inl x :: st : List zv).map zc) = some (t, lc, st.map zc) := by
    show (if (ps.toList.zip (ps.toList.drop 1)).all (fun (a, next) => a.1 < next.1) = true then (am_tgt pc (Op.lookupswitch.offset ps.toList dflt (Int32.ofInt x).toInt)).map fun t => (t, lc, st.map zc) else none) = _
    rw [if_pos hs, z_t hx, ho, ht]
    rfl
  rw [h1]
  rfl
theorem lsw_no {ps : List (Int × Int)} {dflt x : Int} (h : ∀ q ∈ ps, q.1 ≠ x) : Op.lookupswitch.offset ps dflt x = dflt := by
  induction ps with
  | nil => rfl
  | cons q ps ih =>
    obtain ⟨a, o⟩ := q
    rw [Op.lookupswitch.offset_cons, if_neg (h (a, o) List.mem_cons_self)]
    exact ih (fun q hq => h q (List.mem_cons_of_mem _ hq))
end KR
