/-! reading as a machine of its own: tokens; tasks; steps -/
abbrev cL (x : Int) : Prop := (97 ≤ x ∧ x ≤ 122) ∨ (65 ≤ x ∧ x ≤ 90)
abbrev cW (x : Int) : Prop := cL x ∨ (48 ≤ x ∧ x ≤ 57)
abbrev cB (x : Int) : Prop := x = 32 ∨ x = 10
abbrev cS (x : Int) : Prop := x = 61 ∨ x = 124 ∨ x = 58 ∨ x = 59 ∨ x = 62 ∨ x = 40 ∨ x = 41 ∨ x = 95
/-- where blanks end -/
def skp (b : Nat → Int) : Nat → Nat → Nat
  | 0, i => i
  | f + 1, i => if cB (b i) then skp b f (i + 1) else i
/-- where a word ends -/
def wnd (b : Nat → Int) : Nat → Nat → Nat
  | 0, i => i
  | f + 1, i => if cW (b i) then wnd b f (i + 1) else i
/-- the number of a name's first bytes -/
def nmz (b : Nat → Int) (s : Nat) : Nat → Int
  | 0 => 0
  | k + 1 => z_lor (z_lshl (nmz b s k) 8) (z_i2l (b (s + k)))
def kwd (x : Int) : Int := if x = 1684108385 then 4 else if x = 6714734 then 5 else if x = 1920298085 then 6 else if x = 7102839 then 7 else 2
/-- kind (0 the end, 1 none, 2 small, 3 great, 4 to 7 words, else a sign), end, name of what begins at s -/
def tKd (b : Nat → Int) (n s : Nat) : Int := if n ≤ s then 0 else if cL (b s) then (if 6 < wnd b (n - s) s - s then 1 else if b s ≤ 90 then 3 else kwd (nmz b s (wnd b (n - s) s - s))) else if cS (b s) then b s else 1
def tEd (b : Nat → Int) (n s : Nat) : Nat := if n ≤ s then s else if cL (b s) then wnd b (n - s) s else s + 1
def tNm (b : Nat → Int) (n s : Nat) : Int := nmz b s (tEd b n s - s)
/-- where token i begins -/
def tS (b : Nat → Int) (n : Nat) : Nat → Nat
  | 0 => skp b n 0
  | i + 1 => skp b (n - tEd b n (tS b n i)) (tEd b n (tS b n i))
abbrev yx : Type := (Nat → Int) × Nat
def tk (Y : yx) (i : Nat) : Int := tKd Y.1 Y.2 (tS Y.1 Y.2 i)
def ts (Y : yx) (i : Nat) : Int := (tS Y.1 Y.2 i : Nat)
def tn (Y : yx) (i : Nat) : Int := tNm Y.1 Y.2 (tS Y.1 Y.2 i)
theorem skp_le (b : Nat → Int) : ∀ (f i : Nat), i ≤ skp b f i ∧ skp b f i ≤ i + f
  | 0, i => ⟨Nat.le_refl _, Nat.le_refl _⟩
  | f + 1, i => by
    unfold skp
    split
    · have h := skp_le b f (i + 1)
      omega
    · omega
theorem wnd_le (b : Nat → Int) : ∀ (f i : Nat), i ≤ wnd b f i ∧ wnd b f i ≤ i + f
  | 0, i => ⟨Nat.le_refl _, Nat.le_refl _⟩
  | f + 1, i => by
    unfold wnd
    split
    · have h := wnd_le b f (i + 1)
      omega
    · omega
theorem tEd_le {b : Nat → Int} {n s : Nat} (h : s ≤ n) : s ≤ tEd b n s ∧ tEd b n s ≤ n := by
  unfold tEd
  split
  · omega
  · split
    · have h := wnd_le b (n - s) s
      omega
    · omega
theorem tEd_lt {b : Nat → Int} {n s : Nat} (h : s < n) : s < tEd b n s := by
  unfold tEd
  rw [if_neg (by omega)]
  split
  · rename_i hl
    obtain ⟨f, hf⟩ : ∃ f, n - s = f + 1 := ⟨n - s - 1, by omega⟩
    rw [hf]
    unfold wnd
    rw [if_pos (Or.inl hl)]
    have := wnd_le b f (s + 1)
    omega
  · omega
theorem tS_le {b : Nat → Int} {n : Nat} : ∀ i : Nat, tS b n i ≤ n
  | 0 => by
    have := skp_le b n 0
    unfold tS
    omega
  | i + 1 => by
    have h1 := tEd_le (b := b) (tS_le (b := b) (n := n) i)
    have h2 := skp_le b (n - tEd b n (tS b n i)) (tEd b n (tS b n i))
    unfold tS
    omega
/-- the machine's rows: 0 numbers (0 token, 1 variables, 2 names, 3 types, 4 constructors, 5 functions, 6 rules, 7 laws, 8 what is read: 0 a rule, 1 a law, 2 a term); 1 types' names; 2 constructors' names, 3 types, 4 arities, 5 arguments; 6 functions' names, 7 types, 8 arities, 9 arguments; 10 variables' names, 11 types; 12 laws' names; 13 the signs read -/
abbrev rx : Type := Nat → Nat → Int
def xu (X : rx) (c j : Nat) (z : Int) : rx := fun k => if k = c then up (X c) j z else X k
theorem xu_eq (X : rx) (c j : Nat) (z : Int) : xu X c j z c = up (X c) j z := if_pos rfl
theorem xu_ne (X : rx) {c k : Nat} (j : Nat) (z : Int) (h : k ≠ c) : xu X c j z k = X k := if_neg h
/-- a task -/
abbrev tq : Type := Nat × Int × Int × Int
abbrev cf : Type := List tq × rx
def xi (X : rx) : Nat := (X 0 0).toNat
def adv (X : rx) : rx := xu X 0 0 (X 0 0 + 1)
def fl (Y : yx) (X : rx) (k : Int) : cf := ([(0, k, ts Y (xi X), 0)], X)
def miss (Y : yx) (X : rx) : cf := fl Y X (if tk Y (xi X) = 1 then 1 else 2)
def fndA (f : Nat → Int) (x : Int) : Nat → Nat → Int
  | 0, _ => -1
  | m + 1, k => if f k = x then (k : Int) else fndA f x m (k + 1)
def fnd (f : Nat → Int) (n x : Int) : Int := fndA f x n.toNat 0
def ar (X : rx) (s : Int) : Int := if 100 ≤ s then X 8 (s - 100).toNat else X 4 (s - 1).toNat
def aty9 (X : rx) (s k : Int) : Int := if 100 ≤ s then X 9 (4 * (s - 100) + k).toNat else X 5 (4 * (s - 1) + k).toNat
/-- a sign is read -/
def xput (X : rx) (s : Int) : rx := adv (xu (xu X 13 (X 0 2).toNat s) 0 2 (X 0 2 + 1))
def xvar (X : rx) (x ty : Int) : rx := xu (xu (xu X 10 (X 0 1).toNat x) 11 (X 0 1).toNat ty) 0 1 (X 0 1 + 1)
def stApp (Y : yx) (s aa rt ty d at9 : Int) (K : List tq) (X : rx) : cf := if at9 ≠ 0 ∧ 0 < aa then fl Y X 2 else if 0 ≤ ty ∧ rt ≠ ty then fl Y X 4 else if 40 ≤ X 0 2 then fl Y X 5 else ((3, s, 0, d) :: K, xput X s)
def stVar (Y : yx) (ty v : Int) (K : List tq) (X : rx) : cf := if v < 0 ∧ X 0 8 ≠ 1 then fl Y X 3 else if 0 ≤ v ∧ X 11 v.toNat ≠ ty then fl Y X 4 else if v < 0 ∧ 6 ≤ X 0 1 then fl Y X 5 else if 40 ≤ X 0 2 then fl Y X 5 else if v < 0 then (K, xput (xvar X (tn Y (xi X)) ty) (1000 + X 0 1)) else (K, xput X (1000 + v))
def vfd (Y : yx) (X : rx) : Int := if X 0 8 = 2 then -1 else fnd (X 10) (X 0 1) (tn Y (xi X))
def ffd (Y : yx) (X : rx) : Int := fnd (X 6) (X 0 5) (tn Y (xi X))
def cfd (Y : yx) (X : rx) : Int := fnd (X 2) (X 0 4) (tn Y (xi X))
def tfd (Y : yx) (X : rx) : Int := fnd (X 1) (X 0 3) (tn Y (xi X))
def lfd (Y : yx) (X : rx) : Int := fnd (X 12) (X 0 7) (tn Y (xi X))
def stTerm (Y : yx) (ty d at9 : Int) (K : List tq) (X : rx) : cf :=
  if tk Y (xi X) = 2 then (if ffd Y X < 0 then (if ty = -2 then fl Y X 2 else stVar Y ty (vfd Y X) K X) else stApp Y (100 + ffd Y X) (X 8 (ffd Y X).toNat) (X 7 (ffd Y X).toNat) ty d at9 K X)
  else if tk Y (xi X) = 3 then (if cfd Y X < 0 then fl Y X 3 else stApp Y (1 + cfd Y X) (X 4 (cfd Y X).toNat) (X 3 (cfd Y X).toNat) ty d at9 K X)
  else if tk Y (xi X) = 95 then (if ty = -2 then fl Y X 2 else if 40 ≤ X 0 2 then fl Y X 5 else (K, xput X 0))
  else if tk Y (xi X) = 40 then (if 10 ≤ d then fl Y X 5 else ((2, ty, d + 1, 0) :: (1, 41, 0, 0) :: K, adv X))
  else miss Y X
def stPcon (Y : yx) (ty d ins c : Int) (K : List tq) (X : rx) : cf := if c < 0 then fl Y X 3 else if 0 < X 4 c.toNat ∧ ins = 0 then fl Y X 2 else if X 3 c.toNat ≠ ty then fl Y X 4 else if 40 ≤ X 0 2 then fl Y X 5 else ((5, 1 + c, 0, d) :: K, xput X (1 + c))
def stPat (Y : yx) (ty d : Int) (K : List tq) (X : rx) : cf :=
  if tk Y (xi X) = 2 then (if 0 ≤ ffd Y X then fl Y X 2 else if 0 ≤ fnd (X 10) (X 0 1) (tn Y (xi X)) then fl Y X 3 else if 40 ≤ X 0 2 then fl Y X 5 else (K, xput (xvar X (tn Y (xi X)) ty) (1000 + X 0 1)))
  else if tk Y (xi X) = 3 then stPcon Y ty d 0 (cfd Y X) K X
  else if tk Y (xi X) = 40 then (if 10 ≤ d then fl Y X 5 else if tk Y (xi (adv X)) ≠ 3 then miss Y (adv X) else stPcon Y ty (d + 1) 1 (cfd Y (adv X)) ((1, 41, 0, 0) :: K) (adv X))
  else miss Y X
/-- a name of a sort is told: 3 type, 4 constructor, 5 function -/
def xtyp (X : rx) (x : Int) : rx := adv (xu (xu X 1 (X 0 3).toNat x) 0 3 (X 0 3 + 1))
def xcon (X : rx) (x ty : Int) : rx := adv (xu (xu (xu (xu X 2 (X 0 4).toNat x) 3 (X 0 4).toNat ty) 4 (X 0 4).toNat 0) 0 4 (X 0 4 + 1))
def xfun (X : rx) (x : Int) : rx := adv (xu (xu (xu (xu X 6 (X 0 5).toNat x) 7 (X 0 5).toNat (-1)) 8 (X 0 5).toNat 0) 0 5 (X 0 5 + 1))
def xcar (X : rx) (c ty : Int) : rx := adv (xu (xu X 5 (4 * c + X 4 c.toNat).toNat ty) 4 c.toNat (X 4 c.toNat + 1))
def xfar (X : rx) (f : Int) : rx := adv (xu (xu X 9 (4 * f + X 8 f.toNat).toNat (X 7 f.toNat)) 8 f.toNat (X 8 f.toNat + 1))
def stDec (Y : yx) (n : Int) (K : List tq) (X : rx) : cf :=
  if tk Y (xi X) = 0 then (K, xu X 0 9 n)
  else if tk Y (xi X) = 4 then (if tk Y (xi (adv X)) ≠ 3 then miss Y (adv X) else if 0 ≤ tfd Y (adv X) then fl Y (adv X) 3 else if 6 ≤ X 0 3 then fl Y (adv X) 5 else ((1, 61, 0, 0) :: (7, X 0 3, 0, 0) :: (9, X 0 3, 0, 0) :: (1, 59, 0, 0) :: (6, n + 1, 0, 0) :: K, xtyp (adv X) (tn Y (xi (adv X)))))
  else if tk Y (xi X) = 5 then (if tk Y (xi (adv X)) ≠ 2 then miss Y (adv X) else if 0 ≤ ffd Y (adv X) then fl Y (adv X) 3 else if 16 ≤ X 0 5 then fl Y (adv X) 5 else ((1, 58, 0, 0) :: (10, X 0 5, 0, 0) :: (11, X 0 5, 0, 0) :: (1, 59, 0, 0) :: (6, n + 1, 0, 0) :: K, xfun (adv X) (tn Y (xi (adv X)))))
  else if tk Y (xi X) = 6 then (if 40 ≤ X 0 6 then fl Y X 5 else if tk Y (xi (adv X)) ≠ 2 then miss Y (adv X) else if ffd Y (adv X) < 0 then fl Y (adv X) 3 else ((5, 100 + ffd Y (adv X), 0, 0) :: (1, 61, 0, 0) :: (12, ffd Y (adv X), 0, 0) :: (13, 0, 0, 0) :: (1, 59, 0, 0) :: (6, n + 1, 0, 0) :: K, xput (xu (xu (xu (adv X) 0 1 0) 0 2 0) 0 8 0) (100 + ffd Y (adv X))))
  else if tk Y (xi X) = 7 then (if tk Y (xi (adv X)) ≠ 2 then miss Y (adv X) else if 0 ≤ lfd Y (adv X) then fl Y (adv X) 3 else if 16 ≤ X 0 7 then fl Y (adv X) 5 else ((1, 58, 0, 0) :: (2, -2, 0, 0) :: (1, 61, 0, 0) :: (14, 0, 0, 0) :: (15, 0, 0, 0) :: (1, 59, 0, 0) :: (6, n + 1, 0, 0) :: K, adv (xu (xu (xu (xu (adv X) 12 (X 0 7).toNat (tn Y (xi (adv X)))) 0 1 0) 0 2 0) 0 8 1)))
  else miss Y X
/-- the type of the first sign -/
def thd (X : rx) : Int := if 1000 ≤ X 13 0 then X 11 (X 13 0 - 1000).toNat else if 100 ≤ X 13 0 then X 7 (X 13 0 - 100).toNat else if X 13 0 = 0 then -1 else X 3 (X 13 0 - 1).toNat
/-- a side that was read is kept, in a row of its own: rules' left 100 + 4 r, right 101 + 4 r, laws' 102 + 4 l, 103 + 4 l -/
def xsd (X : rx) (s : Nat) : rx := fun k => if k < 100 then X k else if k = s then (fun j => if j = 0 then X 0 2 else if j < 1000 then X 13 (j - 1) else if j = 1000 then X 0 1 else X 11 (j - 1001)) else X k
def step (Y : yx) (q : cf) : cf := match q with
  | ([], X) => ([], X)
  | ((0, a, b, c) :: K, X) => ((0, a, b, c) :: K, X)
  | ((1, a, _, _) :: K, X) => if tk Y (xi X) = a then (K, adv X) else miss Y X
  | ((2, a, b, c) :: K, X) => stTerm Y a b c K X
  | ((3, a, b, c) :: K, X) => if b < ar X a then ((2, aty9 X a b, c, 1) :: (3, a, b + 1, c) :: K, X) else (K, X)
  | ((4, a, b, _) :: K, X) => stPat Y a b K X
  | ((5, a, b, c) :: K, X) => if b < ar X a then ((4, aty9 X a b, c, 0) :: (5, a, b + 1, c) :: K, X) else (K, X)
  | ((6, a, _, _) :: K, X) => stDec Y a K X
  | ((7, a, _, _) :: K, X) => if tk Y (xi X) ≠ 3 then miss Y X else if 0 ≤ cfd Y X then fl Y X 3 else if 16 ≤ X 0 4 then fl Y X 5 else ((8, X 0 4, 0, 0) :: K, xcon X (tn Y (xi X)) a)
  | ((8, a, b, _) :: K, X) => if tk Y (xi X) = 3 then (if tfd Y X < 0 then fl Y X 3 else if b = 3 then fl Y X 5 else ((8, a, b + 1, 0) :: K, xcar X a (tfd Y X))) else (K, X)
  | ((9, a, _, _) :: K, X) => if tk Y (xi X) = 124 then ((7, a, 0, 0) :: (9, a, 0, 0) :: K, adv X) else (K, X)
  | ((10, a, _, _) :: K, X) => if tk Y (xi X) ≠ 3 then miss Y X else if tfd Y X < 0 then fl Y X 3 else (K, adv (xu X 7 a.toNat (tfd Y X)))
  | ((11, a, b, _) :: K, X) => if tk Y (xi X) = 62 then (if b = 4 then fl Y X 5 else ((10, a, 0, 0) :: (11, a, b + 1, 0) :: K, xfar X a)) else (K, X)
  | ((12, a, _, _) :: K, X) => ((2, X 7 a.toNat, 0, 0) :: K, xu (xsd X (4 * (X 0 6).toNat + 100)) 0 2 0)
  | ((13, _, _, _) :: K, X) => (K, xu (xsd X (4 * (X 0 6).toNat + 101)) 0 6 (X 0 6 + 1))
  | ((14, _, _, _) :: K, X) => ((2, thd X, 0, 0) :: K, xu (xsd X (4 * (X 0 7).toNat + 102)) 0 2 0)
  | ((_, _, _, _) :: K, X) => (K, xu (xsd X (4 * (X 0 7).toNat + 103)) 0 7 (X 0 7 + 1))
def iter (Y : yx) : Nat → cf → cf
  | 0, q => q
  | m + 1, q => iter Y m (step Y q)
/-- one comes to the other -/
def rch (Y : yx) (q q' : cf) : Prop := ∃ m, iter Y m q = q'
theorem rch_rf (Y : yx) (q : cf) : rch Y q q := ⟨0, rfl⟩
theorem iter_add (Y : yx) : ∀ (m k : Nat) (q : cf), iter Y (k + m) q = iter Y k (iter Y m q)
  | 0, _, _ => rfl
  | m + 1, k, q => iter_add Y m k (step Y q)
theorem rch_tr {Y : yx} {a b c : cf} (h1 : rch Y a b) (h2 : rch Y b c) : rch Y a c := by
  obtain ⟨m, rfl⟩ := h1
  obtain ⟨k, rfl⟩ := h2
  exact ⟨k + m, iter_add Y m k a⟩
theorem rch_st {Y : yx} {a b c : cf} (h1 : rch Y a b) (h2 : step Y b = c) : rch Y a c := rch_tr h1 ⟨1, h2⟩
/-- an end: nothing is left to do, or there was a fault -/
def fin (q : cf) : Prop := q.1 = [] ∨ ∃ a b c K, q.1 = (0, a, b, c) :: K
theorem fin_iter {Y : yx} {q : cf} (h : fin q) : ∀ m, iter Y m q = q
  | 0 => rfl
  | m + 1 => by
    have h1 : step Y q = q := by
      obtain ⟨K, X⟩ := q
      rcases h with h | ⟨a, b, c, K', h⟩
      · have h : K = [] := h
        subst h
        rfl
      · have h : K = (0, a, b, c) :: K' := h
        subst h
        rfl
    show iter Y m (step Y q) = q
    rw [h1]
    exact fin_iter h m
theorem rch_fin {Y : yx} {q a b : cf} (h1 : rch Y q a) (h2 : rch Y q b) (ha : fin a) (hb : fin b) : a = b := by
  obtain ⟨m, rfl⟩ := h1
  obtain ⟨k, rfl⟩ := h2
  rcases Nat.le_total m k with h | h
  · obtain ⟨j, rfl⟩ : ∃ j, k = j + m := ⟨k - m, by omega⟩
    rw [iter_add] at hb ⊢
    exact (fin_iter ha j).symm
  · obtain ⟨j, rfl⟩ : ∃ j, m = j + k := ⟨m - k, by omega⟩
    rw [iter_add] at ha ⊢
    exact fin_iter hb j
