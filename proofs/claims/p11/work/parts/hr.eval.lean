/-! evaluation, told by rows of signs -/
def ga (l : List Int) (i : Nat) : Int := l.getD i 0
/-- behind the terms that are wanted -/
def bhf (ar : Int → Int) (a : Nat → Int) : Nat → Nat → Int → Nat
  | 0, p, _ => p
  | f + 1, p, m => if 0 < m then bhf ar a f (p + 1) (m + (ar (a p) - 1)) else p
def bh (ar : Int → Int) (a : Nat → Int) (p : Nat) : Nat := bhf ar a 400 p 1
theorem bhf_tm {ar : Int → Int} {ok : Int → Prop} {a : Nat → Int} : ∀ {k f p n : Nat}, tm ar ok a k p n → k ≤ f → bhf ar a f p (n : Int) = p + k
  | 0, f, p, n, h, _ => by
    have h : n = 0 := h
    subst h
    cases f with
    | zero => rfl
    | succ f =>
      show (if (0 : Int) < ((0 : Nat) : Int) then _ else p) = _
      rw [if_neg (by decide)]
      rfl
  | k + 1, 0, _, _, _, hf => absurd hf (by omega)
  | k + 1, f + 1, p, n, ⟨h0, _, m, h2, _, h4⟩, hf => by
    show (if (0 : Int) < (n : Int) then bhf ar a f (p + 1) ((n : Int) + (ar (a p) - 1)) else p) = _
    rw [if_pos (by omega), h2, show (n : Int) + ((m : Int) - 1) = ((n - 1 + m : Nat) : Int) by omega, bhf_tm h4 (by omega)]
    omega
theorem bh_tm {ar : Int → Int} {ok : Int → Prop} {a : Nat → Int} {k p : Nat} (h : tm ar ok a k p 1) (hk : k ≤ 400) : bh ar a p = p + k := bhf_tm h hk
/-- where pattern k is matched, when all before it fit -/
def fpos (ar : Int → Int) (L a : Nat → Int) (p : Nat) : Nat → Nat
  | 0 => p
  | k + 1 => if 1000 ≤ L k then bh ar a (fpos ar L a p k) else fpos ar L a p k + 1
/-- j patterns are left: 0 fits, 1 unfinished, 2 waits, 3 misses -/
def fitR (ar : Int → Int) (L a : Nat → Int) (kl p : Nat) : Nat → Int × Nat
  | 0 => (0, 0)
  | j + 1 => if 1000 ≤ L (kl - (j + 1)) ∨ a (fpos ar L a p (kl - (j + 1))) = L (kl - (j + 1)) then fitR ar L a kl p j else if a (fpos ar L a p (kl - (j + 1))) = 0 then (1, 0) else if 100 ≤ a (fpos ar L a p (kl - (j + 1))) then (2, fpos ar L a p (kl - (j + 1))) else (3, 0)
/-- what a variable is -/
def bF (ar : Int → Int) (L a : Nat → Int) (p : Nat) : Nat → Nat → Nat
  | 0, _ => 0
  | k + 1, v => if L k = 1000 + (v : Int) then fpos ar L a p k else bF ar L a p k v
def LL (X : rx) (r : Nat) (k : Nat) : Int := X (4 * r + 100) (k + 2)
def kL (X : rx) (r : Nat) : Nat := (X (4 * r + 100) 0 - 1).toNat
def fR (ar : Int → Int) (X : rx) (a : Nat → Int) (c r : Nat) : Int × Nat := fitR ar (LL X r) a (kL X r) (c + 1) (kL X r)
/-- the first rule that does not miss; j rules are left -/
def mtR (ar : Int → Int) (X : rx) (a : Nat → Int) (c R : Nat) : Nat → Int × Nat × Nat
  | 0 => (1, 0, 0)
  | j + 1 => if X (4 * (R - (j + 1)) + 100) 1 = a c ∧ (fR ar X a c (R - (j + 1))).1 ≠ 3 then ((fR ar X a c (R - (j + 1))).1, (fR ar X a c (R - (j + 1))).2, R - (j + 1)) else mtR ar X a c R j
def nR (X : rx) : Nat := (X 0 6).toNat
def mR (ar : Int → Int) (X : rx) (a : Nat → Int) (c : Nat) : Int × Nat × Nat := mtR ar X a c (nR X) (nR X)
/-- the call that is worked on: how, where, by which rule -/
def wtR (ar : Int → Int) (X : rx) (a : Nat → Int) : Nat → Nat → Int × Nat × Nat
  | 0, c => (1, c, 0)
  | f + 1, c => if (mR ar X a c).1 = 2 then wtR ar X a f (mR ar X a c).2.1 else ((mR ar X a c).1, c, (mR ar X a c).2.2)
def sl (a : Nat → Int) (i j : Nat) : List Int := (List.range (j - i)).map (fun x => a (i + x))
/-- a rule's right side, filled -/
def midL (ar : Int → Int) (X : rx) (a : Nat → Int) (c r : Nat) : Nat → List Int
  | 0 => []
  | k + 1 => midL ar X a c r k ++ (if 1000 ≤ X (4 * r + 101) (k + 1) then sl a (bF ar (LL X r) a (c + 1) (kL X r) (X (4 * r + 101) (k + 1) - 1000).toNat) (bh ar a (bF ar (LL X r) a (c + 1) (kL X r) (X (4 * r + 101) (k + 1) - 1000).toNat)) else [X (4 * r + 101) (k + 1)])
def mkL (ar : Int → Int) (X : rx) (a : Nat → Int) (n c : Nat) (how : Int) (r : Nat) : List Int := sl a 0 c ++ (if how = 1 then [0] else midL ar X a c r (X (4 * r + 101) 0).toNat) ++ sl a (bh ar a c) n
/-- the first call; j signs are left -/
def fcF (a : Nat → Int) (n : Nat) : Nat → Nat
  | 0 => n
  | j + 1 => if 100 ≤ a (n - (j + 1)) ∧ a (n - (j + 1)) < 1000 then n - (j + 1) else fcF a n j
def fc (l : List Int) : Nat := fcF (ga l) l.length l.length
def stL (ar : Int → Int) (X : rx) (l : List Int) : List Int := mkL ar X (ga l) l.length (wtR ar X (ga l) l.length (fc l)).2.1 (wtR ar X (ga l) l.length (fc l)).1 (wtR ar X (ga l) l.length (fc l)).2.2
/-- so many steps are left, so many taken: what it comes to, how many were taken, the row -/
def evF (ar : Int → Int) (X : rx) : Nat → List Int → Int → Int × Int × List Int
  | 0, l, t => (if fc l = l.length then 0 else 1, t, l)
  | s + 1, l, t => if fc l = l.length then (0, t, l) else if 120 < (stL ar X l).length then (2, t, l) else evF ar X s (stL ar X l) (t + 1)
theorem sl_len (a : Nat → Int) (i j : Nat) : (sl a i j).length = j - i := by
  unfold sl
  rw [List.length_map, List.length_range]
theorem sl_at (a : Nat → Int) {i j x : Nat} (h : x < j - i) : ga (sl a i j) x = a (i + x) := by
  unfold ga sl
  rw [List.getD_eq_getElem?_getD, List.getElem?_map, List.getElem?_range h]
  rfl
theorem ga_app_l {l m : List Int} {x : Nat} (h : x < l.length) : ga (l ++ m) x = ga l x := by
  unfold ga
  rw [List.getD_eq_getElem?_getD, List.getD_eq_getElem?_getD, List.getElem?_append_left h]
theorem ga_app_r {l m : List Int} {x : Nat} (h : l.length ≤ x) : ga (l ++ m) x = ga m (x - l.length) := by
  unfold ga
  rw [List.getD_eq_getElem?_getD, List.getD_eq_getElem?_getD, List.getElem?_append_right h]
theorem ga_one (z : Int) : ga [z] 0 = z := rfl
/-- closed rows -/
def cR9 (cn fn s : Int) : Prop := m_sg cn fn 0 s
/-- a rule that was told, in rows -/
def RW9r (ar : Int → Int) (cn fn : Int) (X : rx) (r : Nat) : Prop := ∃ f kl kr q : Nat, (X (4 * r + 100) 1 = 100 + (f : Int) ∧ (f : Int) < fn) ∧ (X (4 * r + 100) 0 = ((kl + 1 : Nat) : Int) ∧ kl ≤ 39) ∧ (X (4 * r + 101) 0 = (kr : Int) ∧ kr ≤ 40) ∧ ar (100 + (f : Int)) = q ∧ tm ar (m_sp cn) (LL X r) kl 0 q ∧ tm ar (m_sg cn fn 40) (fun k => X (4 * r + 101) (k + 1)) kr 0 1 ∧ ∀ x, x < kr → 1000 ≤ X (4 * r + 101) (x + 1) → ∃ y, y < kl ∧ LL X r y = X (4 * r + 101) (x + 1)
section EV
variable {ar : Int → Int} {ok : Int → Prop} {cn fn : Int} {X : rx} {a L : Nat → Int} {p kl e : Nat}
theorem tm_sub9 {N i n q : Nat} (h : tm ar ok a N i n) (hq : i ≤ q ∧ q < i + N) : ∃ k : Nat, tm ar ok a k q 1 ∧ q + k ≤ i + N := by
  obtain ⟨m, -, g⟩ := tm_cut (p := q - i) h (by omega)
  rw [show i + (q - i) = q by omega] at g
  have hm : m ≠ 0 := by
    intro e9
    subst e9
    have := tm_z g
    omega
  obtain ⟨k1, k2, e9, g1, -⟩ := tm_split (n := 1) (n2 := m - 1) (by rw [show 1 + (m - 1) = m by omega]; exact g)
  exact ⟨k1, g1, by omega⟩
/-- the patterns from i on stand against the row from their place on -/
def FS (ar : Int → Int) (ok : Int → Prop) (cn : Int) (L a : Nat → Int) (p kl e i : Nat) : Prop := ∃ kk m : Nat, tm ar ok a kk (fpos ar L a p i) m ∧ tm ar (m_sp cn) L (kl - i) i m ∧ fpos ar L a p i + kk = e
/-- all patterns before i fit -/
def MU (ar : Int → Int) (L a : Nat → Int) (p i : Nat) : Prop := ∀ j, j < i → 1000 ≤ L j ∨ a (fpos ar L a p j) = L j
theorem FS_one {i : Nat} (h : FS ar ok cn L a p kl e i) (hi : i < kl) : ∃ kb : Nat, tm ar ok a kb (fpos ar L a p i) 1 ∧ fpos ar L a p i + kb ≤ e ∧ 1 ≤ kb := by
  obtain ⟨kk, m, t1, t2, t3⟩ := h
  rw [show kl - i = (kl - (i + 1)) + 1 by omega] at t2
  obtain ⟨h0, -⟩ := t2
  obtain ⟨k1, k2, e9, g1, -⟩ := tm_split (n := 1) (n2 := m - 1) (by rw [show 1 + (m - 1) = m by omega]; exact t1)
  exact ⟨k1, g1, by omega, tm_le g1⟩
theorem FS_lt {i : Nat} (h : FS ar ok cn L a p kl e i) (hi : i < kl) : fpos ar L a p i < e ∧ ok (a (fpos ar L a p i)) := by
  obtain ⟨kb, h1, h2, h3⟩ := FS_one h hi
  refine ⟨by omega, ?_⟩
  have := tm_ok h1 0 (by omega)
  rw [Nat.add_zero] at this
  exact this
theorem FS_var {i : Nat} (h : FS ar ok cn L a p kl e i) (hi : i < kl) (hv : 1000 ≤ L i) (h0 : ∀ s, 1000 ≤ s → ar s = 0) (he : e ≤ 400) : FS ar ok cn L a p kl e (i + 1) ∧ ∃ kb : Nat, tm ar ok a kb (fpos ar L a p i) 1 ∧ fpos ar L a p (i + 1) = fpos ar L a p i + kb ∧ fpos ar L a p i + kb ≤ e := by
  obtain ⟨kk, m, t1, t2, t3⟩ := h
  rw [show kl - i = (kl - (i + 1)) + 1 by omega] at t2
  obtain ⟨hm, -, q, q1, -, q3⟩ := t2
  rw [h0 _ hv] at q1
  obtain ⟨k1, k2, e9, g1, g2⟩ := tm_split (n := 1) (n2 := m - 1) (by rw [show 1 + (m - 1) = m by omega]; exact t1)
  have ef : fpos ar L a p (i + 1) = fpos ar L a p i + k1 := by
    show (if 1000 ≤ L i then bh ar a (fpos ar L a p i) else _) = _
    rw [if_pos hv, bh_tm g1 (by omega)]
  refine ⟨⟨k2, m - 1, by rw [ef]; exact g2, by rw [show m - 1 + q = m - 1 by omega] at q3; exact q3, by omega⟩, k1, g1, ef, by omega⟩
theorem FS_eq {i : Nat} (h : FS ar ok cn L a p kl e i) (hi : i < kl) (hn : ¬ 1000 ≤ L i) (he : a (fpos ar L a p i) = L i) : FS ar ok cn L a p kl e (i + 1) ∧ fpos ar L a p (i + 1) = fpos ar L a p i + 1 := by
  obtain ⟨kk, m, t1, t2, t3⟩ := h
  rw [show kl - i = (kl - (i + 1)) + 1 by omega] at t2
  obtain ⟨hm, -, q, q1, -, q3⟩ := t2
  have ef : fpos ar L a p (i + 1) = fpos ar L a p i + 1 := by
    show (if 1000 ≤ L i then bh ar a (fpos ar L a p i) else fpos ar L a p i + 1) = _
    rw [if_neg hn]
  cases kk with
  | zero => exact absurd (show m = 0 from t1) hm
  | succ kk =>
    obtain ⟨-, -, q', r1, -, r3⟩ := t1
    rw [he, q1] at r1
    have eq9 : q = q' := by omega
    subst eq9
    exact ⟨⟨kk, m - 1 + q, by rw [ef]; exact r3, q3, by omega⟩, ef⟩
theorem FS_all (h : FS ar ok cn L a p kl e 0) (h0 : ∀ s, 1000 ≤ s → ar s = 0) (he : e ≤ 400) : ∀ {i : Nat}, i ≤ kl → MU ar L a p i → FS ar ok cn L a p kl e i ∧ p ≤ fpos ar L a p i
  | 0, _, _ => ⟨h, Nat.le_refl _⟩
  | i + 1, hi, hm => by
    obtain ⟨g1, g2⟩ := FS_all h h0 he (i := i) (by omega) (fun j hj => hm j (by omega))
    by_cases q : 1000 ≤ L i
    · obtain ⟨g3, kb, -, g4, -⟩ := FS_var g1 (by omega) q h0 he
      exact ⟨g3, by omega⟩
    · obtain ⟨g3, g4⟩ := FS_eq g1 (by omega) q ((hm i (by omega)).resolve_left q)
      exact ⟨g3, by omega⟩
theorem fitR_go {i : Nat} (hi : i < kl) (h : 1000 ≤ L i ∨ a (fpos ar L a p i) = L i) : fitR ar L a kl p (kl - i) = fitR ar L a kl p (kl - (i + 1)) := by
  rw [show kl - i = (kl - (i + 1)) + 1 by omega]
  show (if 1000 ≤ L (kl - (kl - (i + 1) + 1)) ∨ a (fpos ar L a p (kl - (kl - (i + 1) + 1))) = L (kl - (kl - (i + 1) + 1)) then _ else _) = _
  rw [show kl - (kl - (i + 1) + 1) = i by omega, if_pos h]
theorem fitR_st {i : Nat} (hi : i < kl) (h : ¬ (1000 ≤ L i ∨ a (fpos ar L a p i) = L i)) : fitR ar L a kl p (kl - i) = if a (fpos ar L a p i) = 0 then (1, 0) else if 100 ≤ a (fpos ar L a p i) then (2, fpos ar L a p i) else (3, 0) := by
  rw [show kl - i = (kl - (i + 1)) + 1 by omega]
  show (if 1000 ≤ L (kl - (kl - (i + 1) + 1)) ∨ a (fpos ar L a p (kl - (kl - (i + 1) + 1))) = L (kl - (kl - (i + 1) + 1)) then _ else _) = _
  rw [show kl - (kl - (i + 1) + 1) = i by omega, if_neg h]
theorem fitR_end : fitR ar L a kl p (kl - kl) = (0, 0) := by
  rw [Nat.sub_self]
  rfl
/-- how the matching went -/
theorem fitR_how : ∀ {i : Nat}, i ≤ kl → MU ar L a p i → ((fitR ar L a kl p (kl - i)).1 = 0 ∧ MU ar L a p kl) ∨ (fitR ar L a kl p (kl - i)).1 = 1 ∨ ((fitR ar L a kl p (kl - i)).1 = 2 ∧ ∃ y, y < kl ∧ MU ar L a p y ∧ (fitR ar L a kl p (kl - i)).2 = fpos ar L a p y ∧ 100 ≤ a (fpos ar L a p y)) ∨ (fitR ar L a kl p (kl - i)).1 = 3 := by
  intro i hi hm
  obtain ⟨n, hn⟩ : ∃ n, kl - i = n := ⟨_, rfl⟩
  induction n generalizing i with
  | zero =>
    have e9 : i = kl := by omega
    subst e9
    rw [fitR_end]
    exact Or.inl ⟨rfl, hm⟩
  | succ n ih =>
    by_cases q : 1000 ≤ L i ∨ a (fpos ar L a p i) = L i
    · rw [fitR_go (by omega) q]
      exact ih (i := i + 1) (by omega) (fun j hj => by
        by_cases e9 : j = i
        · rw [e9]
          exact q
        · exact hm j (by omega)) (by omega)
    · rw [fitR_st (by omega) q]
      by_cases q1 : a (fpos ar L a p i) = 0
      · rw [if_pos q1]
        exact Or.inr (Or.inl rfl)
      · rw [if_neg q1]
        by_cases q2 : 100 ≤ a (fpos ar L a p i)
        · rw [if_pos q2]
          exact Or.inr (Or.inr (Or.inl ⟨rfl, i, by omega, hm, rfl, q2⟩))
        · rw [if_neg q2]
          exact Or.inr (Or.inr (Or.inr rfl))
theorem bF_at {v : Nat} : ∀ {k : Nat}, (∃ y, y < k ∧ L y = 1000 + (v : Int)) → ∃ y, y < k ∧ L y = 1000 + (v : Int) ∧ bF ar L a p k v = fpos ar L a p y
  | 0, ⟨_, h, _⟩ => absurd h (Nat.not_lt_zero _)
  | k + 1, ⟨y, h1, h2⟩ => by
    by_cases q : L k = 1000 + (v : Int)
    · exact ⟨k, by omega, q, if_pos q⟩
    · obtain ⟨y2, g1, g2, g3⟩ := bF_at (k := k) ⟨y, by
        by_cases e9 : y = k
        · rw [e9] at h2
          exact absurd h2 q
        · omega, h2⟩
      refine ⟨y2, by omega, g2, ?_⟩
      show (if L k = 1000 + (v : Int) then _ else bF ar L a p k v) = _
      rw [if_neg q]
      exact g3
end EV
/-- a call's place, and its rule -/
def ST (ar : Int → Int) (ok : Int → Prop) (a : Nat → Int) (n c : Nat) : Prop := (∃ k : Nat, tm ar ok a k c 1 ∧ c + k ≤ n) ∧ 100 ≤ a c ∧ a c < 1000
section EW
variable {ar : Int → Int} {cn fn : Int} {X : rx} {a : Nat → Int} {n : Nat}
/-- a rule's patterns against a call's arguments -/
theorem FS_0 {c r k : Nat} (hr : RW9r ar cn fn X r) (h0 : X (4 * r + 100) 1 = a c) (hc : tm ar (m_sg cn fn 0) a k c 1) : FS ar (m_sg cn fn 0) cn (LL X r) a (c + 1) (kL X r) (c + k) 0 ∧ kL X r ≤ 39 ∧ X (4 * r + 100) 0 = ((kL X r + 1 : Nat) : Int) := by
  obtain ⟨f, kl, kr, q, ⟨f1, f2⟩, ⟨f3, f4⟩, -, f5, f6, -, -⟩ := hr
  have ek : kL X r = kl := by
    unfold kL
    rw [f3]
    omega
  cases k with
  | zero => exact absurd (show (1 : Nat) = 0 from hc) (by decide)
  | succ k =>
    obtain ⟨-, -, m, h2, -, h4⟩ := hc
    rw [← h0, f1, f5] at h2
    have em : q = m := by omega
    subst em
    rw [ek]
    refine ⟨⟨k, q, ?_, by rw [Nat.sub_zero]; exact f6, ?_⟩, f4, f3⟩
    · show tm ar _ a k (c + 1) q
      rw [show 1 - 1 + q = q by omega] at h4
      exact h4
    · show c + 1 + k = c + (k + 1)
      omega
theorem mtR_ok {c k R : Nat} (hR : ∀ r : Nat, r < R → RW9r ar cn fn X r) (hf : fn ≤ 16 ∧ cn ≤ 16) (h0 : ∀ s, 1000 ≤ s → ar s = 0) (hc : tm ar (m_sg cn fn 0) a k c 1) (he : c + k ≤ 400) : ∀ {j : Nat}, j ≤ R → ((mtR ar X a c R j).1 = 0 ∧ (mtR ar X a c R j).2.2 < R ∧ X (4 * (mtR ar X a c R j).2.2 + 100) 1 = a c ∧ MU ar (LL X (mtR ar X a c R j).2.2) a (c + 1) (kL X (mtR ar X a c R j).2.2)) ∨ (mtR ar X a c R j).1 = 1 ∨ ((mtR ar X a c R j).1 = 2 ∧ (c < (mtR ar X a c R j).2.1 ∧ (mtR ar X a c R j).2.1 < c + k) ∧ 100 ≤ a (mtR ar X a c R j).2.1 ∧ a (mtR ar X a c R j).2.1 < 1000)
  | 0, _ => Or.inr (Or.inl rfl)
  | j + 1, hj => by
    unfold mtR
    by_cases q : X (4 * (R - (j + 1)) + 100) 1 = a c ∧ (fR ar X a c (R - (j + 1))).1 ≠ 3
    · rw [if_pos q]
      obtain ⟨g1, -, -⟩ := FS_0 (hR (R - (j + 1)) (by omega)) q.1 hc
      have g2 := fitR_how (ar := ar) (L := LL X (R - (j + 1))) (a := a) (p := c + 1) (kl := kL X (R - (j + 1))) (i := 0) (Nat.zero_le _) (fun j hj => absurd hj (Nat.not_lt_zero _))
      rw [Nat.sub_zero] at g2
      rcases g2 with ⟨g2, g3⟩ | g2 | ⟨g2, y, y1, y2, y3, y4⟩ | g2
      · exact Or.inl ⟨g2, by show R - (j + 1) < R; omega, q.1, g3⟩
      · exact Or.inr (Or.inl g2)
      · obtain ⟨g5, g6⟩ := FS_all g1 h0 he (i := y) (by omega) y2
        obtain ⟨g7, g8⟩ := FS_lt g5 y1
        refine Or.inr (Or.inr ⟨g2, ?_⟩)
        show (c < (fR ar X a c (R - (j + 1))).2 ∧ (fR ar X a c (R - (j + 1))).2 < c + k) ∧ 100 ≤ a (fR ar X a c (R - (j + 1))).2 ∧ a (fR ar X a c (R - (j + 1))).2 < 1000
        unfold fR
        rw [y3]
        unfold m_sg at g8
        omega
      · exact absurd g2 q.2
    · rw [if_neg q]
      exact mtR_ok hR hf h0 hc he (j := j) (by omega)
end EW
section EX
variable {ar : Int → Int} {ok : Int → Prop} {L g : Nat → Int} {p kl y i : Nat}
/-- what the variables of the first y patterns are -/
def BV (ar : Int → Int) (L g : Nat → Int) (p y : Nat) (ba : Nat → Int) : Prop := ∀ v : Nat, (∃ j, j < y ∧ L j = 1000 + (v : Int)) → ba v = ((bF ar L g p y v : Nat) : Int)
theorem fpos_v {k1 : Nat} (h : 1000 ≤ L y) (hi : i = fpos ar L g p y) (ht : tm ar ok g k1 i 1) (hk : k1 ≤ 400) : i + k1 = fpos ar L g p (y + 1) := by
  show _ = (if 1000 ≤ L y then bh ar g (fpos ar L g p y) else _)
  rw [if_pos h, ← hi, bh_tm ht hk]
theorem fpos_c (h : ¬ 1000 ≤ L y) (hi : i = fpos ar L g p y) : i + 1 = fpos ar L g p (y + 1) := by
  show _ = (if 1000 ≤ L y then bh ar g (fpos ar L g p y) else fpos ar L g p y + 1)
  rw [if_neg h, ← hi]
theorem MU_0 : MU ar L g p 0 := fun _ h => absurd h (Nat.not_lt_zero _)
theorem MU_s (h : MU ar L g p y) (hy : 1000 ≤ L y ∨ g (fpos ar L g p y) = L y) : MU ar L g p (y + 1) := fun j hj => by
  by_cases e : j = y
  · rw [e]
    exact hy
  · exact h j (by omega)
theorem BV_0 {ba : Nat → Int} : BV ar L g p 0 ba := fun _ ⟨_, h, _⟩ => absurd h (Nat.not_lt_zero _)
theorem BV_v {ba : Nat → Int} (h : BV ar L g p y ba) (hv : 1000 ≤ L y) (hi : i = fpos ar L g p y) : BV ar L g p (y + 1) (up ba (L y - 1000).toNat (i : Int)) := by
  intro v hv9
  show _ = (((if L y = 1000 + (v : Int) then fpos ar L g p y else bF ar L g p y v) : Nat) : Int)
  by_cases e : L y = 1000 + (v : Int)
  · rw [if_pos e, show (L y - 1000).toNat = v by omega, up_eq, hi]
  · rw [if_neg e, up_ne _ _ (by omega)]
    obtain ⟨j, h1, h2⟩ := hv9
    exact h v ⟨j, by
      by_cases e9 : j = y
      · rw [e9] at h2
        exact absurd h2 e
      · omega, h2⟩
theorem BV_c {ba : Nat → Int} (h : BV ar L g p y ba) (hv : ¬ 1000 ≤ L y) : BV ar L g p (y + 1) ba := by
  intro v hv9
  show _ = (((if L y = 1000 + (v : Int) then fpos ar L g p y else bF ar L g p y v) : Nat) : Int)
  rw [if_neg (by omega)]
  obtain ⟨j, h1, h2⟩ := hv9
  exact h v ⟨j, by
    by_cases e9 : j = y
    · rw [e9] at h2
      omega
    · omega, h2⟩
theorem fitR_mu : ∀ {y : Nat}, y ≤ kl → MU ar L g p y → fitR ar L g kl p kl = fitR ar L g kl p (kl - y)
  | 0, _, _ => by rw [Nat.sub_zero]
  | y + 1, hy, h => by
    rw [fitR_mu (y := y) (by omega) (fun j hj => h j (by omega)), fitR_go (by omega) (h y (by omega))]
theorem fit_0 (h : MU ar L g p kl) : fitR ar L g kl p kl = (0, 0) := by
  rw [fitR_mu (Nat.le_refl _) h, fitR_end]
theorem fit_n (hm : MU ar L g p y) (hy : y < kl) (hi : i = fpos ar L g p y) (h1 : ¬ 1000 ≤ L y) (h2 : g i ≠ L y) : fitR ar L g kl p kl = if g i = 0 then (1, 0) else if 100 ≤ g i then (2, i) else (3, 0) := by
  rw [fitR_mu (Nat.le_of_lt hy) hm, fitR_st hy (by rw [← hi]; exact fun q => q.elim h1 h2), ← hi]
theorem fit_1 (hm : MU ar L g p y) (hy : y < kl) (hi : i = fpos ar L g p y) (h1 : ¬ 1000 ≤ L y) (h2 : g i ≠ L y) (h3 : g i = 0) : fitR ar L g kl p kl = (1, 0) := by
  rw [fit_n hm hy hi h1 h2, if_pos h3]
theorem fit_2 (hm : MU ar L g p y) (hy : y < kl) (hi : i = fpos ar L g p y) (h1 : ¬ 1000 ≤ L y) (h2 : g i ≠ L y) (h3 : 100 ≤ g i) : fitR ar L g kl p kl = (2, i) := by
  rw [fit_n hm hy hi h1 h2, if_neg (by omega), if_pos h3]
theorem fit_3 (hm : MU ar L g p y) (hy : y < kl) (hi : i = fpos ar L g p y) (h1 : ¬ 1000 ≤ L y) (h2 : g i ≠ L y) (h3 : g i ≠ 0 ∧ ¬ 100 ≤ g i) : fitR ar L g kl p kl = (3, 0) := by
  rw [fit_n hm hy hi h1 h2, if_neg h3.1, if_neg h3.2]
variable {X : rx} {c R : Nat}
theorem mt_skip (hi : i < R) (h : ¬ (X (4 * i + 100) 1 = g c ∧ (fR ar X g c i).1 ≠ 3)) : mtR ar X g c R (R - i) = mtR ar X g c R (R - (i + 1)) := by
  rw [show R - i = (R - (i + 1)) + 1 by omega]
  show (if X (4 * (R - (R - (i + 1) + 1)) + 100) 1 = g c ∧ (fR ar X g c (R - (R - (i + 1) + 1))).1 ≠ 3 then _ else _) = _
  rw [show R - (R - (i + 1) + 1) = i by omega, if_neg h]
theorem mt_hit (hi : i < R) (h : X (4 * i + 100) 1 = g c ∧ (fR ar X g c i).1 ≠ 3) : mtR ar X g c R (R - i) = ((fR ar X g c i).1, (fR ar X g c i).2, i) := by
  rw [show R - i = (R - (i + 1)) + 1 by omega]
  show (if X (4 * (R - (R - (i + 1) + 1)) + 100) 1 = g c ∧ (fR ar X g c (R - (R - (i + 1) + 1))).1 ≠ 3 then _ else _) = _
  rw [show R - (R - (i + 1) + 1) = i by omega, if_pos h]
theorem mt_end : mtR ar X g c R (R - R) = (1, 0, 0) := by
  rw [Nat.sub_self]
  rfl
/-- an array has a row -/
def MK (m : Nat → Int) (cur : Nat) (l : List Int) : Prop := l.length = cur ∧ ∀ x, x < cur → m x = ga l x
theorem MK_0 {m : Nat → Int} : MK m 0 [] := ⟨rfl, fun _ h => absurd h (Nat.not_lt_zero _)⟩
theorem MK_app {m m' : Nat → Int} {cur a e : Nat} {l : List Int} (h : MK m cur l) (h1 : ∀ x, x < cur → m' x = m x) (h2 : ∀ x, x < e - a → m' (cur + x) = g (a + x)) : MK m' (cur + (e - a)) (l ++ sl g a e) := by
  refine ⟨by rw [List.length_append, sl_len, h.1], fun x hx => ?_⟩
  by_cases q : x < cur
  · rw [h1 x q, h.2 x q, ga_app_l (by rw [h.1]; exact q)]
  · rw [ga_app_r (by rw [h.1]; omega), h.1, sl_at g (by omega), ← h2 (x - cur) (by omega), show cur + (x - cur) = x by omega]
theorem MK_one {m m' : Nat → Int} {cur : Nat} {l : List Int} {s : Int} (h : MK m cur l) (h1 : ∀ x, x < cur → m' x = m x) (h2 : m' cur = s) : MK m' (cur + 1) (l ++ [s]) := by
  refine ⟨by rw [List.length_append, h.1]; rfl, fun x hx => ?_⟩
  by_cases q : x < cur
  · rw [h1 x q, h.2 x q, ga_app_l (by rw [h.1]; exact q)]
  · rw [ga_app_r (by rw [h.1]; omega), h.1, show x = cur by omega, Nat.sub_self, h2]
    rfl
theorem MK_cg {m m' : Nat → Int} {cur : Nat} {l : List Int} (h : MK m cur l) (h1 : ∀ x, x < cur → m' x = m x) : MK m' cur l := ⟨h.1, fun x hx => (h1 x hx).trans (h.2 x hx)⟩
theorem fc_go (n : Nat) (hi : i < n) (h : ¬ (100 ≤ g i ∧ g i < 1000)) : fcF g n (n - i) = fcF g n (n - (i + 1)) := by
  rw [show n - i = (n - (i + 1)) + 1 by omega]
  show (if 100 ≤ g (n - (n - (i + 1) + 1)) ∧ g (n - (n - (i + 1) + 1)) < 1000 then _ else _) = _
  rw [show n - (n - (i + 1) + 1) = i by omega, if_neg h]
theorem fc_hit (n : Nat) (hi : i < n) (h : 100 ≤ g i ∧ g i < 1000) : fcF g n (n - i) = i := by
  rw [show n - i = (n - (i + 1)) + 1 by omega]
  show (if 100 ≤ g (n - (n - (i + 1) + 1)) ∧ g (n - (n - (i + 1) + 1)) < 1000 then n - (n - (i + 1) + 1) else _) = _
  rw [show n - (n - (i + 1) + 1) = i by omega, if_pos h]
theorem fc_end (n : Nat) : fcF g n (n - n) = n := by
  rw [Nat.sub_self]
  rfl
end EX
section EY
variable {ar : Int → Int} {cn fn : Int} {X : rx} {a : Nat → Int} {n c k r : Nat}
/-- what a variable is, is a term within the call -/
theorem bF_tm (hr : RW9r ar cn fn X r) (h0 : X (4 * r + 100) 1 = a c) (hc : tm ar (m_sg cn fn 0) a k c 1) (he : c + k ≤ 400) (har : ∀ s, 1000 ≤ s → ar s = 0) (hm : MU ar (LL X r) a (c + 1) (kL X r)) {v : Nat} (hv : ∃ y, y < kL X r ∧ LL X r y = 1000 + (v : Int)) : ∃ kb : Nat, tm ar (m_sg cn fn 0) a kb (bF ar (LL X r) a (c + 1) (kL X r) v) 1 ∧ bF ar (LL X r) a (c + 1) (kL X r) v + kb ≤ c + k ∧ 1 ≤ kb := by
  obtain ⟨y, g1, g2, g3⟩ := bF_at (ar := ar) (a := a) (p := c + 1) hv
  obtain ⟨q1, -, -⟩ := FS_0 hr h0 hc
  obtain ⟨q2, -⟩ := FS_all q1 har he (i := y) (by omega) (fun j hj => hm j (by omega))
  obtain ⟨kb, q3, q4, q5⟩ := FS_one q2 g1
  rw [g3]
  exact ⟨kb, q3, q4, q5⟩
theorem mid_ok (hr : RW9r ar cn fn X r) (h0 : X (4 * r + 100) 1 = a c) (hc : tm ar (m_sg cn fn 0) a k c 1) (he : c + k ≤ 400) (har : ∀ s, 1000 ≤ s → ar s = 0) (hm : MU ar (LL X r) a (c + 1) (kL X r)) {m0 : Nat} (hp : tp ar (m_sg cn fn 0) a c 0 1 (m0 + 1)) : ∀ {y : Nat}, y ≤ (X (4 * r + 101) 0).toNat → ∃ mm : Nat, tp ar (m_sg cn fn 0) (ga (sl a 0 c ++ midL ar X a c r y)) (sl a 0 c ++ midL ar X a c r y).length 0 1 (m0 + mm) ∧ tm ar (m_sg cn fn 40) (fun x => X (4 * r + 101) (x + 1)) ((X (4 * r + 101) 0).toNat - y) y mm
  | 0, _ => by
    obtain ⟨f, kl, kr, q, -, -, ⟨f3, f4⟩, -, -, f6, -⟩ := hr
    refine ⟨1, ?_, by rw [f3, Nat.sub_zero]; exact f6⟩
    rw [show midL ar X a c r 0 = [] from rfl, List.append_nil, sl_len, Nat.sub_zero]
    exact tp_at hp (fun x hx => by rw [sl_at a (by omega), Nat.zero_add])
  | y + 1, hy => by
    obtain ⟨mm, g1, g2⟩ := mid_ok hr h0 hc he har hm hp (y := y) (by omega)
    rw [show (X (4 * r + 101) 0).toNat - y = ((X (4 * r + 101) 0).toNat - (y + 1)) + 1 by omega] at g2
    obtain ⟨h1, h2, q, h3, h4, h5⟩ := g2
    refine ⟨mm - 1 + q, ?_, h5⟩
    have h2 : m_sg cn fn 40 (X (4 * r + 101) (y + 1)) := h2
    have h3 : ar (X (4 * r + 101) (y + 1)) = q := h3
    rw [show sl a 0 c ++ midL ar X a c r (y + 1) = (sl a 0 c ++ midL ar X a c r y) ++ (if 1000 ≤ X (4 * r + 101) (y + 1) then sl a (bF ar (LL X r) a (c + 1) (kL X r) (X (4 * r + 101) (y + 1) - 1000).toNat) (bh ar a (bF ar (LL X r) a (c + 1) (kL X r) (X (4 * r + 101) (y + 1) - 1000).toNat)) else [X (4 * r + 101) (y + 1)]) from (List.append_assoc _ _ _).symm]
    by_cases qv : 1000 ≤ X (4 * r + 101) (y + 1)
    · rw [if_pos qv]
      have hv : ∃ j, j < kL X r ∧ LL X r j = 1000 + ((X (4 * r + 101) (y + 1) - 1000).toNat : Int) := by
        obtain ⟨f, kl, kr, q9, -, ⟨f1, -⟩, ⟨f3, -⟩, -, -, -, f7⟩ := id hr
        have e1 : kL X r = kl := by
          unfold kL
          rw [f1]
          omega
        obtain ⟨j, j1, j2⟩ := f7 y (by omega) qv
        exact ⟨j, by omega, by rw [j2]; omega⟩
      obtain ⟨kb, b1, b2, b3⟩ := bF_tm hr h0 hc he har hm hv
      rw [har _ qv] at h3
      rw [bh_tm b1 (by omega), List.length_append, sl_len, Nat.add_sub_cancel_left, show m0 + (mm - 1 + q) = m0 + (mm - 1) by omega]
      refine tp_term (tp_at (a := ga (sl a 0 c ++ midL ar X a c r y)) (by rw [show m0 + (mm - 1) + 1 = m0 + mm by omega]; exact g1) (fun x hx => ga_app_l hx)) ?_
      rw [Nat.zero_add]
      exact tm_at b1 (fun x hx => by rw [ga_app_r (by omega), Nat.add_sub_cancel_left, sl_at a (by omega)])
    · rw [if_neg qv, List.length_append, show m0 + (mm - 1 + q) = (m0 + (mm - 1)) + q by omega]
      refine tp_snoc (tp_at (a := ga (sl a 0 c ++ midL ar X a c r y)) (by rw [show m0 + (mm - 1) + 1 = m0 + mm by omega]; exact g1) (fun x hx => ga_app_l hx)) ?_ ?_ h4
      · rw [Nat.zero_add, ga_app_r (Nat.le_refl _), Nat.sub_self, ga_one]
        unfold m_sg at h2 ⊢
        omega
      · rw [Nat.zero_add, ga_app_r (Nat.le_refl _), Nat.sub_self, ga_one]
        exact h3
/-- how a call is matched: a rule that fits, or undefined -/
def HW (ar : Int → Int) (X : rx) (a : Nat → Int) (c R : Nat) (how : Int) (r : Nat) : Prop := (how = 0 ∧ r < R ∧ X (4 * r + 100) 1 = a c ∧ MU ar (LL X r) a (c + 1) (kL X r)) ∨ how = 1
theorem mk_ok {how : Int} {R : Nat} (hR : ∀ r : Nat, r < R → RW9r ar cn fn X r) (har : ∀ s, 1000 ≤ s → ar s = 0) (ha0 : ar 0 = 0) (hT : tm ar (m_sg cn fn 0) a n 0 1) (hc : tm ar (m_sg cn fn 0) a k c 1) (hk : c + k ≤ n) (hn : n ≤ 400) (hh : HW ar X a c R how r) : tm ar (m_sg cn fn 0) (ga (mkL ar X a n c how r)) (mkL ar X a n c how r).length 0 1 := by
  obtain ⟨m0, t1, t2⟩ := tm_place hT hc hk
  have key : ∀ l : List Int, tp ar (m_sg cn fn 0) (ga l) l.length 0 1 m0 → tm ar (m_sg cn fn 0) (ga (l ++ sl a (bh ar a c) n)) (l ++ sl a (bh ar a c) n).length 0 1 := by
    intro l hl
    rw [List.length_append, sl_len, bh_tm hc (by omega)]
    refine tp_tm (tp_app (tp_at hl (fun x hx => ga_app_l hx)) (tm_tp ?_))
    rw [Nat.zero_add, show n - (c + k) = n - c - k by omega]
    exact tm_at t2 (fun x hx => by rw [ga_app_r (by omega), Nat.add_sub_cancel_left, sl_at a (by omega)])
  unfold mkL
  rcases hh with ⟨h1, h2, h3, h4⟩ | h1
  · rw [if_neg (by omega)]
    obtain ⟨mm, g1, g2⟩ := mid_ok (hR r h2) h3 hc (by omega) har h4 t1 (Nat.le_refl _)
    rw [Nat.sub_self] at g2
    have g2 : mm = 0 := g2
    subst g2
    exact key _ g1
  · rw [if_pos h1]
    refine key _ ?_
    rw [List.length_append, show m0 = m0 + 0 from rfl]
    refine tp_snoc (tp_at (a := a) (by rw [sl_len, Nat.sub_zero]; exact t1) (fun x hx => by rw [sl_len, Nat.sub_zero] at hx; rw [ga_app_l (by rw [sl_len]; omega), sl_at a (by omega), Nat.zero_add])) ?_ ?_ (by omega)
    · rw [Nat.zero_add, ga_app_r (Nat.le_refl _), Nat.sub_self, ga_one]
      exact Or.inl rfl
    · rw [Nat.zero_add, ga_app_r (Nat.le_refl _), Nat.sub_self, ga_one, ha0]
      rfl
/-- what a call waits for is a call behind it -/
theorem mR_ok {R : Nat} (hX : nR X = R) (hR : ∀ r : Nat, r < R → RW9r ar cn fn X r) (hf : fn ≤ 16 ∧ cn ≤ 16) (har : ∀ s, 1000 ≤ s → ar s = 0) (hc : tm ar (m_sg cn fn 0) a k c 1) (he : c + k ≤ n) (hn : n ≤ 400) : HW ar X a c R (mR ar X a c).1 (mR ar X a c).2.2 ∨ ((mR ar X a c).1 = 2 ∧ (c < (mR ar X a c).2.1 ∧ (mR ar X a c).2.1 < c + k) ∧ (100 ≤ a (mR ar X a c).2.1 ∧ a (mR ar X a c).2.1 < 1000) ∧ ∃ k2 : Nat, tm ar (m_sg cn fn 0) a k2 (mR ar X a c).2.1 1 ∧ (mR ar X a c).2.1 + k2 ≤ n) := by
  have h := mtR_ok hR hf har hc (by omega) (j := R) (Nat.le_refl _)
  unfold mR
  rw [hX]
  rcases h with h | h | ⟨h1, h2, h3⟩
  · exact Or.inl (Or.inl h)
  · exact Or.inl (Or.inr h)
  · obtain ⟨k2, q1, q2⟩ := tm_sub9 hc (q := (mtR ar X a c R R).2.1) (by omega)
    exact Or.inr ⟨h1, h2, h3, k2, q1, by omega⟩
theorem wt_go {f : Nat} (h : (mR ar X a c).1 = 2) : wtR ar X a (f + 1) c = wtR ar X a f (mR ar X a c).2.1 := by
  show (if (mR ar X a c).1 = 2 then _ else _) = _
  rw [if_pos h]
theorem wt_st {f : Nat} (h : (mR ar X a c).1 ≠ 2) : wtR ar X a (f + 1) c = ((mR ar X a c).1, c, (mR ar X a c).2.2) := by
  show (if (mR ar X a c).1 = 2 then _ else _) = _
  rw [if_neg h]
/-- the waiting ends at a call that has its rule, or is undefined -/
theorem wt_ok {R : Nat} (hX : nR X = R) (hR : ∀ r : Nat, r < R → RW9r ar cn fn X r) (hf : fn ≤ 16 ∧ cn ≤ 16) (har : ∀ s, 1000 ≤ s → ar s = 0) (hn : n ≤ 400) : ∀ {f c k : Nat}, tm ar (m_sg cn fn 0) a k c 1 → c + k ≤ n → n - c ≤ f → HW ar X a (wtR ar X a f c).2.1 R (wtR ar X a f c).1 (wtR ar X a f c).2.2 ∧ ∃ k2 : Nat, tm ar (m_sg cn fn 0) a k2 (wtR ar X a f c).2.1 1 ∧ (wtR ar X a f c).2.1 + k2 ≤ n
  | 0, c, k, h, h1, h2 => by
    have := tm_le h
    omega
  | f + 1, c, k, h, h1, h2 => by
    have hk := tm_le h
    rcases mR_ok hX hR hf har h h1 hn with q | ⟨q1, q2, q3, k2, q4, q5⟩
    · have e : (mR ar X a c).1 ≠ 2 := by
        rcases q with ⟨q, -⟩ | q <;> omega
      rw [wt_st e]
      exact ⟨q, k, h, h1⟩
    · rw [wt_go q1]
      exact wt_ok hX hR hf har hn q4 q5 (by omega)
end EY
