/-! the reference's reading against the machine: tables, faults -/
def A1 (H : hp) (X : rx) : Prop := (H.1 1826 1) = X 0 3 ∧ ∀ k : Nat, (k : Int) < X 0 3 → (H.1 1827) k = X 1 k
def A2 (H : hp) (X : rx) : Prop := (H.1 1826 3) = X 0 4 ∧ ∀ k : Nat, (k : Int) < X 0 4 → (H.1 1828) k = X 2 k ∧ (H.1 1829) k = X 3 k ∧ (H.1 1830) k = X 4 k ∧ ∀ a : Nat, (a : Int) < X 4 k → (H.1 1831) (3 * k + a) = X 5 (4 * k + a)
def A3 (H : hp) (X : rx) : Prop := (H.1 1826 8) = X 0 5 ∧ ∀ k : Nat, (k : Int) < X 0 5 → (H.1 1832) k = X 6 k ∧ (H.1 1833) k = X 8 k ∧ ∀ a : Nat, (a : Int) < X 8 k → (H.1 1834) (4 * k + a) = X 9 (4 * k + a)
def A4 (H : hp) (X : rx) : Prop := ((H.1 1826 13) = X 0 6 ∧ (H.1 1826 19) = X 0 7) ∧ ∀ l : Nat, (l : Int) < X 0 7 → (H.1 1841) l = X 12 l
def TF (m : Int) (H : hp) (X : rx) : Prop := ∀ k : Nat, (k : Int) < m → (H.1 1835) k = X 7 k
/-- the tables of the reference are the machine's -/
def TA (m : Int) (H : hp) (X : rx) : Prop := A1 H X ∧ A2 H X ∧ A3 H X ∧ A4 H X ∧ TF m H X
theorem TA_fr {ob ar : List Nat} {m : Int} {H K : hp} {X : rx} (h : TA m H X) (f : fr ob ar H K) (h1 : ∀ c ∈ [1827, 1828, 1829, 1830, 1831, 1832, 1833, 1834, 1835, 1841], c ∉ ar) (h2 : ∀ j ∈ [1, 3, 8, 13, 19], j ∉ ob) : TA m K X := by
  have e : ∀ c ∈ [1827, 1828, 1829, 1830, 1831, 1832, 1833, 1834, 1835, 1841], c ≠ 1826 → K.1 c = H.1 c := fun c hc hn => f.2.1 c hn (h1 c hc)
  have e2 : ∀ j ∈ [1, 3, 8, 13, 19], K.1 1826 j = H.1 1826 j := fun j hj => f.2.2 j (h2 j hj)
  unfold TA A1 A2 A3 A4 TF
  rw [e 1827 (by decide) (by decide), e 1828 (by decide) (by decide), e 1829 (by decide) (by decide), e 1830 (by decide) (by decide), e 1831 (by decide) (by decide), e 1832 (by decide) (by decide), e 1833 (by decide) (by decide), e 1834 (by decide) (by decide), e 1835 (by decide) (by decide), e 1841 (by decide) (by decide), e2 1 (by decide), e2 3 (by decide), e2 8 (by decide), e2 13 (by decide), e2 19 (by decide)]
  exact h
theorem TA_sT {m : Int} {H : hp} {X X1 : rx} (h : TA m H X) (e : sT X X1) : TA m H X1 := by
  unfold TA A1 A2 A3 A4 TF
  rw [e.1 1 (by decide) (by decide), e.1 2 (by decide) (by decide), e.1 3 (by decide) (by decide), e.1 4 (by decide) (by decide), e.1 5 (by decide) (by decide), e.1 6 (by decide) (by decide), e.1 7 (by decide) (by decide), e.1 8 (by decide) (by decide), e.1 9 (by decide) (by decide), e.2.1, e.2.2 3 (by decide) (by decide), e.2.2 4 (by decide) (by decide), e.2.2 5 (by decide) (by decide), e.2.2 6 (by decide) (by decide), e.2.2 7 (by decide) (by decide)]
  exact h
theorem TA_le {m m' : Int} {H : hp} {X : rx} (h : TA m H X) (hm : m' ≤ m) : TA m' H X := ⟨h.1, h.2.1, h.2.2.1, h.2.2.2.1, fun k hk => h.2.2.2.2 k (by omega)⟩
theorem A1_cg {ob ar : List Nat} {H K : hp} {X X1 : rx} (h : A1 H X) (f : fr ob ar H K) (h1 : 1827 ∉ ar) (h2 : 1 ∉ ob) (e0 : X1 0 3 = X 0 3) (e1 : X1 1 = X 1) : A1 K X1 := by
  unfold A1
  rw [f.2.1 1827 (by decide) h1, f.2.2 1 h2, e0, e1]
  exact h
theorem A2_cg {ob ar : List Nat} {H K : hp} {X X1 : rx} (h : A2 H X) (f : fr ob ar H K) (h1 : ∀ c ∈ [1828, 1829, 1830, 1831], c ∉ ar) (h2 : 3 ∉ ob) (e0 : X1 0 4 = X 0 4) (e : ∀ c, 2 ≤ c → c ≤ 5 → X1 c = X c) : A2 K X1 := by
  unfold A2
  rw [f.2.1 1828 (by decide) (h1 _ (by decide)), f.2.1 1829 (by decide) (h1 _ (by decide)), f.2.1 1830 (by decide) (h1 _ (by decide)), f.2.1 1831 (by decide) (h1 _ (by decide)), f.2.2 3 h2, e0, e 2 (by decide) (by decide), e 3 (by decide) (by decide), e 4 (by decide) (by decide), e 5 (by decide) (by decide)]
  exact h
theorem A3_cg {ob ar : List Nat} {H K : hp} {X X1 : rx} (h : A3 H X) (f : fr ob ar H K) (h1 : ∀ c ∈ [1832, 1833, 1834], c ∉ ar) (h2 : 8 ∉ ob) (e0 : X1 0 5 = X 0 5) (e6 : X1 6 = X 6) (e8 : X1 8 = X 8) (e9 : X1 9 = X 9) : A3 K X1 := by
  unfold A3
  rw [f.2.1 1832 (by decide) (h1 _ (by decide)), f.2.1 1833 (by decide) (h1 _ (by decide)), f.2.1 1834 (by decide) (h1 _ (by decide)), f.2.2 8 h2, e0, e6, e8, e9]
  exact h
theorem A4_cg {ob ar : List Nat} {H K : hp} {X X1 : rx} (h : A4 H X) (f : fr ob ar H K) (h1 : 1841 ∉ ar) (h2 : 13 ∉ ob) (h3 : 19 ∉ ob) (e6 : X1 0 6 = X 0 6) (e7 : X1 0 7 = X 0 7) (e : X1 12 = X 12) : A4 K X1 := by
  unfold A4
  rw [f.2.1 1841 (by decide) h1, f.2.2 13 h2, f.2.2 19 h3, e6, e7, e]
  exact h
theorem TF_cg {ob ar : List Nat} {m : Int} {H K : hp} {X X1 : rx} (h : TF m H X) (f : fr ob ar H K) (h1 : 1835 ∉ ar) (e : ∀ k : Nat, (k : Int) < m → X1 7 k = X 7 k) : TF m K X1 := by
  intro k hk
  rw [f.2.1 1835 (by decide) h1, e k hk]
  exact h k hk
/-- the reference stands where the machine does -/
def RK (Y : yx) (m : Int) (H : hp) (X : rx) : Prop := (H.1 1826 35) = 0 ∧ YB Y H ∧ TKs Y (tS Y.1 Y.2 (xi X)) H ∧ 0 ≤ X 0 0 ∧ TA m H X
/-- .. once the next token is looked at -/
def RN (Y : yx) (m : Int) (H : hp) (X : rx) : Prop := (∃ i : Nat, X 0 0 = i + 1 ∧ (H.1 1826 30) = tEd Y.1 Y.2 (tS Y.1 Y.2 i)) ∧ YB Y H ∧ TA m H X
/-- a fault, and the machine's too -/
def BD (Y : yx) (m : Int) (c0 : cf) (H : hp) : Prop := (H.1 1826 35) ≠ 0 ∧ (∃ X : rx, rch Y c0 ([(0, (H.1 1826 35), (H.1 1826 36), 0)], X)) ∧ ∃ (K : List tq) (X : rx), rch Y c0 (K, X) ∧ TA m H X
def GB (Y : yx) (m : Int) (c0 : cf) (H : hp) (P : Prop) : Prop := ((H.1 1826 35) = 0 ∧ P) ∨ ((H.1 1826 35) ≠ 0 ∧ BD Y m c0 H)
theorem GB_g {Y : yx} {m : Int} {c0 : cf} {H : hp} {P : Prop} (h : GB Y m c0 H P) (e : (H.1 1826 35) = 0) : P := by
  rcases h with h | h
  · exact h.2
  · exact absurd e h.1
theorem GB_b {Y : yx} {m : Int} {c0 : cf} {H : hp} {P : Prop} (h : GB Y m c0 H P) (e : (H.1 1826 35) ≠ 0) : BD Y m c0 H := by
  rcases h with h | h
  · exact absurd h.1 e
  · exact h.2
theorem GB_i {Y : yx} {m : Int} {c0 : cf} {H : hp} {P Q : Prop} (h : GB Y m c0 H P) (g : P → Q) : GB Y m c0 H Q := h.imp (fun q => ⟨q.1, g q.2⟩) id
theorem BD_fr {ob ar : List Nat} {Y : yx} {m : Int} {c0 : cf} {H K : hp} (h : BD Y m c0 H) (f : fr ob ar H K) (h1 : ∀ c ∈ [1827, 1828, 1829, 1830, 1831, 1832, 1833, 1834, 1835, 1841], c ∉ ar) (h2 : ∀ j ∈ [1, 3, 8, 13, 19, 35, 36], j ∉ ob) : BD Y m c0 K := by
  obtain ⟨a, b, K9, X9, c, e⟩ := h
  unfold BD
  rw [f.2.2 35 (h2 _ (by decide)), f.2.2 36 (h2 _ (by decide))]
  exact ⟨a, b, K9, X9, c, TA_fr e f h1 (fun j hj => h2 j (by simp only [List.mem_cons, List.not_mem_nil, or_false] at hj ⊢; omega))⟩
theorem BD_le {Y : yx} {m m' : Int} {c0 : cf} {H : hp} (h : BD Y m c0 H) (hm : m' ≤ m) : BD Y m' c0 H := ⟨h.1, h.2.1, h.2.2.imp (fun _ q => q.imp (fun _ g => ⟨g.1, TA_le g.2 hm⟩))⟩
/-- the reference tells a fault -/
theorem BD_mk {ob ar : List Nat} {Y : yx} {m k : Int} {c0 : cf} {H K : hp} {X : rx} (h : RK Y m H X) (f : fr ob ar H K) (h1 : ∀ c ∈ [1827, 1828, 1829, 1830, 1831, 1832, 1833, 1834, 1835, 1841], c ∉ ar) (h2 : ∀ j ∈ [1, 3, 8, 13, 19], j ∉ ob) (hk : k ≠ 0) (h5 : (K.1 1826 35) = k) (h6 : (K.1 1826 36) = (H.1 1826 32)) (hq : rch Y c0 (fl Y X k)) : BD Y m c0 K := by
  obtain ⟨-, -, ⟨⟨e1, -⟩, -⟩, -, t⟩ := h
  refine ⟨by omega, ⟨X, ?_⟩, _, X, hq, TA_fr t f h1 h2⟩
  rw [h5, h6, e1]
  exact hq
/-- a task that looks at the token, before any fault -/
def lkK : List tq → Prop
  | [] => False
  | t :: K => t.1 ≠ 0 ∧ (t.1 = 1 → t.2.1 ≠ 1) ∧ ((t.1 = 1 ∨ t.1 = 2 ∨ t.1 = 4 ∨ t.1 = 6 ∨ t.1 = 7 ∨ t.1 = 10) ∨ lkK K)
theorem lk_c {t : tq} {K : List tq} (h : lkK K) (h0 : t.1 ≠ 0) (h1 : t.1 = 1 → t.2.1 ≠ 1) : lkK (t :: K) := ⟨h0, h1, Or.inr h⟩
theorem lk_1 {a b c : Int} {K : List tq} (h : a ≠ 1) : lkK ((1, a, b, c) :: K) := ⟨(by decide : (1 : Nat) ≠ 0), fun _ => h, Or.inl (Or.inl rfl)⟩
theorem lk_n {n : Nat} {a b c : Int} {K : List tq} (h : n = 2 ∨ n = 4 ∨ n = 6 ∨ n = 7 ∨ n = 10) : lkK ((n, a, b, c) :: K) := by
  refine ⟨?_, fun q => ?_, Or.inl (Or.inr h)⟩
  · show n ≠ 0
    omega
  · have q : n = 1 := q
    omega
theorem lk_app {K0 : List tq} (h : lkK K0) : ∀ {K : List tq}, (∀ t ∈ K, t.1 ≠ 0 ∧ (t.1 = 1 → t.2.1 ≠ 1)) → lkK (K ++ K0)
  | [], _ => h
  | t :: K, g => lk_c (lk_app h (fun x hx => g x (List.mem_cons_of_mem _ hx))) (g t (List.mem_cons_self ..)).1 (g t (List.mem_cons_self ..)).2
/-- where the token is none, the machine comes to that fault -/
theorem bad_tk {Y : yx} : ∀ {K : List tq} {X : rx}, lkK K → tk Y (xi X) = 1 → ∃ X' : rx, rch Y (K, X) ([(0, 1, ts Y (xi X), 0)], X')
  | [], _, h, _ => absurd h (fun q => q)
  | (n, a, b, c) :: K, X, h, h1 => by
    have hm : miss Y X = ([(0, 1, ts Y (xi X), 0)], X) := by
      unfold miss fl
      rw [if_pos h1]
    have t2 : ∀ (a b c : Int) (K : List tq), stTerm Y a b c K X = ([(0, 1, ts Y (xi X), 0)], X) := by
      intro a b c K
      rw [← hm]
      unfold stTerm
      rw [h1, if_neg (by decide), if_neg (by decide), if_neg (by decide), if_neg (by decide)]
    have t4 : ∀ (a b : Int) (K : List tq), stPat Y a b K X = ([(0, 1, ts Y (xi X), 0)], X) := by
      intro a b K
      rw [← hm]
      unfold stPat
      rw [h1, if_neg (by decide), if_neg (by decide), if_neg (by decide)]
    obtain ⟨g0, g1, g2⟩ := h
    have pop : ∀ X2 : rx, xi X2 = xi X → ¬ (n = 1 ∨ n = 2 ∨ n = 4 ∨ n = 6 ∨ n = 7 ∨ n = 10) → ∃ X' : rx, rch Y (K, X2) ([(0, 1, ts Y (xi X), 0)], X') := by
      intro X2 e9 hn
      rw [← e9]
      exact bad_tk (g2.resolve_left hn) (by rw [e9]; exact h1)
    match n, g0, g1, g2, pop with
    | 0, g0, _, _, _ => exact absurd rfl g0
    | 1, _, g1, _, _ =>
      refine ⟨X, 1, ?_⟩
      show (if tk Y (xi X) = a then (K, adv X) else miss Y X) = _
      rw [if_neg (fun q => g1 rfl (show a = 1 by rw [← q, h1])), hm]
    | 2, _, _, _, _ => exact ⟨X, 1, t2 a b c K⟩
    | 3, _, _, _, pop =>
      by_cases q : b < ar X a
      · refine ⟨X, 2, ?_⟩
        show step Y (if b < ar X a then ((2, aty9 X a b, c, 1) :: (3, a, b + 1, c) :: K, X) else (K, X)) = _
        rw [if_pos q]
        exact t2 _ _ _ _
      · obtain ⟨X', hX⟩ := pop X rfl (by decide)
        refine ⟨X', rch_tr ⟨1, ?_⟩ hX⟩
        show (if b < ar X a then ((2, aty9 X a b, c, 1) :: (3, a, b + 1, c) :: K, X) else (K, X)) = _
        rw [if_neg q]
    | 4, _, _, _, _ => exact ⟨X, 1, t4 a b K⟩
    | 5, _, _, _, pop =>
      by_cases q : b < ar X a
      · refine ⟨X, 2, ?_⟩
        show step Y (if b < ar X a then ((4, aty9 X a b, c, 0) :: (5, a, b + 1, c) :: K, X) else (K, X)) = _
        rw [if_pos q]
        exact t4 _ _ _
      · obtain ⟨X', hX⟩ := pop X rfl (by decide)
        refine ⟨X', rch_tr ⟨1, ?_⟩ hX⟩
        show (if b < ar X a then ((4, aty9 X a b, c, 0) :: (5, a, b + 1, c) :: K, X) else (K, X)) = _
        rw [if_neg q]
    | 6, _, _, _, _ =>
      refine ⟨X, 1, ?_⟩
      show stDec Y a K X = _
      unfold stDec
      rw [h1, if_neg (by decide), if_neg (by decide), if_neg (by decide), if_neg (by decide), if_neg (by decide), hm]
    | 7, _, _, _, _ =>
      refine ⟨X, 1, ?_⟩
      show (if tk Y (xi X) ≠ 3 then miss Y X else _) = _
      rw [if_pos (by rw [h1]; decide), hm]
    | 8, _, _, _, pop =>
      obtain ⟨X', hX⟩ := pop X rfl (by decide)
      refine ⟨X', rch_tr ⟨1, ?_⟩ hX⟩
      show (if tk Y (xi X) = 3 then _ else (K, X)) = _
      rw [if_neg (by rw [h1]; decide)]
    | 9, _, _, _, pop =>
      obtain ⟨X', hX⟩ := pop X rfl (by decide)
      refine ⟨X', rch_tr ⟨1, ?_⟩ hX⟩
      show (if tk Y (xi X) = 124 then _ else (K, X)) = _
      rw [if_neg (by rw [h1]; decide)]
    | 10, _, _, _, _ =>
      refine ⟨X, 1, ?_⟩
      show (if tk Y (xi X) ≠ 3 then miss Y X else _) = _
      rw [if_pos (by rw [h1]; decide), hm]
    | 11, _, _, _, pop =>
      obtain ⟨X', hX⟩ := pop X rfl (by decide)
      refine ⟨X', rch_tr ⟨1, ?_⟩ hX⟩
      show (if tk Y (xi X) = 62 then _ else (K, X)) = _
      rw [if_neg (by rw [h1]; decide)]
    | 12, _, _, _, _ =>
      have e : xi (xu (xsd X (4 * (X 0 6).toNat + 100)) 0 2 0) = xi X := by
        unfold xi
        rw [xu_0 _ _ (by decide)]
        rfl
      refine ⟨xu (xsd X (4 * (X 0 6).toNat + 100)) 0 2 0, 2, ?_⟩
      show stTerm Y (X 7 a.toNat) 0 0 K (xu (xsd X (4 * (X 0 6).toNat + 100)) 0 2 0) = _
      unfold stTerm miss fl
      rw [e, h1, if_neg (by decide), if_neg (by decide), if_neg (by decide), if_neg (by decide), if_pos rfl]
    | 13, _, _, _, pop =>
      have e : xi (xu (xsd X (4 * (X 0 6).toNat + 101)) 0 6 (X 0 6 + 1)) = xi X := by
        unfold xi
        rw [xu_0 _ _ (by decide)]
        rfl
      obtain ⟨X', hX⟩ := pop _ e (by decide)
      exact ⟨X', rch_tr ⟨1, rfl⟩ hX⟩
    | 14, _, _, _, _ =>
      have e : xi (xu (xsd X (4 * (X 0 7).toNat + 102)) 0 2 0) = xi X := by
        unfold xi
        rw [xu_0 _ _ (by decide)]
        rfl
      refine ⟨xu (xsd X (4 * (X 0 7).toNat + 102)) 0 2 0, 2, ?_⟩
      show stTerm Y (thd X) 0 0 K (xu (xsd X (4 * (X 0 7).toNat + 102)) 0 2 0) = _
      unfold stTerm miss fl
      rw [e, h1, if_neg (by decide), if_neg (by decide), if_neg (by decide), if_neg (by decide), if_pos rfl]
    | n + 15, _, _, _, pop =>
      have e : xi (xu (xsd X (4 * (X 0 7).toNat + 103)) 0 7 (X 0 7 + 1)) = xi X := by
        unfold xi
        rw [xu_0 _ _ (by decide)]
        rfl
      obtain ⟨X', hX⟩ := pop _ e (by omega)
      exact ⟨X', rch_tr ⟨1, rfl⟩ hX⟩
/-- what the token is -/
theorem RK_t {Y : yx} {m : Int} {H : hp} {X : rx} (h : RK Y m H X) : tk Y (xi X) ≠ 1 ∧ ((2 ≤ tk Y (xi X) ∧ tk Y (xi X) ≤ 7 ∧ (H.1 1826 31) = tk Y (xi X) - 1) ∨ ((tk Y (xi X) = 0 ∨ 40 ≤ tk Y (xi X)) ∧ (H.1 1826 31) = tk Y (xi X))) := by
  obtain ⟨-, -, ⟨-, h1, h2⟩, -⟩ := h
  exact ⟨h1, h2.imp (fun q => ⟨q.1, q.2.1, q.2.2.1⟩) id⟩
theorem RK_n {Y : yx} {m : Int} {H : hp} {X : rx} (h : RK Y m H X) (ht : (H.1 1826 31) = 1 ∨ (H.1 1826 31) = 2) : (H.1 1826 33) = tn Y (xi X) := by
  obtain ⟨-, -, ⟨-, h1, h2⟩, -⟩ := h
  rcases h2 with q | ⟨q, q2⟩
  · exact q.2.2.2
  · omega
theorem RK_tf {Y : yx} {m : Int} {H : hp} {X : rx} (h : RK Y m H X) (ht : (H.1 1826 31) = 1 ∨ (H.1 1826 31) = 2) : fnd (H.1 1827) (H.1 1826 1) (H.1 1826 33) = tfd Y X := by
  have t := h.2.2.2.2.1
  unfold tfd
  rw [RK_n h ht, t.1]
  exact fnd_cg (fun k hk => t.2 k hk)
theorem RK_cf {Y : yx} {m : Int} {H : hp} {X : rx} (h : RK Y m H X) (ht : (H.1 1826 31) = 1 ∨ (H.1 1826 31) = 2) : fnd (H.1 1828) (H.1 1826 3) (H.1 1826 33) = cfd Y X := by
  have t := h.2.2.2.2.2.1
  unfold cfd
  rw [RK_n h ht, t.1]
  exact fnd_cg (fun k hk => (t.2 k hk).1)
theorem RK_ff {Y : yx} {m : Int} {H : hp} {X : rx} (h : RK Y m H X) (ht : (H.1 1826 31) = 1 ∨ (H.1 1826 31) = 2) : fnd (H.1 1832) (H.1 1826 8) (H.1 1826 33) = ffd Y X := by
  have t := h.2.2.2.2.2.2.1
  unfold ffd
  rw [RK_n h ht, t.1]
  exact fnd_cg (fun k hk => (t.2 k hk).1)
theorem RK_lf {Y : yx} {m : Int} {H : hp} {X : rx} (h : RK Y m H X) (ht : (H.1 1826 31) = 1 ∨ (H.1 1826 31) = 2) : fnd (H.1 1841) (H.1 1826 19) (H.1 1826 33) = lfd Y X := by
  have t := h.2.2.2.2.2.2.2.1
  unfold lfd
  rw [RK_n h ht, t.1.2]
  exact fnd_cg (fun k hk => t.2 k hk)
theorem RN_mk {ob ar : List Nat} {Y : yx} {m m1 : Int} {H K : hp} {X X1 : rx} (h : RK Y m H X) (f : fr ob ar H K) (h1 : 1848 ∉ ar) (h2 : ∀ j ∈ [29, 30], j ∉ ob) (e : X1 0 0 = X 0 0 + 1) (t : TA m1 K X1) : RN Y m1 K X1 := by
  obtain ⟨-, hY, ⟨⟨-, a⟩, -⟩, h0, -⟩ := h
  refine ⟨⟨xi X, ?_, by rw [f.2.2 30 (h2 _ (by decide))]; exact a⟩, YB_fr hY f h1 (h2 _ (by decide)), t⟩
  unfold xi
  omega
theorem adv_00 (X : rx) : adv X 0 0 = X 0 0 + 1 := by
  unfold adv
  rw [xu_1]
/-- the next token, nothing else -/
theorem RN_adv {ob ar : List Nat} {Y : yx} {m : Int} {H K : hp} {X : rx} (h : RK Y m H X) (f : fr ob ar H K) (h1 : ∀ c ∈ 1848 :: [1827, 1828, 1829, 1830, 1831, 1832, 1833, 1834, 1835, 1841], c ∉ ar) (h2 : ∀ j ∈ 29 :: 30 :: [1, 3, 8, 13, 19], j ∉ ob) : RN Y m K (adv X) := RN_mk h f (h1 _ (by decide)) (fun j hj => h2 j (by simp only [List.mem_cons, List.not_mem_nil, or_false] at hj ⊢; omega)) (adv_00 X) (TA_sT (TA_fr h.2.2.2.2 f (fun c hc => h1 c (List.mem_cons_of_mem _ hc)) (fun j hj => h2 j (List.mem_cons_of_mem _ (List.mem_cons_of_mem _ hj)))) (sT_adv X))
theorem RK_fr {ob ar : List Nat} {Y : yx} {m : Int} {H K : hp} {X : rx} (h : RK Y m H X) (f : fr ob ar H K) (h1 : ∀ c ∈ 1848 :: [1827, 1828, 1829, 1830, 1831, 1832, 1833, 1834, 1835, 1841], c ∉ ar) (h2 : ∀ j ∈ 29 :: 30 :: 31 :: 32 :: 33 :: 35 :: [1, 3, 8, 13, 19], j ∉ ob) : RK Y m K X := by
  obtain ⟨a, hY, b, h0, t⟩ := h
  refine ⟨by rw [f.2.2 35 (h2 _ (by decide))]; exact a, YB_fr hY f (h1 _ (by decide)) (h2 _ (by decide)), ?_, h0, TA_fr t f (fun c hc => h1 c (List.mem_cons_of_mem _ hc)) (fun j hj => h2 j (by simp only [List.mem_cons, List.not_mem_nil, or_false] at hj ⊢; omega))⟩
  unfold TKs
  rw [f.2.2 30 (h2 _ (by decide)), f.2.2 31 (h2 _ (by decide)), f.2.2 32 (h2 _ (by decide)), f.2.2 33 (h2 _ (by decide))]
  exact b
theorem RK_sT {Y : yx} {m : Int} {H : hp} {X X1 : rx} (h : RK Y m H X) (e : sT X X1) (e0 : X1 0 0 = X 0 0) : RK Y m H X1 := by
  obtain ⟨a, hY, b, h0, t⟩ := h
  refine ⟨a, hY, ?_, by omega, TA_sT t e⟩
  unfold xi
  rw [e0]
  exact b

/-- the next token -/
theorem n_nx {zC : Nat → Option zsh} {d : Nat} (hd : 3 ≤ d) {H : hp} {Y : yx} {m : Int} {c0 : cf} {K : List tq} {X : rx} (h0 : 0 ≤ (H.1 1826 30) ∧ (H.1 1826 30) ≤ (H.1 1826 29) ∧ (H.1 1826 29) ≤ 1000) (hw : 0 ≤ (H.1 1826 35) ∧ (H.1 1826 35) ≤ 5) (hst : 0 ≤ (H.1 1826 32) ∧ (H.1 1826 32) ≤ 1000) (hw0 : (H.1 1826 35) = 0) (hN : RN Y m H X) (hq : rch Y c0 (K, X)) (hK : lkK K) : hG (zs zC) d mt_165 0 (zargs 0 [.inr (.inr 1826)]) [] H (fun r H2 => r = none ∧ GB Y m c0 H2 (RK Y m H2 X) ∧ fr [30, 31, 32, 33, 35, 36] [] H H2 ∧ (H.1 1826 30) ≤ (H2.1 1826 30) ∧ (H2.1 1826 30) ≤ (H.1 1826 29) ∧ (0 ≤ (H2.1 1826 35) ∧ (H2.1 1826 35) ≤ 5) ∧ ((H.1 1826 35) ≠ 0 → (H2.1 1826 35) = (H.1 1826 35)) ∧ (0 ≤ (H2.1 1826 32) ∧ (H2.1 1826 32) ≤ 1000) ∧ ((H2.1 1826 35) = 0 → ((H2.1 1826 31) = 0 ∨ (H.1 1826 30) < (H2.1 1826 30)))) := by
  obtain ⟨⟨i, hi, ha⟩, hY, hT⟩ := hN
  have hsz := hY.1
  have e1 : skp Y.1 ((H.1 1826 29) - (H.1 1826 30)).toNat ((H.1 1826 30)).toNat = tS Y.1 Y.2 (i + 1) := by
    rw [show ((H.1 1826 30)).toNat = tEd Y.1 Y.2 (tS Y.1 Y.2 i) by omega, show ((H.1 1826 29) - (H.1 1826 30)).toNat = Y.2 - tEd Y.1 Y.2 (tS Y.1 Y.2 i) by omega]
    rfl
  refine h_mono (n_next hd h0 hw hst hw0 hY e1) ?_
  rintro r H2 ⟨hr, hn1, hn2, hn3, hn4, hn5, hn6, hn7, hnew⟩
  have hx : xi X = i + 1 := by
    unfold xi
    omega
  refine ⟨hr, ?_, hn1, hn2, hn3, hn4, hn5, hn6, hn7⟩
  have hT2 := TA_fr hT hn1 (by decide) (by decide)
  rcases hnew with ⟨q1, q2⟩ | ⟨q1, q2, q3⟩
  · exact Or.inl ⟨q1, q1, YB_fr hY hn1 (by decide) (by decide), by rw [hx]; exact q2, by omega, hT2⟩
  · obtain ⟨X', hX⟩ := bad_tk (Y := Y) (X := X) hK (by rw [hx]; exact q3)
    refine Or.inr ⟨by omega, by omega, ⟨X', ?_⟩, K, X, hq, hT2⟩
    rw [q1, q2]
    have e : ts Y (xi X) = ((tS Y.1 Y.2 (i + 1) : Nat) : Int) := by
      unfold ts
      rw [hx]
    rw [← e]
    exact rch_tr hq hX

/-- the next token, where the machine looks at both at once -/
theorem n_nx2 {zC : Nat → Option zsh} {d : Nat} (hd : 3 ≤ d) {H : hp} {Y : yx} {m : Int} {c0 : cf} {X : rx} (h0 : 0 ≤ (H.1 1826 30) ∧ (H.1 1826 30) ≤ (H.1 1826 29) ∧ (H.1 1826 29) ≤ 1000) (hw : 0 ≤ (H.1 1826 35) ∧ (H.1 1826 35) ≤ 5) (hst : 0 ≤ (H.1 1826 32) ∧ (H.1 1826 32) ≤ 1000) (hw0 : (H.1 1826 35) = 0) (hN : RN Y m H X) (hb : tk Y (xi X) = 1 → rch Y c0 (fl Y X 1)) : hG (zs zC) d mt_165 0 (zargs 0 [.inr (.inr 1826)]) [] H (fun r H2 => r = none ∧ GB Y m c0 H2 (RK Y m H2 X) ∧ fr [30, 31, 32, 33, 35, 36] [] H H2 ∧ (H.1 1826 30) ≤ (H2.1 1826 30) ∧ (H2.1 1826 30) ≤ (H.1 1826 29) ∧ (0 ≤ (H2.1 1826 35) ∧ (H2.1 1826 35) ≤ 5) ∧ ((H.1 1826 35) ≠ 0 → (H2.1 1826 35) = (H.1 1826 35)) ∧ (0 ≤ (H2.1 1826 32) ∧ (H2.1 1826 32) ≤ 1000) ∧ ((H2.1 1826 35) = 0 → ((H2.1 1826 31) = 0 ∨ (H.1 1826 30) < (H2.1 1826 30)))) := by
  obtain ⟨⟨i, hi, ha⟩, hY, hT⟩ := hN
  have hsz := hY.1
  have e1 : skp Y.1 ((H.1 1826 29) - (H.1 1826 30)).toNat ((H.1 1826 30)).toNat = tS Y.1 Y.2 (i + 1) := by
    rw [show ((H.1 1826 30)).toNat = tEd Y.1 Y.2 (tS Y.1 Y.2 i) by omega, show ((H.1 1826 29) - (H.1 1826 30)).toNat = Y.2 - tEd Y.1 Y.2 (tS Y.1 Y.2 i) by omega]
    rfl
  refine h_mono (n_next hd h0 hw hst hw0 hY e1) ?_
  rintro r H2 ⟨hr, hn1, hn2, hn3, hn4, hn5, hn6, hn7, hnew⟩
  have hx : xi X = i + 1 := by
    unfold xi
    omega
  refine ⟨hr, ?_, hn1, hn2, hn3, hn4, hn5, hn6, hn7⟩
  have hT2 := TA_fr hT hn1 (by decide) (by decide)
  rcases hnew with ⟨q1, q2⟩ | ⟨q1, q2, q3⟩
  · exact Or.inl ⟨q1, q1, YB_fr hY hn1 (by decide) (by decide), by rw [hx]; exact q2, by omega, hT2⟩
  · have hX := hb (by rw [hx]; exact q3)
    refine Or.inr ⟨by omega, by omega, ⟨X, ?_⟩, _, X, hX, hT2⟩
    rw [q1, q2]
    have e : ts Y (xi X) = ((tS Y.1 Y.2 (i + 1) : Nat) : Int) := by
      unfold ts
      rw [hx]
    rw [← e]
    exact hX

/-! want -/
set_option maxRecDepth 100000 in
theorem n_want {zC : Nat → Option zsh} {d : Nat} (hd : 4 ≤ d) {H : hp} {x : Int} {Y : yx} {m : Int} {c0 : cf} {K : List tq} {X : rx} (h0 : 0 ≤ (H.1 1826 30) ∧ (H.1 1826 30) ≤ (H.1 1826 29) ∧ (H.1 1826 29) ≤ 1000) (hw : 0 ≤ (H.1 1826 35) ∧ (H.1 1826 35) ≤ 5) (hst : 0 ≤ (H.1 1826 32) ∧ (H.1 1826 32) ≤ 1000) (hx : 40 ≤ x ∧ x ≤ 255) (hw0 : (H.1 1826 35) = 0) (hR : RK Y m H X) (hq : rch Y c0 ((1, x, 0, 0) :: K, X)) (hK : lkK K) : hG (zs zC) d mt_166 0 (zargs 0 [.inr (.inr 1826), .inl x]) [] H (fun r H2 => r = none ∧ GB Y m c0 H2 (∃ X2 : rx, rch Y c0 (K, X2) ∧ RK Y m H2 X2 ∧ X2 = adv X) ∧ fr [30, 31, 32, 33, 35, 36] [] H H2 ∧ (H.1 1826 30) ≤ (H2.1 1826 30) ∧ (H2.1 1826 30) ≤ (H.1 1826 29) ∧ (0 ≤ (H2.1 1826 35) ∧ (H2.1 1826 35) ≤ 5) ∧ ((H.1 1826 35) ≠ 0 → (H2.1 1826 35) = (H.1 1826 35)) ∧ (0 ≤ (H2.1 1826 32) ∧ (H2.1 1826 32) ≤ 1000) ∧ ((H2.1 1826 35) = 0 → (H.1 1826 31) = x ∧ ((H2.1 1826 31) = 0 ∨ (H.1 1826 30) < (H2.1 1826 30)))) := by
  refine h_rng (fun hrg0 => ?_)
  refine h_run 0 (pc' := 0) (l' := [(0, .inr (.inr 1826)), (1, .inl x)]) (st' := []) rfl ?_
  have htk := RK_t hR
  refine h_run 1 (pc' := 1) (l' := [(0, .inr (.inr 1826)), (1, .inl x)]) (st' := [.inr (.inr 1826)]) rfl ?_
  have g1 : -2147483648 ≤ (H.1 1826 35) ∧ (H.1 1826 35) ≤ 2147483647 := hrg0.1 1826 13 35 _ .int rfl rfl
  refine h_cv (i := 293) (j := 158) (b := 1826) (M' := mt_158) (xs := []) (rest := []) rfl rfl rfl rfl rfl rfl (Nat.le_of_ble_eq_true rfl) (Nat.le_of_ble_eq_true rfl) (by omega) (m_good1 (by omega) (by omega : (H.1 1826 35) = 0)) ?_
  rintro _ _ ⟨rfl, rfl⟩
  refine h_run 0 (pc' := 4) (l' := [(0, .inr (.inr 1826)), (1, .inl x)]) (st' := [.inl 1]) rfl ?_
  refine h_zeq (off := 16) (t := 20) rfl rfl (by decide) (fun c => absurd c (by decide)) (fun _ => ?_)
  refine h_run 2 (pc' := 11) (l' := [(0, .inr (.inr 1826)), (1, .inl x)]) (st' := [.inl (H.1 1826 31)]) rfl ?_
  have g2 : -2147483648 ≤ (H.1 1826 31) ∧ (H.1 1826 31) ≤ 2147483647 := hrg0.1 1826 13 31 _ .int rfl rfl
  refine h_run 1 (pc' := 12) (l' := [(0, .inr (.inr 1826)), (1, .inl x)]) (st' := [.inl x, .inl (H.1 1826 31)]) rfl ?_
  refine h_ieq (off := 8) (t := 20) rfl rfl (by omega) (by omega) (fun c3 => ?_) (fun c3 => ?_)
  · refine h_run 1 (pc' := 21) (l' := [(0, .inr (.inr 1826)), (1, .inl x)]) (st' := [.inr (.inr 1826)]) rfl ?_
    refine h_cv (i := 293) (j := 158) (b := 1826) (M' := mt_158) (xs := []) (rest := []) rfl rfl rfl rfl rfl rfl (Nat.le_of_ble_eq_true rfl) (Nat.le_of_ble_eq_true rfl) (by omega) (m_good1 (by omega) (by omega : (H.1 1826 35) = 0)) ?_
    rintro _ _ ⟨rfl, rfl⟩
    refine h_run 0 (pc' := 24) (l' := [(0, .inr (.inr 1826)), (1, .inl x)]) (st' := [.inl 1]) rfl ?_
    refine h_zeq (off := 7) (t := 31) rfl rfl (by decide) (fun c => absurd c (by decide)) (fun _ => ?_)
    have hq9 : rch Y c0 (K, adv X) := rch_st hq (by show (if tk Y (xi X) = x then _ else _) = _; rw [if_pos (by omega)])
    refine h_run 1 (pc' := 28) (l' := [(0, .inr (.inr 1826)), (1, .inl x)]) (st' := [.inr (.inr 1826)]) rfl ?_
    have g4 : -2147483648 ≤ (H.1 1826 30) ∧ (H.1 1826 30) ≤ 2147483647 := hrg0.1 1826 13 30 _ .int rfl rfl
    have g5 : -2147483648 ≤ (H.1 1826 29) ∧ (H.1 1826 29) ≤ 2147483647 := hrg0.1 1826 13 29 _ .int rfl rfl
    have g6 : -2147483648 ≤ (H.1 1826 32) ∧ (H.1 1826 32) ≤ 2147483647 := hrg0.1 1826 13 32 _ .int rfl rfl
    refine h_cv (i := 297) (j := 165) (b := 1826) (M' := mt_165) (xs := []) (rest := []) rfl rfl rfl rfl rfl rfl (Nat.le_of_ble_eq_true rfl) (Nat.le_of_ble_eq_true rfl) (by omega) (n_nx (by omega) (by omega : 0 ≤ (H.1 1826 30) ∧ (H.1 1826 30) ≤ (H.1 1826 29) ∧ (H.1 1826 29) ≤ 1000) (by omega : 0 ≤ (H.1 1826 35) ∧ (H.1 1826 35) ≤ 5) (by omega : 0 ≤ (H.1 1826 32) ∧ (H.1 1826 32) ≤ 1000) (by omega : (H.1 1826 35) = 0) (X := adv X) (RN_adv hR (fr_rf [] [] _) (by decide) (by decide)) hq9 hK) ?_
    rintro _ H7 ⟨rfl, hx7n, hx7f, hx7a, hx7b, hx7c, -, hx7e, hx7g⟩
    refine h_rng (fun hrg8 => ?_)
    have hf9 : fr [30, 31, 32, 33, 35, 36] [] H H7 := fr_t (fr_rf _ _ _) hx7f (by decide) (by decide)
    replace hx7a : (H.1 1826 30) ≤ (H7.1 1826 30) := hx7a
    replace hx7b : (H7.1 1826 30) ≤ (H.1 1826 29) := hx7b
    replace hx7g : (H7.1 1826 35) = 0 → ((H7.1 1826 31) = 0 ∨ (H.1 1826 30) < (H7.1 1826 30)) := hx7g
    refine h_run 0 (pc' := 31) (l' := [(0, .inr (.inr 1826)), (1, .inl x)]) (st' := []) rfl ?_
    refine h_ret rfl rfl ?_
    have g10 : -2147483648 ≤ (H7.1 1826 30) ∧ (H7.1 1826 30) ≤ 2147483647 := hrg8.1 1826 13 30 _ .int rfl rfl
    have g11 : -2147483648 ≤ (H7.1 1826 35) ∧ (H7.1 1826 35) ≤ 2147483647 := hrg8.1 1826 13 35 _ .int rfl rfl
    have g12 : -2147483648 ≤ (H7.1 1826 32) ∧ (H7.1 1826 32) ≤ 2147483647 := hrg8.1 1826 13 32 _ .int rfl rfl
    have g13 : -2147483648 ≤ (H7.1 1826 31) ∧ (H7.1 1826 31) ≤ 2147483647 := hrg8.1 1826 13 31 _ .int rfl rfl
    have g14 : -2147483648 ≤ (H7.1 1826 29) ∧ (H7.1 1826 29) ≤ 2147483647 := hrg8.1 1826 13 29 _ .int rfl rfl
    have e15 : (H7.1 1826 29) = (H.1 1826 29) := hx7f.2.2 29 (by decide)
    exact ⟨rfl, (GB_i hx7n (fun q => ⟨_, hq9, q, rfl⟩)), hf9, (by omega : (H.1 1826 30) ≤ (H7.1 1826 30)), (by omega : (H7.1 1826 30) ≤ (H.1 1826 29)), (by omega : 0 ≤ (H7.1 1826 35) ∧ (H7.1 1826 35) ≤ 5), (by omega : (H.1 1826 35) ≠ 0 → (H7.1 1826 35) = (H.1 1826 35)), (by omega : 0 ≤ (H7.1 1826 32) ∧ (H7.1 1826 32) ≤ 1000), (by omega : (H7.1 1826 35) = 0 → (H.1 1826 31) = x ∧ ((H7.1 1826 31) = 0 ∨ (H.1 1826 30) < (H7.1 1826 30)))⟩
  · refine h_run 2 (pc' := 17) (l' := [(0, .inr (.inr 1826)), (1, .inl x)]) (st' := [.inl 2, .inr (.inr 1826)]) rfl ?_
    refine h_cv (i := 278) (j := 159) (b := 1826) (M' := mt_159) (xs := [.inl 2]) (rest := []) rfl rfl rfl rfl rfl rfl (Nat.le_of_ble_eq_true rfl) (Nat.le_of_ble_eq_true rfl) (by omega) (m_bad0 (by omega) (by omega) (by omega : (H.1 1826 35) = 0)) ?_
    rintro _ _ ⟨rfl, rfl⟩
    refine h_run 0 (pc' := 20) (l' := [(0, .inr (.inr 1826)), (1, .inl x)]) (st' := []) rfl ?_
    refine h_run 1 (pc' := 21) (l' := [(0, .inr (.inr 1826)), (1, .inl x)]) (st' := [.inr (.inr 1826)]) rfl ?_
    refine h_cv (i := 293) (j := 158) (b := 1826) (M' := mt_158) (xs := []) (rest := []) rfl rfl rfl rfl rfl rfl (Nat.le_of_ble_eq_true rfl) (Nat.le_of_ble_eq_true rfl) (by omega) (m_good0 (by omega) (by omega : (2 : Int) ≠ 0)) ?_
    rintro _ _ ⟨rfl, rfl⟩
    refine h_run 0 (pc' := 24) (l' := [(0, .inr (.inr 1826)), (1, .inl x)]) (st' := [.inl 0]) rfl ?_
    refine h_zeq (off := 7) (t := 31) rfl rfl (by decide) (fun _ => ?_) (fun c => absurd c (by decide))
    refine h_ret rfl rfl ?_
    have g16 : -2147483648 ≤ (H.1 1826 30) ∧ (H.1 1826 30) ≤ 2147483647 := hrg0.1 1826 13 30 _ .int rfl rfl
    have g17 : -2147483648 ≤ (H.1 1826 32) ∧ (H.1 1826 32) ≤ 2147483647 := hrg0.1 1826 13 32 _ .int rfl rfl
    have g18 : -2147483648 ≤ (H.1 1826 29) ∧ (H.1 1826 29) ≤ 2147483647 := hrg0.1 1826 13 29 _ .int rfl rfl
    exact ⟨rfl, (Or.inr ⟨(by omega : (2 : Int) ≠ 0), (BD_mk hR (fr_o (fr_o (fr_rf [35, 36] [] H) (by decide)) (by decide)) (by decide) (by decide) (by decide : (2 : Int) ≠ 0) rfl rfl (rch_st hq (by show (if tk Y (xi X) = x then _ else _) = _; unfold miss; rw [if_neg (by omega), if_neg (by omega)])))⟩), (fr_o (fr_o (fr_rf _ _ _) (by decide)) (by decide)), (by omega : (H.1 1826 30) ≤ (H.1 1826 30)), (by omega : (H.1 1826 30) ≤ (H.1 1826 29)), (by omega : 0 ≤ (2 : Int) ∧ (2 : Int) ≤ 5), (by omega : (H.1 1826 35) ≠ 0 → (2 : Int) = (H.1 1826 35)), (by omega : 0 ≤ (H.1 1826 32) ∧ (H.1 1826 32) ≤ 1000), (by omega : (2 : Int) = 0 → (H.1 1826 31) = x ∧ ((H.1 1826 31) = 0 ∨ (H.1 1826 30) < (H.1 1826 30)))⟩

/-! want -/
set_option maxRecDepth 100000 in
theorem n_want0 {zC : Nat → Option zsh} {d : Nat} (hd : 4 ≤ d) {H : hp} {x : Int} (hw0 : (H.1 1826 35) ≠ 0) : hG (zs zC) d mt_166 0 (zargs 0 [.inr (.inr 1826), .inl x]) [] H (fun r H2 => r = none ∧ H = H2) := by
  refine h_rng (fun hrg0 => ?_)
  refine h_run 0 (pc' := 0) (l' := [(0, .inr (.inr 1826)), (1, .inl x)]) (st' := []) rfl ?_
  refine h_run 1 (pc' := 1) (l' := [(0, .inr (.inr 1826)), (1, .inl x)]) (st' := [.inr (.inr 1826)]) rfl ?_
  have g1 : -2147483648 ≤ (H.1 1826 35) ∧ (H.1 1826 35) ≤ 2147483647 := hrg0.1 1826 13 35 _ .int rfl rfl
  refine h_cv (i := 293) (j := 158) (b := 1826) (M' := mt_158) (xs := []) (rest := []) rfl rfl rfl rfl rfl rfl (Nat.le_of_ble_eq_true rfl) (Nat.le_of_ble_eq_true rfl) (by omega) (m_good0 (by omega) (by omega : (H.1 1826 35) ≠ 0)) ?_
  rintro _ _ ⟨rfl, rfl⟩
  refine h_run 0 (pc' := 4) (l' := [(0, .inr (.inr 1826)), (1, .inl x)]) (st' := [.inl 0]) rfl ?_
  refine h_zeq (off := 16) (t := 20) rfl rfl (by decide) (fun _ => ?_) (fun c => absurd c (by decide))
  refine h_run 1 (pc' := 21) (l' := [(0, .inr (.inr 1826)), (1, .inl x)]) (st' := [.inr (.inr 1826)]) rfl ?_
  refine h_cv (i := 293) (j := 158) (b := 1826) (M' := mt_158) (xs := []) (rest := []) rfl rfl rfl rfl rfl rfl (Nat.le_of_ble_eq_true rfl) (Nat.le_of_ble_eq_true rfl) (by omega) (m_good0 (by omega) (by omega : (H.1 1826 35) ≠ 0)) ?_
  rintro _ _ ⟨rfl, rfl⟩
  refine h_run 0 (pc' := 24) (l' := [(0, .inr (.inr 1826)), (1, .inl x)]) (st' := [.inl 0]) rfl ?_
  refine h_zeq (off := 7) (t := 31) rfl rfl (by decide) (fun _ => ?_) (fun c => absurd c (by decide))
  refine h_ret rfl rfl ?_
  exact ⟨rfl, rfl⟩

/-! type -/
set_option maxRecDepth 100000 in
theorem n_type {zC : Nat → Option zsh} {d : Nat} (hd : 3 ≤ d) {H : hp} {z : Int} (hw0 : (H.1 1826 35) = 0) (ht : 0 ≤ (H.1 1826 1) ∧ (H.1 1826 1) ≤ 6) (hz : (H.1 1826 31) = 2 → fnd (H.1 1827) (H.1 1826 1) (H.1 1826 33) = z) : hG (zs zC) d mt_172 0 (zargs 0 [.inr (.inr 1826)]) [] H (fun r H2 => (∃ k : Nat, r = some (.inl (k : Int)) ∧ (H.1 1826 31) = 2 ∧ (k : Int) < (H.1 1826 1) ∧ (k : Int) = z ∧ H = H2) ∨ (r = some (.inl (-1)) ∧ (H.1 1826 31) ≠ 2 ∧ H2 = zu (zu H 1826 (up (H.1 1826) 35 2)) 1826 (up ((zu H 1826 (up (H.1 1826) 35 2)).1 1826) 36 (H.1 1826 32))) ∨ (r = some (.inl (-1)) ∧ (H.1 1826 31) = 2 ∧ z = -1 ∧ H2 = zu (zu H 1826 (up (H.1 1826) 35 3)) 1826 (up ((zu H 1826 (up (H.1 1826) 35 3)).1 1826) 36 (H.1 1826 32)))) := by
  refine h_rng (fun hrg0 => ?_)
  refine h_run 0 (pc' := 0) (l' := [(0, .inr (.inr 1826))]) (st' := []) rfl ?_
  replace hz : hid _ := hz
  refine h_run 1 (pc' := 1) (l' := [(0, .inr (.inr 1826))]) (st' := [.inr (.inr 1826)]) rfl ?_
  have g1 : -2147483648 ≤ (H.1 1826 35) ∧ (H.1 1826 35) ≤ 2147483647 := hrg0.1 1826 13 35 _ .int rfl rfl
  refine h_cv (i := 293) (j := 158) (b := 1826) (M' := mt_158) (xs := []) (rest := []) rfl rfl rfl rfl rfl rfl (Nat.le_of_ble_eq_true rfl) (Nat.le_of_ble_eq_true rfl) (by omega) (m_good1 (by omega) (by omega : (H.1 1826 35) = 0)) ?_
  rintro _ _ ⟨rfl, rfl⟩
  refine h_run 0 (pc' := 4) (l' := [(0, .inr (.inr 1826))]) (st' := [.inl 1]) rfl ?_
  refine h_zeq (off := 16) (t := 20) rfl rfl (by decide) (fun c => absurd c (by decide)) (fun _ => ?_)
  refine h_run 2 (pc' := 11) (l' := [(0, .inr (.inr 1826))]) (st' := [.inl (H.1 1826 31)]) rfl ?_
  have g2 : -2147483648 ≤ (H.1 1826 31) ∧ (H.1 1826 31) ≤ 2147483647 := hrg0.1 1826 13 31 _ .int rfl rfl
  refine h_run 1 (pc' := 12) (l' := [(0, .inr (.inr 1826))]) (st' := [.inl 2, .inl (H.1 1826 31)]) rfl ?_
  refine h_ieq (off := 8) (t := 20) rfl rfl (by omega) (by decide) (fun c3 => ?_) (fun c3 => ?_)
  · refine h_run 1 (pc' := 21) (l' := [(0, .inr (.inr 1826))]) (st' := [.inr (.inr 1826)]) rfl ?_
    refine h_cv (i := 293) (j := 158) (b := 1826) (M' := mt_158) (xs := []) (rest := []) rfl rfl rfl rfl rfl rfl (Nat.le_of_ble_eq_true rfl) (Nat.le_of_ble_eq_true rfl) (by omega) (m_good1 (by omega) (by omega : (H.1 1826 35) = 0)) ?_
    rintro _ _ ⟨rfl, rfl⟩
    refine h_run 0 (pc' := 24) (l' := [(0, .inr (.inr 1826))]) (st' := [.inl 1]) rfl ?_
    refine h_zeq (off := 21) (t := 45) rfl rfl (by decide) (fun c => absurd c (by decide)) (fun _ => ?_)
    refine h_run 4 (pc' := 35) (l' := [(0, .inr (.inr 1826))]) (st' := [.inl (H.1 1826 1), .inr (.inr 1827)]) rfl ?_
    have g4 : -2147483648 ≤ (H.1 1826 1) ∧ (H.1 1826 1) ≤ 2147483647 := hrg0.1 1826 13 1 _ .int rfl rfl
    refine h_run 2 (pc' := 39) (l' := [(0, .inr (.inr 1826))]) (st' := [.inr (.inl (H.1 1826 33)), .inl (H.1 1826 1), .inr (.inr 1827)]) rfl ?_
    have g5 : -9223372036854775808 ≤ (H.1 1826 33) ∧ (H.1 1826 33) ≤ 9223372036854775807 := hrg0.1 1826 13 33 _ .long rfl rfl
    refine h_cs (i := 309) (j := 167) (M' := mt_167) (xs := [.inr (.inl (H.1 1826 33)), .inl (H.1 1826 1), .inr (.inr 1827)]) (rest := []) rfl rfl rfl rfl rfl (Nat.le_of_ble_eq_true rfl) (Nat.le_of_ble_eq_true rfl) (by omega) (n_find (by omega) (m := 6) (z := z) rfl (by omega : 0 ≤ (H.1 1826 1) ∧ (H.1 1826 1) ≤ ((6 : Nat) : Int) ∧ 6 ≤ 100) (by omega) (hz (by omega))) ?_
    rintro _ _ ⟨⟨k6, rfl, f7, f7x⟩ | ⟨rfl, f7⟩, rfl⟩
    · refine h_run 0 (pc' := 42) (l' := [(0, .inr (.inr 1826))]) (st' := [.inl (k6 : Int)]) rfl ?_
      refine h_run 3 (pc' := 48) (l' := [(0, .inr (.inr 1826)), (1, .inl (k6 : Int))]) (st' := [.inr (.inr 1826)]) rfl ?_
      refine h_cv (i := 293) (j := 158) (b := 1826) (M' := mt_158) (xs := []) (rest := []) rfl rfl rfl rfl rfl rfl (Nat.le_of_ble_eq_true rfl) (Nat.le_of_ble_eq_true rfl) (by omega) (m_good1 (by omega) (by omega : (H.1 1826 35) = 0)) ?_
      rintro _ _ ⟨rfl, rfl⟩
      refine h_run 0 (pc' := 51) (l' := [(0, .inr (.inr 1826)), (1, .inl (k6 : Int))]) (st' := [.inl 1]) rfl ?_
      refine h_zeq (off := 13) (t := 64) rfl rfl (by decide) (fun c => absurd c (by decide)) (fun _ => ?_)
      refine h_run 2 (pc' := 56) (l' := [(0, .inr (.inr 1826)), (1, .inl (k6 : Int))]) (st' := [.inl (-1), .inl (k6 : Int)]) rfl ?_
      refine h_ine (off := 8) (t := 64) rfl rfl (by omega) (by decide) (fun c8 => ?_) (fun c8 => ?_)
      · refine h_run 1 (pc' := 65) (l' := [(0, .inr (.inr 1826)), (1, .inl (k6 : Int))]) (st' := [.inl (k6 : Int)]) rfl ?_
        refine h_reti (x := (k6 : Int)) rfl rfl ?_
        exact Or.inl ⟨_, rfl, by omega, by omega, by omega, rfl⟩
      · exfalso
        omega
    · refine h_run 0 (pc' := 42) (l' := [(0, .inr (.inr 1826))]) (st' := [.inl (-1)]) rfl ?_
      refine h_run 3 (pc' := 48) (l' := [(0, .inr (.inr 1826)), (1, .inl (-1))]) (st' := [.inr (.inr 1826)]) rfl ?_
      refine h_cv (i := 293) (j := 158) (b := 1826) (M' := mt_158) (xs := []) (rest := []) rfl rfl rfl rfl rfl rfl (Nat.le_of_ble_eq_true rfl) (Nat.le_of_ble_eq_true rfl) (by omega) (m_good1 (by omega) (by omega : (H.1 1826 35) = 0)) ?_
      rintro _ _ ⟨rfl, rfl⟩
      refine h_run 0 (pc' := 51) (l' := [(0, .inr (.inr 1826)), (1, .inl (-1))]) (st' := [.inl 1]) rfl ?_
      refine h_zeq (off := 13) (t := 64) rfl rfl (by decide) (fun c => absurd c (by decide)) (fun _ => ?_)
      refine h_run 2 (pc' := 56) (l' := [(0, .inr (.inr 1826)), (1, .inl (-1))]) (st' := [.inl (-1), .inl (-1)]) rfl ?_
      refine h_ine (off := 8) (t := 64) rfl rfl (by decide) (by decide) (fun c => absurd c (by decide)) (fun _ => ?_)
      refine h_run 2 (pc' := 61) (l' := [(0, .inr (.inr 1826)), (1, .inl (-1))]) (st' := [.inl 3, .inr (.inr 1826)]) rfl ?_
      refine h_cv (i := 278) (j := 159) (b := 1826) (M' := mt_159) (xs := [.inl 3]) (rest := []) rfl rfl rfl rfl rfl rfl (Nat.le_of_ble_eq_true rfl) (Nat.le_of_ble_eq_true rfl) (by omega) (m_bad0 (by omega) (by omega) (by omega : (H.1 1826 35) = 0)) ?_
      rintro _ _ ⟨rfl, rfl⟩
      refine h_run 0 (pc' := 64) (l' := [(0, .inr (.inr 1826)), (1, .inl (-1))]) (st' := []) rfl ?_
      refine h_run 1 (pc' := 65) (l' := [(0, .inr (.inr 1826)), (1, .inl (-1))]) (st' := [.inl (-1)]) rfl ?_
      refine h_reti (x := (-1)) rfl rfl ?_
      exact Or.inr (Or.inr ⟨rfl, by omega, by omega, rfl⟩)
  · refine h_run 2 (pc' := 17) (l' := [(0, .inr (.inr 1826))]) (st' := [.inl 2, .inr (.inr 1826)]) rfl ?_
    refine h_cv (i := 278) (j := 159) (b := 1826) (M' := mt_159) (xs := [.inl 2]) (rest := []) rfl rfl rfl rfl rfl rfl (Nat.le_of_ble_eq_true rfl) (Nat.le_of_ble_eq_true rfl) (by omega) (m_bad0 (by omega) (by omega) (by omega : (H.1 1826 35) = 0)) ?_
    rintro _ _ ⟨rfl, rfl⟩
    refine h_run 0 (pc' := 20) (l' := [(0, .inr (.inr 1826))]) (st' := []) rfl ?_
    refine h_run 1 (pc' := 21) (l' := [(0, .inr (.inr 1826))]) (st' := [.inr (.inr 1826)]) rfl ?_
    refine h_cv (i := 293) (j := 158) (b := 1826) (M' := mt_158) (xs := []) (rest := []) rfl rfl rfl rfl rfl rfl (Nat.le_of_ble_eq_true rfl) (Nat.le_of_ble_eq_true rfl) (by omega) (m_good0 (by omega) (by omega : (2 : Int) ≠ 0)) ?_
    rintro _ _ ⟨rfl, rfl⟩
    refine h_run 0 (pc' := 24) (l' := [(0, .inr (.inr 1826))]) (st' := [.inl 0]) rfl ?_
    refine h_zeq (off := 21) (t := 45) rfl rfl (by decide) (fun _ => ?_) (fun c => absurd c (by decide))
    refine h_run 3 (pc' := 48) (l' := [(0, .inr (.inr 1826)), (1, .inl (-1))]) (st' := [.inr (.inr 1826)]) rfl ?_
    refine h_cv (i := 293) (j := 158) (b := 1826) (M' := mt_158) (xs := []) (rest := []) rfl rfl rfl rfl rfl rfl (Nat.le_of_ble_eq_true rfl) (Nat.le_of_ble_eq_true rfl) (by omega) (m_good0 (by omega) (by omega : (2 : Int) ≠ 0)) ?_
    rintro _ _ ⟨rfl, rfl⟩
    refine h_run 0 (pc' := 51) (l' := [(0, .inr (.inr 1826)), (1, .inl (-1))]) (st' := [.inl 0]) rfl ?_
    refine h_zeq (off := 13) (t := 64) rfl rfl (by decide) (fun _ => ?_) (fun c => absurd c (by decide))
    refine h_run 1 (pc' := 65) (l' := [(0, .inr (.inr 1826)), (1, .inl (-1))]) (st' := [.inl (-1)]) rfl ?_
    refine h_reti (x := (-1)) rfl rfl ?_
    exact Or.inr (Or.inl ⟨rfl, by omega, rfl⟩)

/-! type -/
set_option maxRecDepth 100000 in
theorem n_type0 {zC : Nat → Option zsh} {d : Nat} (hd : 3 ≤ d) {H : hp}  (hw0 : (H.1 1826 35) ≠ 0) : hG (zs zC) d mt_172 0 (zargs 0 [.inr (.inr 1826)]) [] H (fun r H2 => r = some (.inl (-1)) ∧ H = H2) := by
  refine h_rng (fun hrg0 => ?_)
  refine h_run 0 (pc' := 0) (l' := [(0, .inr (.inr 1826))]) (st' := []) rfl ?_
  refine h_run 1 (pc' := 1) (l' := [(0, .inr (.inr 1826))]) (st' := [.inr (.inr 1826)]) rfl ?_
  have g1 : -2147483648 ≤ (H.1 1826 35) ∧ (H.1 1826 35) ≤ 2147483647 := hrg0.1 1826 13 35 _ .int rfl rfl
  refine h_cv (i := 293) (j := 158) (b := 1826) (M' := mt_158) (xs := []) (rest := []) rfl rfl rfl rfl rfl rfl (Nat.le_of_ble_eq_true rfl) (Nat.le_of_ble_eq_true rfl) (by omega) (m_good0 (by omega) (by omega : (H.1 1826 35) ≠ 0)) ?_
  rintro _ _ ⟨rfl, rfl⟩
  refine h_run 0 (pc' := 4) (l' := [(0, .inr (.inr 1826))]) (st' := [.inl 0]) rfl ?_
  refine h_zeq (off := 16) (t := 20) rfl rfl (by decide) (fun _ => ?_) (fun c => absurd c (by decide))
  refine h_run 1 (pc' := 21) (l' := [(0, .inr (.inr 1826))]) (st' := [.inr (.inr 1826)]) rfl ?_
  refine h_cv (i := 293) (j := 158) (b := 1826) (M' := mt_158) (xs := []) (rest := []) rfl rfl rfl rfl rfl rfl (Nat.le_of_ble_eq_true rfl) (Nat.le_of_ble_eq_true rfl) (by omega) (m_good0 (by omega) (by omega : (H.1 1826 35) ≠ 0)) ?_
  rintro _ _ ⟨rfl, rfl⟩
  refine h_run 0 (pc' := 24) (l' := [(0, .inr (.inr 1826))]) (st' := [.inl 0]) rfl ?_
  refine h_zeq (off := 21) (t := 45) rfl rfl (by decide) (fun _ => ?_) (fun c => absurd c (by decide))
  refine h_run 3 (pc' := 48) (l' := [(0, .inr (.inr 1826)), (1, .inl (-1))]) (st' := [.inr (.inr 1826)]) rfl ?_
  refine h_cv (i := 293) (j := 158) (b := 1826) (M' := mt_158) (xs := []) (rest := []) rfl rfl rfl rfl rfl rfl (Nat.le_of_ble_eq_true rfl) (Nat.le_of_ble_eq_true rfl) (by omega) (m_good0 (by omega) (by omega : (H.1 1826 35) ≠ 0)) ?_
  rintro _ _ ⟨rfl, rfl⟩
  refine h_run 0 (pc' := 51) (l' := [(0, .inr (.inr 1826)), (1, .inl (-1))]) (st' := [.inl 0]) rfl ?_
  refine h_zeq (off := 13) (t := 64) rfl rfl (by decide) (fun _ => ?_) (fun c => absurd c (by decide))
  refine h_run 1 (pc' := 65) (l' := [(0, .inr (.inr 1826)), (1, .inl (-1))]) (st' := [.inl (-1)]) rfl ?_
  refine h_reti (x := (-1)) rfl rfl ?_
  exact ⟨rfl, rfl⟩
