/-! the machine counts no more texts' parts than tokens -/
def vl : List tq → Int
  | [] => 0
  | p :: K => (if p.1 = 6 then p.2.1 else if p.1 = 1 ∧ p.2.1 = 59 then -1 else 0) + vl K
def VD9 (q : cf) : Prop := 0 ≤ q.2 0 0 ∧ vl q.1 ≤ q.2 0 0 ∧ ∀ p ∈ q.1, p.1 = 6 → 0 ≤ p.2.1
section VS
variable {X1 X2 : rx} {Y : yx} {K : List tq} {t : Nat} {a b c : Int}
theorem V_up (h : VD9 (K, X1)) (e : X1 0 0 ≤ X2 0 0) : VD9 (K, X2) := ⟨Int.le_trans h.1 e, Int.le_trans h.2.1 e, h.2.2⟩
theorem V_c (h : VD9 (K, X1)) (h6 : t ≠ 6) (h1 : t ≠ 1 ∨ a ≠ 59) : VD9 ((t, a, b, c) :: K, X1) := by
  refine ⟨h.1, ?_, fun p hp e => ?_⟩
  · show (if t = 6 then a else if t = 1 ∧ a = 59 then -1 else 0) + vl K ≤ X1 0 0
    rw [if_neg h6, if_neg (fun q => h1.elim (fun r => r q.1) (fun r => r q.2)), Int.zero_add]
    exact h.2.1
  · rcases List.mem_cons.mp hp with q | q
    · rw [q] at e
      exact absurd e h6
    · exact h.2.2 p q e
theorem V_tl (h : VD9 ((t, a, b, c) :: K, X1)) (h6 : t ≠ 6) (h1 : t ≠ 1 ∨ a ≠ 59) : VD9 (K, X1) := by
  refine ⟨h.1, ?_, fun p hp e => h.2.2 p (List.mem_cons_of_mem _ hp) e⟩
  have q : (if t = 6 then a else if t = 1 ∧ a = 59 then -1 else 0) + vl K ≤ X1 0 0 := h.2.1
  rw [if_neg h6, if_neg (fun q => h1.elim (fun r => r q.1) (fun r => r q.2)), Int.zero_add] at q
  exact q
theorem V_fl {k : Int} (h : VD9 (K, X1)) (e : X1 0 0 ≤ X2 0 0) : VD9 (fl Y X2 k) := by
  have h0 : 0 ≤ X2 0 0 := Int.le_trans h.1 e
  refine ⟨h0, ?_, fun p hp e => ?_⟩
  · show (if (0 : Nat) = 6 then k else if (0 : Nat) = 1 ∧ k = 59 then -1 else 0) + 0 ≤ X2 0 0
    rw [if_neg (by decide), if_neg (fun q => by cases q.1), Int.zero_add]
    exact h0
  · have hp : p ∈ [((0 : Nat), k, ts Y (xi X2), (0 : Int))] := hp
    rw [List.mem_singleton] at hp
    rw [hp] at e
    cases e
/-- a part more is begun: its sign and the count -/
theorem V_dec (h : VD9 ((6, a, b, c) :: K, X1)) : VD9 ((1, 59, 0, 0) :: (6, a + 1, 0, 0) :: K, X1) := by
  have q : (if (6 : Nat) = 6 then a else if (6 : Nat) = 1 ∧ a = 59 then -1 else 0) + vl K ≤ X1 0 0 := h.2.1
  rw [if_pos rfl] at q
  have h6 : 0 ≤ a := h.2.2 _ (List.mem_cons_self ..) rfl
  refine ⟨h.1, ?_, fun p hp e => ?_⟩
  · show (if (1 : Nat) = 6 then (59 : Int) else if (1 : Nat) = 1 ∧ (59 : Int) = 59 then -1 else 0) + ((if (6 : Nat) = 6 then a + 1 else if (6 : Nat) = 1 ∧ a + 1 = 59 then -1 else 0) + vl K) ≤ X1 0 0
    rw [if_neg (by decide), if_pos ⟨rfl, rfl⟩, if_pos rfl]
    omega
  · rcases List.mem_cons.mp hp with r | r
    · rw [r] at e
      cases e
    · rcases List.mem_cons.mp r with r | r
      · rw [r]
        show 0 ≤ a + 1
        omega
      · exact h.2.2 p (List.mem_cons_of_mem _ r) e
theorem V_end (h : VD9 ((6, a, b, c) :: K, X1)) : VD9 (K, X1) := by
  have q : (if (6 : Nat) = 6 then a else if (6 : Nat) = 1 ∧ a = 59 then -1 else 0) + vl K ≤ X1 0 0 := h.2.1
  rw [if_pos rfl] at q
  have h6 : 0 ≤ a := h.2.2 _ (List.mem_cons_self ..) rfl
  exact ⟨h.1, by show vl K ≤ X1 0 0; omega, fun p hp e => h.2.2 p (List.mem_cons_of_mem _ hp) e⟩
theorem V_take (h : VD9 ((1, a, b, c) :: K, X1)) : VD9 (K, adv X1) := by
  have e : adv X1 0 0 = X1 0 0 + 1 := xu_1 _ _ _ _
  have h0 : 0 ≤ X1 0 0 := h.1
  by_cases h9 : a = 59
  · have q : (if (1 : Nat) = 6 then a else if (1 : Nat) = 1 ∧ a = 59 then -1 else 0) + vl K ≤ X1 0 0 := h.2.1
    rw [if_neg (by decide), if_pos ⟨rfl, h9⟩] at q
    exact ⟨by show 0 ≤ adv X1 0 0; omega, by show vl K ≤ adv X1 0 0; omega, fun p hp e => h.2.2 p (List.mem_cons_of_mem _ hp) e⟩
  · exact V_up (V_tl h (by decide) (Or.inr h9)) (by omega)
theorem a_adv (X : rx) : X 0 0 ≤ adv X 0 0 := by rw [show adv X 0 0 = X 0 0 + 1 from xu_1 _ _ _ _]; omega
theorem a_put (X : rx) (s : Int) : X 0 0 ≤ xput X s 0 0 := by rw [(xput_s X s).2.1]; omega
theorem a_vput (X : rx) (x ty s : Int) : X 0 0 ≤ xput (xvar X x ty) s 0 0 := by rw [(xput_s _ s).2.1, xvar_0 X x ty (by decide)]; omega
theorem V_term (h : VD9 ((t, a, b, c) :: K, X1)) (h6 : t = 2) : VD9 (stTerm Y a b c K X1) := by
  subst h6
  have h1 := V_tl h (by decide) (Or.inl (by decide))
  unfold stTerm stApp stVar miss
  repeat' split
  all_goals first
    | exact V_fl h (Int.le_refl _)
    | exact V_up h1 (a_put _ _)
    | exact V_up h1 (a_vput _ _ _ _)
    | exact V_c (V_up h1 (a_put _ _)) (by decide) (Or.inl (by decide))
    | exact V_c (V_c (V_up h1 (a_adv _)) (by decide) (Or.inr (by decide))) (by decide) (Or.inl (by decide))
theorem V_pcon {K0 : List tq} {ins d9 c9 : Int} (h : VD9 (K0, X2)) (h1 : VD9 (K, X2)) : VD9 (stPcon Y a d9 ins c9 K X2) := by
  unfold stPcon
  repeat' split
  all_goals first
    | exact V_fl h (Int.le_refl _)
    | exact V_c (V_up h1 (a_put _ _)) (by decide) (Or.inl (by decide))
theorem V_pat (h : VD9 ((t, a, b, c) :: K, X1)) (h6 : t = 4) : VD9 (stPat Y a b K X1) := by
  subst h6
  have h1 := V_tl h (by decide) (Or.inl (by decide))
  unfold stPat miss
  repeat' split
  all_goals first
    | exact V_fl h (Int.le_refl _)
    | exact V_fl h (a_adv _)
    | exact V_up h1 (a_vput _ _ _ _)
    | exact V_pcon h1 h1
    | exact V_pcon (V_up h1 (a_adv _)) (V_c (V_up h1 (a_adv _)) (by decide) (Or.inr (by decide)))
theorem V_decl (h : VD9 ((6, a, b, c) :: K, X1)) : VD9 (stDec Y a K X1) := by
  have h1 := V_end h
  have hd := V_dec h
  have e1 : ∀ x, X1 0 0 ≤ xtyp (adv X1) x 0 0 := fun x => by rw [(xtyp_s _ x).1]; have := a_adv X1; omega
  have e2 : ∀ x, X1 0 0 ≤ xfun (adv X1) x 0 0 := fun x => by rw [(xfun_s _ x).1]; have := a_adv X1; omega
  have e3 : ∀ s, X1 0 0 ≤ xput (xst (adv X1) 0) s 0 0 := fun s => by rw [(xput_s _ s).2.1, xst_0 _ _ (by decide) (by decide) (by decide)]; have := a_adv X1; omega
  have e4 : ∀ (n : Nat) (x : Int), X1 0 0 ≤ adv (xst (xu (adv X1) 12 n x) 1) 0 0 := fun n x => by
    have q := a_adv (xst (xu (adv X1) 12 n x) 1)
    rw [xst_0 _ _ (by decide) (by decide) (by decide), xu_0 _ _ (fun q => by cases q.1)] at q
    have := a_adv X1
    omega
  unfold stDec miss
  repeat' split
  all_goals first
    | exact V_fl h (Int.le_refl _)
    | exact V_fl h (a_adv _)
    | exact V_up h1 (Int.le_of_eq (xu_0 _ _ (fun q => by cases q.2)).symm)
    | exact V_c (V_c (V_c (V_up hd (e1 _)) (by decide) (Or.inl (by decide))) (by decide) (Or.inl (by decide))) (by decide) (Or.inr (by decide))
    | exact V_c (V_c (V_c (V_up hd (e2 _)) (by decide) (Or.inl (by decide))) (by decide) (Or.inl (by decide))) (by decide) (Or.inr (by decide))
    | exact V_c (V_c (V_c (V_c (V_up hd (e3 _)) (by decide) (Or.inl (by decide))) (by decide) (Or.inl (by decide))) (by decide) (Or.inr (by decide))) (by decide) (Or.inl (by decide))
    | exact V_c (V_c (V_c (V_c (V_c (V_up hd (e4 _ _)) (by decide) (Or.inl (by decide))) (by decide) (Or.inl (by decide))) (by decide) (Or.inr (by decide))) (by decide) (Or.inl (by decide))) (by decide) (Or.inr (by decide))
end VS
theorem V_step {Y : yx} {q : cf} (h : VD9 q) : VD9 (step Y q) := by
  obtain ⟨K, X1⟩ := q
  cases K with
  | nil => exact h
  | cons p K =>
    obtain ⟨t, a, b, c⟩ := p
    match t, h with
    | 0, h => exact h
    | 1, h =>
      show VD9 (if tk Y (xi X1) = a then (K, adv X1) else miss Y X1)
      unfold miss
      split
      · exact V_take h
      · exact V_fl h (Int.le_refl _)
    | 2, h => exact V_term h rfl
    | 3, h =>
      have h1 := V_tl h (by decide) (Or.inl (by decide))
      show VD9 (if b < ar X1 a then ((2, aty9 X1 a b, c, 1) :: (3, a, b + 1, c) :: K, X1) else (K, X1))
      split
      · exact V_c (V_c h1 (by decide) (Or.inl (by decide))) (by decide) (Or.inl (by decide))
      · exact h1
    | 4, h => exact V_pat h rfl
    | 5, h =>
      have h1 := V_tl h (by decide) (Or.inl (by decide))
      show VD9 (if b < ar X1 a then ((4, aty9 X1 a b, c, 0) :: (5, a, b + 1, c) :: K, X1) else (K, X1))
      split
      · exact V_c (V_c h1 (by decide) (Or.inl (by decide))) (by decide) (Or.inl (by decide))
      · exact h1
    | 6, h => exact V_decl h
    | 7, h =>
      have h1 := V_tl h (by decide) (Or.inl (by decide))
      show VD9 (if tk Y (xi X1) ≠ 3 then miss Y X1 else if 0 ≤ cfd Y X1 then fl Y X1 3 else if 16 ≤ X1 0 4 then fl Y X1 5 else ((8, X1 0 4, 0, 0) :: K, xcon X1 (tn Y (xi X1)) a))
      unfold miss
      repeat' split
      all_goals first
        | exact V_fl h (Int.le_refl _)
        | exact V_c (V_up h1 (by rw [(xcon_s _ _ _).1]; omega)) (by decide) (Or.inl (by decide))
    | 8, h =>
      have h1 := V_tl h (by decide) (Or.inl (by decide))
      show VD9 (if tk Y (xi X1) = 3 then (if tfd Y X1 < 0 then fl Y X1 3 else if b = 3 then fl Y X1 5 else ((8, a, b + 1, 0) :: K, xcar X1 a (tfd Y X1))) else (K, X1))
      repeat' split
      all_goals first
        | exact V_fl h (Int.le_refl _)
        | exact h1
        | exact V_c (V_up h1 (by rw [(xcar_s _ _ _).1]; omega)) (by decide) (Or.inl (by decide))
    | 9, h =>
      have h1 := V_tl h (by decide) (Or.inl (by decide))
      show VD9 (if tk Y (xi X1) = 124 then ((7, a, 0, 0) :: (9, a, 0, 0) :: K, adv X1) else (K, X1))
      split
      · exact V_c (V_c (V_up h1 (a_adv _)) (by decide) (Or.inl (by decide))) (by decide) (Or.inl (by decide))
      · exact h1
    | 10, h =>
      have h1 := V_tl h (by decide) (Or.inl (by decide))
      show VD9 (if tk Y (xi X1) ≠ 3 then miss Y X1 else if tfd Y X1 < 0 then fl Y X1 3 else (K, adv (xu X1 7 a.toNat (tfd Y X1))))
      unfold miss
      repeat' split
      all_goals first
        | exact V_fl h (Int.le_refl _)
        | exact V_up h1 (by have q := a_adv (xu X1 7 a.toNat (tfd Y X1)); rw [xu_0 _ _ (fun q => by cases q.1)] at q; exact q)
    | 11, h =>
      have h1 := V_tl h (by decide) (Or.inl (by decide))
      show VD9 (if tk Y (xi X1) = 62 then (if b = 4 then fl Y X1 5 else ((10, a, 0, 0) :: (11, a, b + 1, 0) :: K, xfar X1 a)) else (K, X1))
      repeat' split
      all_goals first
        | exact V_fl h (Int.le_refl _)
        | exact h1
        | exact V_c (V_c (V_up h1 (by rw [(xfar_s _ _).1]; omega)) (by decide) (Or.inl (by decide))) (by decide) (Or.inl (by decide))
    | 12, h => exact V_c (V_up (V_tl h (by decide) (Or.inl (by decide))) (Int.le_of_eq (xu_0 _ _ (fun q => by cases q.2)).symm)) (by decide) (Or.inl (by decide))
    | 13, h => exact V_up (V_tl h (by decide) (Or.inl (by decide))) (Int.le_of_eq (xu_0 _ _ (fun q => by cases q.2)).symm)
    | 14, h => exact V_c (V_up (V_tl h (by decide) (Or.inl (by decide))) (Int.le_of_eq (xu_0 _ _ (fun q => by cases q.2)).symm)) (by decide) (Or.inl (by decide))
    | n + 15, h => exact V_up (V_tl h (by omega) (Or.inl (by omega))) (Int.le_of_eq (xu_0 _ _ (fun q => by cases q.2)).symm)
theorem V_rch {Y : yx} {q q' : cf} (h : VD9 q) (r : rch Y q q') : VD9 q' := by
  obtain ⟨m, rfl⟩ := r
  induction m generalizing q with
  | zero => exact h
  | succ m ih => exact ih (V_step h)
/-- no more parts are counted than there are tokens before -/
theorem V_all {X : rx} (h0 : X 0 0 = 0) {Y : yx} {n : Int} {X1 : rx} (r : rch Y ([(6, 0, 0, 0)], X) ([(6, n, 0, 0)], X1)) : n ≤ X1 0 0 := by
  have h : VD9 ([((6 : Nat), (0 : Int), (0 : Int), (0 : Int))], X) := by
    refine ⟨Int.le_of_eq h0.symm, ?_, fun p hp e => ?_⟩
    · show (if (6 : Nat) = 6 then (0 : Int) else _) + 0 ≤ X 0 0
      rw [if_pos rfl, h0]
      decide
    · have hp : p ∈ [((6 : Nat), (0 : Int), (0 : Int), (0 : Int))] := hp
      rw [List.mem_singleton] at hp
      rw [hp]
      exact Int.le_refl _
  have q : (if (6 : Nat) = 6 then n else if (6 : Nat) = 1 ∧ n = 59 then -1 else 0) + 0 ≤ X1 0 0 := (V_rch h r).2.1
  rw [if_pos rfl] at q
  omega
