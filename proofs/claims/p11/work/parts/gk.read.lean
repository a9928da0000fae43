/-! the machine counts no more texts' parts than tokens -/
def vl : List tq → Int
  | [] => 0
  | p :: K => (if p.1 = 6 then p.2.1 else if p.1 = 1 ∧ p.2.1 = 59 then -1 else 0) + vl K
def VD9 (q : cf) : Prop := 0 ≤ q.2 0 0 ∧ vl q.1 ≤ q.2 0 0 ∧ ∀ p ∈ q.1, p.1 = 6 → 0 ≤ p.2.1
section VS
variable {X1 X2 : rx} {Y : yx} {K : List tq} {t : Nat} {a b c : Int}
theorem V_up (h : VD9 (K, X1)) (e : X1 0 0 ≤ X2 0 0) : VD9 (K, X2) := ⟨Int.le_trans h.1 e, Int.le_trans h.2.1 e, h.2.2⟩
theorem V_c (h : VD9 (K, X1)) (h6 : t ≠ 6) (h1 : t ≠ 1 ∨ a ≠ 59) : VD9 ((t, a, b, c) :: K, X1) := by
  refine ⟨h.1, ?_, fun p hp e => ?_⟩
  · show (if t = 6 then a else if t = 1 ∧ a = 59 then -1 else 0) + vl K ≤ X1 0 0
    rw [if_neg h6, if_neg (fun q => h1.elim (fun r => r q.1) (fun r => r q.2)), Int.zero_add]
    exact h.2.1
  · rcases List.mem_cons.mp hp with q | q
    · rw [q] at e
      exact absurd e h6
    · exact h.2.2 p q e
theorem V_tl (h : VD9 ((t, a, b, c) :: K, X1)) (h6 : t ≠ 6) (h1 : t ≠ 1 ∨ a ≠ 59) : VD9 (K, X1) := by
  refine ⟨h.1, ?_, fun p hp e => h.2.2 p (List.mem_cons_of_mem _ hp) e⟩
  have q : (if t = 6 then a else if t = 1 ∧ a = 59 then -1 else 0) + vl K ≤ X1 0 0 := h.2.1
  rw [if_neg h6, if_neg (fun q => h1.elim (fun r => r q.1) (fun r => r q.2)), Int.zero_add] at q
  exact q
theorem V_fl {k : Int} (h : VD9 (K, X1)) (e : X1 0 0 ≤ X2 0 0) : VD9 (fl Y X2 k) := by
  have h0 : 0 ≤ X2 0 0 := Int.le_trans h.1 e
  refine ⟨h0, ?_, fun p hp e => ?_⟩
  · show (if (0 : Nat) = 6 then k else if (0 : Nat) = 1 ∧ k = 59 then -1 else 0) + 0 ≤ X2 0 0
    rw [if_neg (by decide), if_neg (fun q => by cases q.1), Int.zero_add]
    exact h0
  · have hp : p ∈ [((0 : Nat), k, ts Y (xi X2), (0 : Int))] := hp
    rw [List.mem_singleton] at hp
    rw [hp] at e
    cases e
/-- a part more is begun: its sign and the count -/
theorem V_dec (h : VD9 ((6, a, b, c) :: K, X1)) : VD9 ((1, 59, 0, 0) :: (6, a + 1, 0, 0) :: K, X1) := by
  have q : (if (6 : Nat) = 6 then a else if (6 : Nat) = 1 ∧ a = 59 then -1 else 0) + vl K ≤ X1 0 0 := h.2.1
  rw [if_pos rfl] at q
  have h6 : 0 ≤ a := h.2.2 _ (List.mem_cons_self ..) rfl
  refine ⟨h.1, ?_, fun p hp e => ?_⟩
  · show (if (1 : Nat) = 6 then (59 : Int) else if (1 : Nat) = 1 ∧ (59 : Int) = 59 then -1 else 0) + ((if (6 : Nat) = 6 then a + 1 else if (6 : Nat) = 1 ∧ a + 1 = 59 then -1 else 0) + vl K) ≤ X1 0 0
    rw [if_neg (by decide), if_pos ⟨rfl, rfl⟩, if_pos rfl]
    omega
  · rcases List.mem_cons.mp hp with r | r
    · rw [r] at e
      cases e
    · rcases List.mem_cons.mp r with r | r
      · rw [r]
        show 0 ≤ a + 1
        omega
      · exact h.2.2 p (List.mem_cons_of_mem _ r) e
theorem V_end (h : VD9 ((6, a, b, c) :: K, X1)) : VD9 (K, X1) := by
  have q : (if (6 : Nat) = 6 then a else if (6 : Nat) = 1 ∧ a = 59 then -1 else 0) + vl K ≤ X1 0 0 := h.2.1
  rw [if_pos rfl] at q
  have h6 : 0 ≤ a := h.2.2 _ (List.mem_cons_self ..) rfl
  exact ⟨h.1, by show vl K ≤ X1 0 0; omega, fun p hp e => h.2.2 p (List.mem_cons_of_mem _ hp) e⟩
theorem V_take (h : VD9 ((1, a, b, c) :: K, X1)) : VD9 (K, adv X1) := by
  have e : adv X1 0 0 = X1 0 0 + 1 := xu_1 _ _ _ _
  have h0 : 0 ≤ X1 0 0 := h.1
  by_cases h9 : a = 59
  · have q : (if (1 : Nat) = 6 then a else if (1 : Nat) = 1 ∧ a = 59 then -1 else 0) + vl K ≤ X1 0 0 := h.2.1
    rw [if_neg (by decide), if_pos ⟨rfl, h9⟩] at q
    exact ⟨by show 0 ≤ adv X1 0 0; omega, by show vl K ≤ adv X1 0 0; omega, fun p hp e => h.2.2 p (List.mem_cons_of_mem _ hp) e⟩
  · exact V_up (V_tl h (by decide) (Or.inr h9)) (by omega)
theorem a_adv (X : rx) : X 0 0 ≤ adv X 0 0 := by rw [show adv X 0 0 = X 0 0 + 1 from xu_1 _ _ _ _]; omega
theorem a_put (X : rx) (s : Int) : X 0 0 ≤ xput X s 0 0 := by rw [(xput_s X s).2.1]; omega
theorem a_vput (X : rx) (x ty s : Int) : X 0 0 ≤ xput (xvar X x ty) s 0 0 := by rw [(xput_s _ s).2.1, xvar_0 X x ty (by decide)]; omega
theorem V_term (h : VD9 ((t, a, b, c) :: K, X1)) (h6 : t = 2) : VD9 (stTerm Y a b c K X1) := by
  subst h6
  have h1 := V_tl h (by decide) (Or.inl (by decide))
  unfold stTerm stApp stVar miss
  repeat' split
  all_goals first
    | exact V_fl h (Int.le_refl _)
    | exact V_up h1 (a_put _ _)
    | exact V_up h1 (a_vput _ _ _ _)
    | exact V_c (V_up h1 (a_put _ _)) (by decide) (Or.inl (by decide))
    | exact V_c (V_c (V_up h1 (a_adv _)) (by decide) (Or.inr (by decide))) (by decide) (Or.inl (by decide))
theorem V_pcon {K0 : List tq} {ins d9 c9 : Int} (h : VD9 (K0, X2)) (h1 : VD9 (K, X2)) : VD9 (stPcon Y a d9 ins c9 K X2) := by
  unfold stPcon
  repeat' split
  all_goals first
    | exact V_fl h (Int.le_refl _)
    | exact V_c (V_up h1 (a_put _ _)) (by decide) (Or.inl (by decide))
theorem V_pat (h : VD9 ((t, a, b, c) :: K, X1)) (h6 : t = 4) : VD9 (stPat Y a b K X1) := by
  subst h6
  have h1 := V_tl h (by decide) (Or.inl (by decide))
  unfold stPat miss
  repeat' split
  all_goals first
    | exact V_fl h (Int.le_refl _)
    | exact V_fl h (a_adv _)
    | exact V_up h1 (a_vput _ _ _ _)
    | exact V_pcon h1 h1
    | exact V_pcon (V_up h1 (a_adv _)) (V_c (V_up h1 (a_adv _)) (by decide) (Or.inr (by decide)))
theorem V_decl (h : VD9 ((6, a, b, c) :: K, X1)) : VD9 (stDec Y a K X1) := by
  have h1 := V_end h
  have hd := V_dec h
  have e1 : ∀ x, X1 0 0 ≤ xtyp (adv X1) x 0 0 := fun x => by rw [(xtyp_s _ x).1]; have := a_adv X1; omega
  have e2 : ∀ x, X1 0 0 ≤ xfun (adv X1) x 0 0 := fun x => by rw [(xfun_s _ x).1]; have := a_adv X1; omega
  have e3 : ∀ s, X1 0 0 ≤ xput (xst (adv X1) 0) s 0 0 := fun s => by rw [(xput_s _ s).2.1, xst_0 _ _ (by decide) (by decide) (by decide)]; have := a_adv X1; omega
  have e4 : ∀ (n : Nat) (x : Int), X1 0 0 ≤ adv (xst (xu (adv X1) 12 n x) 1) 0 0 := fun n x => by
    have q := a_adv (xst (xu (adv X1) 12 n x) 1)
    rw [xst_0 _ _ (by decide) (by decide) (by decide), xu_0 _ _ (fun q => by cases q.1)] at q
    have := a_adv X1
    omega
  unfold stDec miss
  repeat' split
  all_goals first
    | exact V_fl h (Int.le_refl _)
    | exact V_fl h (a_adv _)
    | exact V_up h1 (Int.le_of_eq (xu_0 _ _ (fun q => by cases q.2)).symm)
    | exact V_c (V_c (V_c (V_up hd (e1 _)) (by decide) (Or.inl (by decide))) (by decide) (Or.inl (by decide))) (by decide) (Or.inr (by decide))
    | exact V_c (V_c (V_c (V_up hd (e2 _)) (by decide) (Or.inl (by decide))) (by decide) (Or.inl (by decide))) (by decide) (Or.inr (by decide))
    | exact V_c (V_c (V_c (V_c (V_up hd (e3 _)) (by decide) (Or.inl (by decide))) (by decide) (Or.inl (by decide))) (by decide) (Or.inr (by decide))) (by decide) (Or.inl (by decide))
    | exact V_c (V_c (V_c (V_c (V_c (V_up hd (e4 _ _)) (by decide) (Or.inl (by decide))) (by decide) (Or.inl (by decide))) (by decide) (Or.inr (by decide))) (by decide) (Or.inl (by decide))) (by decide) (Or.inr (by decide))
end VS
theorem V_step {Y : yx} {q : cf} (h : VD9 q) : VD9 (step Y q) := by
  obtain ⟨K, X1⟩ := q
  cases K with
  | nil => exact h
  | cons p K =>
    obtain ⟨t, a, b, c⟩ := p
    match t, h with
    | 0, h => exact h
    | 1, h =>
      show VD9 (if tk Y (xi X1) = a then (K, adv X1) else miss Y X1)
      unfold miss
      split
      · exact V_take h
      · exact V_fl h (Int.le_refl _)
    | 2, h => exact V_term h rfl
    | 3, h =>
      have h1 := V_tl h (by decide) (Or.inl (by decide))
      show VD9 (if b < ar X1 a then ((2, aty9 X1 a b, c, 1) :: (3, a, b + 1, c) :: K, X1) else (K, X1))
      split
      · exact V_c (V_c h1 (by decide) (Or.inl (by decide))) (by decide) (Or.inl (by decide))
      · exact h1
    | 4, h => exact V_pat h rfl
    | 5, h =>
      have h1 := V_tl h (by decide) (Or.inl (by decide))
      show VD9 (if b < ar X1 a then ((4, aty9 X1 a b, c, 0) :: (5, a, b + 1, c) :: K, X1) else (K, X1))
      split
      · exact V_c (V_c h1 (by decide) (Or.inl (by decide))) (by decide) (Or.inl (by decide))
      · exact h1
    | 6, h => exact V_decl h
    | 7, h =>
      have h1 := V_tl h (by decide) (Or.inl (by decide))
      show VD9 (if tk Y (xi X1) ≠ 3 then miss Y X1 else if 0 ≤ cfd Y X1 then fl Y X1 3 else if 16 ≤ X1 0 4 then fl Y X1 5 else ((8, X1 0 4, 0, 0) :: K, xcon X1 (tn Y (xi X1)) a))
      unfold miss
      repeat' split
      all_goals first
        | exact V_fl h (Int.le_refl _)
        | exact V_c (V_up h1 (by rw [(xcon_s _ _ _).1]; omega)) (by decide) (Or.inl (by decide))
    | 8, h =>
      have h1 := V_tl h (by decide) (Or.inl (by decide))
      show VD9 (if tk Y (xi X1) = 3 then (if tfd Y X1 < 0 then fl Y X1 3 else if b = 3 then fl Y X1 5 else ((8, a, b + 1, 0) :: K, xcar X1 a (tfd Y X1))) else (K, X1))
      repeat' split
      all_goals first
        | exact V_fl h (Int.le_refl _)
        | exact h1
        | exact V_c (V_up h1 (by rw [(xcar_s _ _ _).1]; omega)) (by decide) (Or.inl (by decide))
    | 9, h =>
      have h1 := V_tl h (by decide) (Or.inl (by decide))
      show VD9 (if tk Y (xi X1) = 124 then ((7, a, 0, 0) :: (9, a, 0, 0) :: K, adv X1) else (K, X1))
      split
      · exact V_c (V_c (V_up h1 (a_adv _)) (by decide) (Or.inl (by decide))) (by decide) (Or.inl (by decide))
      · exact h1
    | 10, h =>
      have h1 := V_tl h (by decide) (Or.inl (by decide))
      show VD9 (if tk Y (xi X1) ≠ 3 then miss Y X1 else if tfd Y X1 < 0 then fl Y X1 3 else (K, adv (xu X1 7 a.toNat (tfd Y X1))))
      unfold miss
      repeat' split
      all_goals first
        | exact V_fl h (Int.le_refl _)
        | exact V_up h1 (by have q := a_adv (xu X1 7 a.toNat (tfd Y X1)); rw [xu_0 _ _ (fun q => by cases q.1)] at q; exact q)
    | 11, h =>
      have h1 := V_tl h (by decide) (Or.inl (by decide))
      show VD9 (if tk Y (xi X1) = 62 then (if b = 4 then fl Y X1 5 else ((10, a, 0, 0) :: (11, a, b + 1, 0) :: K, xfar X1 a)) else (K, X1))
      repeat' split
      all_goals first
        | exact V_fl h (Int.le_refl _)
        | exact h1
        | exact V_c (V_c (V_up h1 (by rw [(xfar_s _ _).1]; omega)) (by decide) (Or.inl (by decide))) (by decide) (Or.inl (by decide))
    | 12, h => exact V_c (V_up (V_tl h (by decide) (Or.inl (by decide))) (Int.le_refl (X1 0 0))) (by decide) (Or.inl (by decide))
    | 13, h => exact V_up (V_tl h (by decide) (Or.inl (by decide))) (Int.le_refl (X1 0 0))
    | 14, h => exact V_c (V_up (V_tl h (by decide) (Or.inl (by decide))) (Int.le_refl (X1 0 0))) (by decide) (Or.inl (by decide))
    | n + 15, h => exact V_up (V_tl h (by omega) (Or.inl (by omega))) (Int.le_refl (X1 0 0))
theorem V_rch {Y : yx} {q q' : cf} (h : VD9 q) (r : rch Y q q') : VD9 q' := by
  obtain ⟨m, rfl⟩ := r
  induction m generalizing q with
  | zero => exact h
  | succ m ih => exact ih (V_step h)
/-- no more parts are counted than there are tokens before -/
theorem V_all {X : rx} (h0 : X 0 0 = 0) {Y : yx} {n : Int} {X1 : rx} (r : rch Y ([(6, 0, 0, 0)], X) ([(6, n, 0, 0)], X1)) : n ≤ X1 0 0 := by
  have h : VD9 ([((6 : Nat), (0 : Int), (0 : Int), (0 : Int))], X) := by
    refine ⟨Int.le_of_eq h0.symm, ?_, fun p hp e => ?_⟩
    · show (if (6 : Nat) = 6 then (0 : Int) else _) + 0 ≤ X 0 0
      rw [if_pos rfl, h0]
      decide
    · have hp : p ∈ [((6 : Nat), (0 : Int), (0 : Int), (0 : Int))] := hp
      rw [List.mem_singleton] at hp
      rw [hp]
      exact Int.le_refl _
  have q : (if (6 : Nat) = 6 then n else if (6 : Nat) = 1 ∧ n = 59 then -1 else 0) + 0 ≤ X1 0 0 := (V_rch h r).2.1
  rw [if_pos rfl] at q
  omega

/-! the machine leaves the sides kept before, and knows the signs that it keeps -/
def LB (X X1 : rx) : Prop := (X 0 6 ≤ X1 0 6 ∧ X 0 7 ≤ X1 0 7) ∧ (∀ r : Nat, (r : Int) < X 0 6 → X1 (4 * r + 100) = X (4 * r + 100) ∧ X1 (4 * r + 101) = X (4 * r + 101)) ∧ ∀ l : Nat, (l : Int) < X 0 7 → X1 (4 * l + 102) = X (4 * l + 102) ∧ X1 (4 * l + 103) = X (4 * l + 103)
/-- sides and their counts stay -/
def sU (X X1 : rx) : Prop := (∀ c, 14 ≤ c → X1 c = X c) ∧ X1 0 6 = X 0 6 ∧ X1 0 7 = X 0 7
theorem LB_rf (X : rx) : LB X X := ⟨⟨Int.le_refl _, Int.le_refl _⟩, fun _ _ => ⟨rfl, rfl⟩, fun _ _ => ⟨rfl, rfl⟩⟩
theorem LB_u {X X1 X2 : rx} (h : LB X X1) (e : sU X1 X2) : LB X X2 := by
  obtain ⟨e1, e2, e3⟩ := e
  obtain ⟨⟨h1, h2⟩, h3, h4⟩ := h
  exact ⟨⟨by omega, by omega⟩, fun r hr => ⟨(e1 _ (by omega)).trans (h3 r hr).1, (e1 _ (by omega)).trans (h3 r hr).2⟩, fun l hl => ⟨(e1 _ (by omega)).trans (h4 l hl).1, (e1 _ (by omega)).trans (h4 l hl).2⟩⟩
theorem sU_rf (X : rx) : sU X X := ⟨fun _ _ => rfl, rfl, rfl⟩
theorem sU_tr {X X1 X2 : rx} (h : sU X X1) (g : sU X1 X2) : sU X X2 := ⟨fun c hc => (g.1 c hc).trans (h.1 c hc), g.2.1.trans h.2.1, g.2.2.trans h.2.2⟩
theorem sU_x (X : rx) {c j : Nat} {z : Int} (h : (c ≠ 0 ∧ c < 14) ∨ (c = 0 ∧ j ≠ 6 ∧ j ≠ 7)) : sU X (xu X c j z) := ⟨fun k hk => xu_ne _ _ _ (by omega), xu_0 _ _ (fun q => by omega), xu_0 _ _ (fun q => by omega)⟩
theorem sU_adv (X : rx) : sU X (adv X) := sU_x X (by omega)
theorem sU_put (X : rx) (s : Int) : sU X (xput X s) := sU_tr (sU_tr (sU_x X (by omega)) (sU_x _ (by omega))) (sU_adv _)
theorem sU_var (X : rx) (x ty : Int) : sU X (xvar X x ty) := sU_tr (sU_tr (sU_x X (by omega)) (sU_x _ (by omega))) (sU_x _ (by omega))
theorem sU_typ (X : rx) (x : Int) : sU X (xtyp X x) := sU_tr (sU_tr (sU_x X (by omega)) (sU_x _ (by omega))) (sU_adv _)
theorem sU_con (X : rx) (x ty : Int) : sU X (xcon X x ty) := sU_tr (sU_tr (sU_tr (sU_tr (sU_x X (by omega)) (sU_x _ (by omega))) (sU_x _ (by omega))) (sU_x _ (by omega))) (sU_adv _)
theorem sU_fun (X : rx) (x : Int) : sU X (xfun X x) := sU_tr (sU_tr (sU_tr (sU_tr (sU_x X (by omega)) (sU_x _ (by omega))) (sU_x _ (by omega))) (sU_x _ (by omega))) (sU_adv _)
theorem sU_car (X : rx) (c ty : Int) : sU X (xcar X c ty) := sU_tr (sU_tr (sU_x X (by omega)) (sU_x _ (by omega))) (sU_adv _)
theorem sU_far (X : rx) (f : Int) : sU X (xfar X f) := sU_tr (sU_tr (sU_x X (by omega)) (sU_x _ (by omega))) (sU_adv _)
theorem sU_st (X : rx) (a : Int) : sU X (xst X a) := sU_tr (sU_tr (sU_x X (by omega)) (sU_x _ (by omega))) (sU_x _ (by omega))
/-- a side is kept in a row that was free -/
theorem LB_sd {X X1 : rx} {s : Nat} (h : LB X X1) (hs : (∀ r : Nat, (r : Int) < X 0 6 → 4 * r + 100 ≠ s ∧ 4 * r + 101 ≠ s) ∧ ∀ l : Nat, (l : Int) < X 0 7 → 4 * l + 102 ≠ s ∧ 4 * l + 103 ≠ s) : LB X (xsd X1 s) := by
  obtain ⟨h1, h3, h4⟩ := h
  exact ⟨h1, fun r hr => ⟨(xsd_ne _ (hs.1 r hr).1).trans (h3 r hr).1, (xsd_ne _ (hs.1 r hr).2).trans (h3 r hr).2⟩, fun l hl => ⟨(xsd_ne _ (hs.2 l hl).1).trans (h4 l hl).1, (xsd_ne _ (hs.2 l hl).2).trans (h4 l hl).2⟩⟩
theorem LB_6 {X X1 : rx} (h : LB X X1) : LB X (xu X1 0 6 (X1 0 6 + 1)) := by
  obtain ⟨⟨h1, h2⟩, h3, h4⟩ := h
  have e6 : xu X1 0 6 (X1 0 6 + 1) 0 6 = X1 0 6 + 1 := xu_1 _ _ _ _
  have e7 : xu X1 0 6 (X1 0 6 + 1) 0 7 = X1 0 7 := xu_0 _ _ (fun q => by omega)
  have er : ∀ c, c ≠ 0 → xu X1 0 6 (X1 0 6 + 1) c = X1 c := fun c a => xu_ne _ _ _ a
  exact ⟨⟨by omega, by omega⟩, fun r hr => ⟨(er _ (by omega)).trans (h3 r hr).1, (er _ (by omega)).trans (h3 r hr).2⟩, fun l hl => ⟨(er _ (by omega)).trans (h4 l hl).1, (er _ (by omega)).trans (h4 l hl).2⟩⟩
theorem LB_7 {X X1 : rx} (h : LB X X1) : LB X (xu X1 0 7 (X1 0 7 + 1)) := by
  obtain ⟨⟨h1, h2⟩, h3, h4⟩ := h
  have e6 : xu X1 0 7 (X1 0 7 + 1) 0 7 = X1 0 7 + 1 := xu_1 _ _ _ _
  have e7 : xu X1 0 7 (X1 0 7 + 1) 0 6 = X1 0 6 := xu_0 _ _ (fun q => by omega)
  have er : ∀ c, c ≠ 0 → xu X1 0 7 (X1 0 7 + 1) c = X1 c := fun c a => xu_ne _ _ _ a
  exact ⟨⟨by omega, by omega⟩, fun r hr => ⟨(er _ (by omega)).trans (h3 r hr).1, (er _ (by omega)).trans (h3 r hr).2⟩, fun l hl => ⟨(er _ (by omega)).trans (h4 l hl).1, (er _ (by omega)).trans (h4 l hl).2⟩⟩
section LS
variable {X X1 : rx} {Y : yx} {K : List tq} {a b c : Int}
theorem L_term (h : LB X X1) : LB X (stTerm Y a b c K X1).2 := by
  unfold stTerm stApp stVar miss
  repeat' split
  all_goals first
    | exact h
    | exact LB_u h (sU_put _ _)
    | exact LB_u h (sU_tr (sU_var _ _ _) (sU_put _ _))
    | exact LB_u h (sU_adv _)
theorem L_pcon {ins d9 c9 : Int} (h : LB X X1) : LB X (stPcon Y a d9 ins c9 K X1).2 := by
  unfold stPcon
  repeat' split
  all_goals first
    | exact h
    | exact LB_u h (sU_put _ _)
theorem L_pat (h : LB X X1) : LB X (stPat Y a b K X1).2 := by
  unfold stPat miss
  repeat' split
  all_goals first
    | exact h
    | exact LB_u h (sU_adv _)
    | exact LB_u h (sU_tr (sU_var _ _ _) (sU_put _ _))
    | exact L_pcon h
    | exact L_pcon (LB_u h (sU_adv _))
theorem L_dec (h : LB X X1) : LB X (stDec Y a K X1).2 := by
  unfold stDec miss
  repeat' split
  all_goals first
    | exact h
    | exact LB_u h (sU_adv _)
    | exact LB_u h (sU_x _ (by omega))
    | exact LB_u h (sU_tr (sU_adv _) (sU_typ _ _))
    | exact LB_u h (sU_tr (sU_adv _) (sU_fun _ _))
    | exact LB_u h (sU_tr (sU_tr (sU_adv _) (sU_st _ 0)) (sU_put _ _))
    | exact LB_u h (sU_tr (sU_tr (sU_tr (sU_adv _) (sU_x _ (by omega))) (sU_st _ 1)) (sU_adv _))
end LS
theorem L_step {X : rx} (h0 : P0 X) {Y : yx} {q : cf} (h : LB X q.2) : LB X (step Y q).2 := by
  obtain ⟨K, X1⟩ := q
  have h : LB X X1 := h
  have h6 := h.1.1
  have h7 := h.1.2
  have p6 := h0.2.2.2.1
  have p7 := h0.2.2.2.2
  cases K with
  | nil => exact h
  | cons p K =>
    obtain ⟨t, a, b, c⟩ := p
    match t with
    | 0 => exact h
    | 1 =>
      show LB X (if tk Y (xi X1) = a then (K, adv X1) else miss Y X1).2
      unfold miss
      split
      · exact LB_u h (sU_adv _)
      · exact h
    | 2 => exact L_term h
    | 3 =>
      show LB X (if b < ar X1 a then ((2, aty9 X1 a b, c, 1) :: (3, a, b + 1, c) :: K, X1) else (K, X1)).2
      split <;> exact h
    | 4 => exact L_pat h
    | 5 =>
      show LB X (if b < ar X1 a then ((4, aty9 X1 a b, c, 0) :: (5, a, b + 1, c) :: K, X1) else (K, X1)).2
      split <;> exact h
    | 6 => exact L_dec h
    | 7 =>
      show LB X (if tk Y (xi X1) ≠ 3 then miss Y X1 else if 0 ≤ cfd Y X1 then fl Y X1 3 else if 16 ≤ X1 0 4 then fl Y X1 5 else ((8, X1 0 4, 0, 0) :: K, xcon X1 (tn Y (xi X1)) a)).2
      unfold miss
      repeat' split
      all_goals first
        | exact h
        | exact LB_u h (sU_con _ _ _)
    | 8 =>
      show LB X (if tk Y (xi X1) = 3 then (if tfd Y X1 < 0 then fl Y X1 3 else if b = 3 then fl Y X1 5 else ((8, a, b + 1, 0) :: K, xcar X1 a (tfd Y X1))) else (K, X1)).2
      repeat' split
      all_goals first
        | exact h
        | exact LB_u h (sU_car _ _ _)
    | 9 =>
      show LB X (if tk Y (xi X1) = 124 then ((7, a, 0, 0) :: (9, a, 0, 0) :: K, adv X1) else (K, X1)).2
      split
      · exact LB_u h (sU_adv _)
      · exact h
    | 10 =>
      show LB X (if tk Y (xi X1) ≠ 3 then miss Y X1 else if tfd Y X1 < 0 then fl Y X1 3 else (K, adv (xu X1 7 a.toNat (tfd Y X1)))).2
      unfold miss
      repeat' split
      all_goals first
        | exact h
        | exact LB_u h (sU_tr (sU_x _ (by omega)) (sU_adv _))
    | 11 =>
      show LB X (if tk Y (xi X1) = 62 then (if b = 4 then fl Y X1 5 else ((10, a, 0, 0) :: (11, a, b + 1, 0) :: K, xfar X1 a)) else (K, X1)).2
      repeat' split
      all_goals first
        | exact h
        | exact LB_u h (sU_far _ _)
    | 12 => exact LB_u (LB_sd h ⟨fun r hr => ⟨by omega, by omega⟩, fun l hl => ⟨by omega, by omega⟩⟩) (sU_x _ (by omega))
    | 13 =>
      show LB X (xu (xsd X1 (4 * (X1 0 6).toNat + 101)) 0 6 (X1 0 6 + 1))
      exact LB_6 (X1 := xsd X1 (4 * (X1 0 6).toNat + 101)) (LB_sd h ⟨fun r hr => ⟨by omega, by omega⟩, fun l hl => ⟨by omega, by omega⟩⟩)
    | 14 => exact LB_u (LB_sd h ⟨fun r hr => ⟨by omega, by omega⟩, fun l hl => ⟨by omega, by omega⟩⟩) (sU_x _ (by omega))
    | n + 15 =>
      show LB X (xu (xsd X1 (4 * (X1 0 7).toNat + 103)) 0 7 (X1 0 7 + 1))
      exact LB_7 (X1 := xsd X1 (4 * (X1 0 7).toNat + 103)) (LB_sd h ⟨fun r hr => ⟨by omega, by omega⟩, fun l hl => ⟨by omega, by omega⟩⟩)
theorem L_rch {X : rx} (h0 : P0 X) {Y : yx} {q q' : cf} (h : LB X q.2) (r : rch Y q q') : LB X q'.2 := by
  obtain ⟨m, rfl⟩ := r
  induction m generalizing q with
  | zero => exact h
  | succ m ih => exact ih (L_step h0 h)
/-- a sign that is known: unfinished, a variable, or one that was told -/
def kn9 (X : rx) (s : Int) : Prop := s = 0 ∨ 1000 ≤ s ∨ HS X s
theorem kn9_le {X X1 : rx} {s : Int} (h : kn9 X s) (h4 : X 0 4 ≤ X1 0 4) (h5 : X 0 5 ≤ X1 0 5) : kn9 X1 s := by
  unfold kn9 HS at h ⊢
  omega
def MI (X : rx) : Prop := (0 ≤ X 0 1 ∧ (0 ≤ X 0 2 ∧ X 0 2 ≤ 40) ∧ (0 ≤ X 0 4 ∧ X 0 4 ≤ 16) ∧ (0 ≤ X 0 5 ∧ X 0 5 ≤ 16)) ∧ (∀ k : Nat, (k : Int) < X 0 2 → kn9 X (X 13 k)) ∧ ∀ s : Nat, 100 ≤ s → (0 ≤ X s 0 ∧ X s 0 ≤ 40) ∧ ∀ k : Nat, (k : Int) < X s 0 → kn9 X (X s (k + 1))
theorem MI_u {X X1 : rx} (h : MI X) (e1 : ∀ c, 13 ≤ c → X1 c = X c) (e2 : X1 0 2 = X 0 2) (n1 : 0 ≤ X1 0 1) (n4 : X 0 4 ≤ X1 0 4 ∧ X1 0 4 ≤ 16) (n5 : X 0 5 ≤ X1 0 5 ∧ X1 0 5 ≤ 16) : MI X1 := by
  obtain ⟨⟨h1, h2, h3, h4⟩, h5, h6⟩ := h
  refine ⟨⟨n1, by omega, by omega, by omega⟩, fun k hk => ?_, fun s hs => ?_⟩
  · rw [e1 13 (by decide)]
    exact kn9_le (h5 k (by omega)) n4.1 n5.1
  · rw [e1 s (by omega)]
    exact ⟨(h6 s hs).1, fun k hk => kn9_le ((h6 s hs).2 k hk) n4.1 n5.1⟩
theorem MI_x {X : rx} {c j : Nat} {z : Int} (h : MI X) (hc : (c ≠ 0 ∧ c < 13) ∨ (c = 0 ∧ j ≠ 1 ∧ j ≠ 2 ∧ j ≠ 4 ∧ j ≠ 5)) : MI (xu X c j z) := by
  have e1 : ∀ i : Nat, (i = 1 ∨ i = 2 ∨ i = 4 ∨ i = 5) → xu X c j z 0 i = X 0 i := fun i hi => xu_0 _ _ (fun q => by omega)
  have g1 := e1 1 (by decide)
  have g2 := e1 2 (by decide)
  have g4 := e1 4 (by decide)
  have g5 := e1 5 (by decide)
  obtain ⟨h1, h2, h3, h4⟩ := id h.1
  exact MI_u h (fun k hk => xu_ne _ _ _ (by omega)) g2 (by omega) ⟨by omega, by omega⟩ ⟨by omega, by omega⟩
theorem MI_adv {X : rx} (h : MI X) : MI (adv X) := MI_x h (by omega)
theorem MI_02 {X : rx} (h : MI X) : MI (xu X 0 2 0) := by
  have e2 : xu X 0 2 0 0 2 = 0 := xu_1 _ _ _ _
  have e0 : ∀ j, j ≠ 2 → xu X 0 2 0 0 j = X 0 j := fun j hj => xu_0 _ _ (fun q => hj q.2)
  have er : ∀ c, c ≠ 0 → xu X 0 2 0 c = X c := fun c hc => xu_ne _ _ _ hc
  have k9 : ∀ s, kn9 X s → kn9 (xu X 0 2 0) s := fun s hs => kn9_le hs (Int.le_of_eq (e0 4 (by decide)).symm) (Int.le_of_eq (e0 5 (by decide)).symm)
  obtain ⟨⟨h1, h2, h3, h4⟩, h5, h6⟩ := h
  refine ⟨⟨by rw [e0 1 (by decide)]; exact h1, by rw [e2]; omega, by rw [e0 4 (by decide)]; exact h3, by rw [e0 5 (by decide)]; exact h4⟩, fun k hk => ?_, fun s hs => ?_⟩
  · rw [e2] at hk
    exact absurd hk (by omega)
  · rw [er s (by omega)]
    exact ⟨(h6 s hs).1, fun k hk => k9 _ ((h6 s hs).2 k hk)⟩
theorem MI_01 {X : rx} {z : Int} (h : MI X) (hz : 0 ≤ z) : MI (xu X 0 1 z) := by
  have e1 : xu X 0 1 z 0 1 = z := xu_1 _ _ _ _
  have e0 : ∀ j, j ≠ 1 → xu X 0 1 z 0 j = X 0 j := fun j hj => xu_0 _ _ (fun q => hj q.2)
  have e2 := e0 2 (by decide)
  have e4 := e0 4 (by decide)
  have e5 := e0 5 (by decide)
  obtain ⟨h1, h2, h3, h4⟩ := id h.1
  exact MI_u h (fun k hk => xu_ne _ _ _ (by omega)) e2 (by omega) ⟨by omega, by omega⟩ ⟨by omega, by omega⟩
theorem MI_st {X : rx} {a : Int} (h : MI X) : MI (xst X a) := MI_x (MI_02 (MI_01 h (Int.le_refl _))) (by omega)
theorem MI_sd {X : rx} {s : Nat} (h : MI X) : MI (xsd X s) := by
  obtain ⟨h1, h5, h6⟩ := h
  refine ⟨h1, h5, fun c hc => ?_⟩
  by_cases e : c = s
  · subst e
    obtain ⟨g1, g2⟩ := xsd_eq X hc
    rw [g1]
    exact ⟨h1.2.1, fun k hk => by rw [g2 k (by have q9 := h1.2.1; omega)]; exact h5 k hk⟩
  · rw [xsd_ne X e]
    exact h6 c hc
theorem MI_put {X : rx} {s : Int} (h : MI X) (hk : kn9 X s) (h2 : ¬ 40 ≤ X 0 2) : MI (xput X s) := by
  obtain ⟨x1, x2, x3⟩ := xput_s X s
  have e0 : ∀ j, j ≠ 0 → j ≠ 2 → xput X s 0 j = X 0 j := fun j a b => xput_0 X s a b
  have e1 := e0 1 (by decide) (by decide)
  have e4 := e0 4 (by decide) (by decide)
  have e5 := e0 5 (by decide) (by decide)
  have k9 : ∀ t, kn9 X t → kn9 (xput X s) t := fun t ht => kn9_le ht (Int.le_of_eq e4.symm) (Int.le_of_eq e5.symm)
  obtain ⟨⟨h1, h3, h4, h5⟩, h6, h7⟩ := h
  refine ⟨⟨by omega, by omega, by omega, by omega⟩, fun k hk9 => ?_, fun t ht => ?_⟩
  · rw [x3]
    by_cases e : k = (X 0 2).toNat
    · rw [e, up_eq]
      exact k9 s hk
    · rw [up_ne _ _ e]
      exact k9 _ (h6 k (by omega))
  · rw [xput_r X s (by omega) (by omega)]
    exact ⟨(h7 t ht).1, fun k hk9 => k9 _ ((h7 t ht).2 k hk9)⟩
theorem MI_var {X : rx} {x ty : Int} (h : MI X) : MI (xvar X x ty) := MI_01 (MI_x (MI_x h (by omega)) (by omega)) (by have := h.1.1; omega)
theorem MI_typ {X : rx} {x : Int} (h : MI X) : MI (xtyp X x) := MI_adv (MI_x (MI_x h (by omega)) (by omega))
theorem MI_con {X : rx} {x ty : Int} (h : MI X) (h4 : ¬ 16 ≤ X 0 4) : MI (xcon X x ty) := by
  obtain ⟨x1, x2, x3, x4, x5⟩ := xcon_s X x ty
  have e0 : ∀ j, j ≠ 0 → j ≠ 4 → xcon X x ty 0 j = X 0 j := fun j a b => xcon_0 X x ty a b
  have e1 := e0 1 (by decide) (by decide)
  have e2 := e0 2 (by decide) (by decide)
  have e5 := e0 5 (by decide) (by decide)
  obtain ⟨h1, h3, h4, h5⟩ := id h.1
  exact MI_u h (fun k hk => xcon_r X x ty (by omega) (by omega) (by omega) (by omega)) e2 (by omega) ⟨by omega, by omega⟩ ⟨by omega, by omega⟩
theorem MI_fun {X : rx} {x : Int} (h : MI X) (h4 : ¬ 16 ≤ X 0 5) : MI (xfun X x) := by
  obtain ⟨x1, x2, x3, x4, x5⟩ := xfun_s X x
  have e0 : ∀ j, j ≠ 0 → j ≠ 5 → xfun X x 0 j = X 0 j := fun j a b => xfun_0 X x a b
  have e1 := e0 1 (by decide) (by decide)
  have e2 := e0 2 (by decide) (by decide)
  have e5 := e0 4 (by decide) (by decide)
  obtain ⟨h1, h3, h4, h5⟩ := id h.1
  exact MI_u h (fun k hk => xfun_r X x (by omega) (by omega) (by omega) (by omega)) e2 (by omega) ⟨by omega, by omega⟩ ⟨by omega, by omega⟩
theorem MI_car {X : rx} {c ty : Int} (h : MI X) : MI (xcar X c ty) := MI_adv (MI_x (MI_x h (by omega)) (by omega))
theorem MI_far {X : rx} {f : Int} (h : MI X) : MI (xfar X f) := MI_adv (MI_x (MI_x h (by omega)) (by omega))
section MS
variable {X : rx} {Y : yx} {K : List tq} {a b c : Int}
theorem kn9_f (h : MI X) {f : Int} (hf : -1 ≤ f ∧ (f < 0 ∨ (0 ≤ f ∧ f < X 0 5))) (h0 : ¬ f < 0) : kn9 X (100 + f) := by
  have := h.1.2.2.2
  unfold kn9 HS
  omega
theorem kn9_c (h : MI X) {f : Int} (hf : -1 ≤ f ∧ (f < 0 ∨ (0 ≤ f ∧ f < X 0 4))) (h0 : ¬ f < 0) : kn9 X (1 + f) := by
  have := h.1.2.2.1
  unfold kn9 HS
  omega
theorem kn9_v (h : MI X) : kn9 X (1000 + X 0 1) := Or.inr (Or.inl (by have := h.1.1; omega))
theorem M_app {s aa rt ty d at9 : Int} (h : MI X) (hs : kn9 X s) : MI (stApp Y s aa rt ty d at9 K X).2 := by
  unfold stApp
  repeat' split
  all_goals first
    | exact h
    | exact MI_put h hs (by assumption)
theorem M_var {ty v : Int} (h : MI X) : MI (stVar Y ty v K X).2 := by
  unfold stVar
  repeat' split
  all_goals first
    | exact h
    | exact MI_put (MI_var h) (kn9_le (kn9_v h) (Int.le_of_eq (xvar_0 _ _ _ (by decide)).symm) (Int.le_of_eq (xvar_0 _ _ _ (by decide)).symm)) (by rw [xvar_0 _ _ _ (by decide)]; assumption)
    | exact MI_put h (Or.inr (Or.inl (by omega))) (by assumption)
theorem M_term (h : MI X) : MI (stTerm Y a b c K X).2 := by
  unfold stTerm miss
  repeat' split
  all_goals first
    | exact h
    | exact M_var h
    | exact M_app h (kn9_f h (ffd_b Y X) (by assumption))
    | exact M_app h (kn9_c h (cfd_b Y X) (by assumption))
    | exact MI_put h (Or.inl rfl) (by assumption)
    | exact MI_adv h
theorem M_pcon {ins d9 c9 : Int} (h : MI X) (hc : -1 ≤ c9 ∧ (c9 < 0 ∨ (0 ≤ c9 ∧ c9 < X 0 4))) : MI (stPcon Y a d9 ins c9 K X).2 := by
  unfold stPcon
  repeat' split
  all_goals first
    | exact h
    | exact MI_put h (kn9_c h hc (by assumption)) (by assumption)
theorem M_pat (h : MI X) : MI (stPat Y a b K X).2 := by
  unfold stPat miss
  repeat' split
  all_goals first
    | exact h
    | exact MI_adv h
    | exact MI_put (MI_var h) (kn9_le (kn9_v h) (Int.le_of_eq (xvar_0 _ _ _ (by decide)).symm) (Int.le_of_eq (xvar_0 _ _ _ (by decide)).symm)) (by rw [xvar_0 _ _ _ (by decide)]; assumption)
    | exact M_pcon h (cfd_b Y X)
    | exact M_pcon (MI_adv h) (cfd_b Y _)
theorem M_dec (h : MI X) : MI (stDec Y a K X).2 := by
  have hA := MI_adv h
  have e4 : adv X 0 5 = X 0 5 := adv_0 X (by decide)
  have hS : MI (xst (adv X) 0) := MI_st hA
  have s2 : xst (adv X) 0 0 2 = 0 := (xst_s _ _).2.1
  have s5 : xst (adv X) 0 0 5 = adv X 0 5 := xst_0 _ _ (by decide) (by decide) (by decide)
  have s4 : xst (adv X) 0 0 4 = adv X 0 4 := xst_0 _ _ (by decide) (by decide) (by decide)
  unfold stDec miss
  repeat' split
  all_goals first
    | exact h
    | exact hA
    | exact MI_x h (by omega)
    | exact MI_typ hA
    | exact MI_fun hA (by rw [e4]; assumption)
    | exact MI_put hS (kn9_le (kn9_f hA (ffd_b Y _) (by assumption)) (Int.le_of_eq s4.symm) (Int.le_of_eq s5.symm)) (show ¬ 40 ≤ xst (adv X) 0 0 2 by rw [s2]; decide)
    | exact MI_adv (MI_st (MI_x hA (by omega)))
end MS
theorem M_step {Y : yx} {q : cf} (h : MI q.2) : MI (step Y q).2 := by
  obtain ⟨K, X⟩ := q
  have h : MI X := h
  cases K with
  | nil => exact h
  | cons p K =>
    obtain ⟨t, a, b, c⟩ := p
    match t with
    | 0 => exact h
    | 1 =>
      show MI (if tk Y (xi X) = a then (K, adv X) else miss Y X).2
      unfold miss
      split
      · exact MI_adv h
      · exact h
    | 2 => exact M_term h
    | 3 =>
      show MI (if b < ar X a then ((2, aty9 X a b, c, 1) :: (3, a, b + 1, c) :: K, X) else (K, X)).2
      split <;> exact h
    | 4 => exact M_pat h
    | 5 =>
      show MI (if b < ar X a then ((4, aty9 X a b, c, 0) :: (5, a, b + 1, c) :: K, X) else (K, X)).2
      split <;> exact h
    | 6 => exact M_dec h
    | 7 =>
      show MI (if tk Y (xi X) ≠ 3 then miss Y X else if 0 ≤ cfd Y X then fl Y X 3 else if 16 ≤ X 0 4 then fl Y X 5 else ((8, X 0 4, 0, 0) :: K, xcon X (tn Y (xi X)) a)).2
      unfold miss
      repeat' split
      all_goals first
        | exact h
        | exact MI_con h (by assumption)
    | 8 =>
      show MI (if tk Y (xi X) = 3 then (if tfd Y X < 0 then fl Y X 3 else if b = 3 then fl Y X 5 else ((8, a, b + 1, 0) :: K, xcar X a (tfd Y X))) else (K, X)).2
      repeat' split
      all_goals first
        | exact h
        | exact MI_car h
    | 9 =>
      show MI (if tk Y (xi X) = 124 then ((7, a, 0, 0) :: (9, a, 0, 0) :: K, adv X) else (K, X)).2
      split
      · exact MI_adv h
      · exact h
    | 10 =>
      show MI (if tk Y (xi X) ≠ 3 then miss Y X else if tfd Y X < 0 then fl Y X 3 else (K, adv (xu X 7 a.toNat (tfd Y X)))).2
      unfold miss
      repeat' split
      all_goals first
        | exact h
        | exact MI_adv (MI_x h (by omega))
    | 11 =>
      show MI (if tk Y (xi X) = 62 then (if b = 4 then fl Y X 5 else ((10, a, 0, 0) :: (11, a, b + 1, 0) :: K, xfar X a)) else (K, X)).2
      repeat' split
      all_goals first
        | exact h
        | exact MI_far h
    | 12 => exact MI_02 (MI_sd h)
    | 13 => exact MI_x (MI_sd h) (by omega)
    | 14 => exact MI_02 (MI_sd h)
    | n + 15 => exact MI_x (MI_sd h) (by omega)
theorem M_rch {Y : yx} {q q' : cf} (h : MI q.2) (r : rch Y q q') : MI q'.2 := by
  obtain ⟨m, rfl⟩ := r
  induction m generalizing q with
  | zero => exact h
  | succ m ih => exact ih (M_step h)
/-- the sides told lie in the class's equations -/
def SC (H : hp) (X : rx) : Prop := (∀ r : Nat, r < 40 → (r : Int) < X 0 6 → SD H (25 + 6 * r + 1) X (4 * r + 100) ∧ SD H (25 + 6 * r + 3) X (4 * r + 101) ∧ H.1 (25 + 6 * r) 4 + 100 = X (4 * r + 100) 1) ∧ (∀ l : Nat, l < 16 → (l : Int) < X 0 7 → SD H (265 + 6 * l + 1) X (4 * l + 102) ∧ SD H (265 + 6 * l + 3) X (4 * l + 103) ∧ LVS H l X) ∧ (H.1 368 1 = 1 ∧ H.1 369 0 = 0)
theorem kcd_JB {X X1 : rx} (hM : MI X) (hj : JB X X1) {s : Int} (h : kn9 X s) : kcd X1 s = kcd X s := by
  obtain ⟨-, -, j2, j3, -⟩ := hj
  have := hM.1.2.2
  unfold kcd
  rcases h with h | h | h
  · rw [if_pos h, if_pos h]
  · rw [if_neg (by omega), if_pos h, if_neg (by omega), if_pos h]
  · rcases h with h | h
    · rw [if_neg (by omega), if_neg (by omega), if_neg (by omega), if_neg (by omega), if_neg (by omega), if_neg (by omega), (j2 (s - 1).toNat (by omega)).2.2.1]
    · rw [if_neg (by omega), if_neg (by omega), if_pos (by omega), if_neg (by omega), if_neg (by omega), if_pos (by omega), (j3 (s - 100).toNat (by omega)).2.2.1]
theorem JB_rf (X : rx) : JB X X := ⟨⟨Int.le_refl _, Int.le_refl _, Int.le_refl _, Int.le_refl _, Int.le_refl _⟩, fun _ _ => rfl, fun _ _ => ⟨rfl, rfl, rfl, fun _ _ => rfl⟩, fun _ _ => ⟨rfl, rfl, rfl, fun _ _ => rfl⟩, fun _ _ => rfl⟩
theorem JK_6 {X : rx} (hn : NN X) (n : Int) : JK X ([(6, n, 0, 0)], X) := ⟨JB_rf X, hn, fun p hp => by
  have hp : p ∈ [((6 : Nat), n, (0 : Int), (0 : Int))] := hp
  rw [List.mem_singleton] at hp
  subst hp
  exact JT_no (by decide)⟩
/-- while a text is read: what was told at a part's beginning stays until its end -/
theorem JL_all {X : rx} (h0 : P0 X) (hn : NN X) (hM : MI X) {Y : yx} {n : Int} {X1 : rx} (r : rch Y ([(6, 0, 0, 0)], X) ([(6, n, 0, 0)], X1)) : MI X1 ∧ P0 X1 ∧ ∀ (K : List tq) (X2 : rx), rch Y ([(6, n, 0, 0)], X1) (K, X2) → JB X1 X2 ∧ LB X1 X2 := by
  have hK : JK X ([(6, n, 0, 0)], X1) := J_rch h0 (JK_6 hn 0) r
  have hP : P0 X1 := by
    have hK1 : JB X X1 := hK.1
    obtain ⟨⟨a1, a2, a3, a4, a5⟩, -⟩ := hK1
    unfold P0 at h0 ⊢
    omega
  refine ⟨M_rch (q := ([(6, 0, 0, 0)], X)) hM r, hP, fun K X2 r2 => ⟨?_, ?_⟩⟩
  · exact (J_rch hP (JK_6 hK.2.1 n) r2).1
  · exact L_rch hP (q := ([(6, n, 0, 0)], X1)) (LB_rf X1) r2
/-- a side stays, where more is told -/
theorem SD_JB {H H1 : hp} {X X1 : rx} {t s : Nat} (h : SD H t X s) (g : ∀ c j, c = t ∨ c = t + 1 → H1.1 c j = H.1 c j) (hM : MI X) (hj : JB X X1) (hs : X1 s = X s) (h9 : 100 ≤ s) : SD H1 t X1 s := by
  refine ⟨(g t 1 (Or.inl rfl)).trans (h.1.trans (by rw [hs])), fun j hj9 => ?_⟩
  rw [hs] at hj9
  rw [g _ j (Or.inr rfl), hs, kcd_JB hM hj ((hM.2.2 s h9).2 j hj9)]
  exact h.2 j hj9
/-- of the sides told none changes -/
def oS (X : rx) (H H1 : hp) : Prop := ∀ c j, sc c j → (((c : Nat) : Int) < 25 + 6 * X 0 6 ∨ (265 ≤ c ∧ ((c : Nat) : Int) < 265 + 6 * X 0 7) ∨ 361 ≤ c) → H1.1 c j = H.1 c j
theorem oS_tr {X : rx} {H H1 H2 : hp} (h : oS X H H1) (g : oS X H1 H2) : oS X H H2 := fun c j a b => (g c j a b).trans (h c j a b)
theorem oS_NE {X : rx} {H H1 : hp} {e : Nat} (h : NE e H H1) (h6 : X 0 6 ≤ 40) (he : e = 0 ∨ (25 + 6 * X 0 6 ≤ e ∧ e + 6 ≤ 265) ∨ (265 + 6 * X 0 7 ≤ e ∧ 265 ≤ e ∧ e ≤ 361)) : oS X H H1 := fun c j a b => h c j a (by have h1 := sc_ge a; have h2 := sc_lt a; omega)
theorem oS_rule {X X1 : rx} {H H1 : hp} (h : NE (25 + 6 * (X1 0 6).toNat) H H1 ∧ (40 ≤ X1 0 6 → NE 0 H H1)) (h0 : 0 ≤ X1 0 6) (h1 : X 0 6 ≤ X1 0 6) (h6 : X 0 6 ≤ 40) : oS X H H1 := by
  by_cases e : 40 ≤ X1 0 6
  · exact oS_NE (h.2 e) h6 (Or.inl rfl)
  · exact oS_NE h.1 h6 (Or.inr (Or.inl ⟨by omega, by omega⟩))
theorem SC_new {H H1 : hp} {X X1 : rx} (h : SC H X) (hM : MI X) (hj : JB X X1) (hl : LB X X1) (g : oS X H H1) (hr : ∀ r : Nat, r < 40 → X 0 6 ≤ (r : Int) → (r : Int) < X1 0 6 → SD H1 (25 + 6 * r + 1) X1 (4 * r + 100) ∧ SD H1 (25 + 6 * r + 3) X1 (4 * r + 101) ∧ H1.1 (25 + 6 * r) 4 + 100 = X1 (4 * r + 100) 1) (e7 : X1 0 7 = X 0 7) : SC H1 X1 := by
  refine ⟨fun r r1 r2 => ?_, fun l l1 l2 => ?_, (g _ _ (sc_ud (Or.inl rfl)) (by omega)).trans h.2.2.1, (g _ _ (sc_ud (Or.inr rfl)) (by omega)).trans h.2.2.2⟩
  · by_cases e : (r : Int) < X 0 6
    · obtain ⟨a, b, o9⟩ := h.1 r r1 e
      exact ⟨SD_JB a (fun c j hc => g c j (sc_side (k := r) (by omega) (by omega)) (by omega)) hM hj (hl.2.1 r e).1 (by omega), SD_JB b (fun c j hc => g c j (sc_side (k := r) (by omega) (by omega)) (by omega)) hM hj (hl.2.1 r e).2 (by omega), by rw [g _ _ (sc_ow (k := r) (by omega)) (by omega), (hl.2.1 r e).1]; exact o9⟩
    · exact hr r r1 (by omega) r2
  · have e : (l : Int) < X 0 7 := by omega
    obtain ⟨a, b, c9⟩ := h.2.1 l l1 e
    exact ⟨SD_JB a (fun c j hc => g c j (sc_side (k := 40 + l) (by omega) (by omega)) (by omega)) hM hj (hl.2.2 l e).1 (by omega), SD_JB b (fun c j hc => g c j (sc_side (k := 40 + l) (by omega) (by omega)) (by omega)) hM hj (hl.2.2 l e).2 (by omega), LVS_cg c9 (g _ _ (sc_lv l1) (by omega)) (fun v _ => g _ _ (sc_ty l1) (by omega)) (hl.2.2 l e).2⟩
theorem SC_OS {H H1 : hp} {X : rx} (h : SC H X) (g : oS X H H1) : SC H1 X := ⟨fun r r1 r2 => ⟨SD_cg (h.1 r r1 r2).1 (fun c j hc => g c j (sc_side (k := r) (by omega) (by omega)) (by omega)) rfl rfl rfl, SD_cg (h.1 r r1 r2).2.1 (fun c j hc => g c j (sc_side (k := r) (by omega) (by omega)) (by omega)) rfl rfl rfl, by rw [g _ _ (sc_ow (k := r) (by omega)) (by omega)]; exact (h.1 r r1 r2).2.2⟩, fun l l1 l2 => ⟨SD_cg (h.2.1 l l1 l2).1 (fun c j hc => g c j (sc_side (k := 40 + l) (by omega) (by omega)) (by omega)) rfl rfl rfl, SD_cg (h.2.1 l l1 l2).2.1 (fun c j hc => g c j (sc_side (k := 40 + l) (by omega) (by omega)) (by omega)) rfl rfl rfl, LVS_cg (h.2.1 l l1 l2).2.2 (g _ _ (sc_lv l1) (by omega)) (fun v _ => g _ _ (sc_ty l1) (by omega)) rfl⟩, (g _ _ (sc_ud (Or.inl rfl)) (by omega)).trans h.2.2.1, (g _ _ (sc_ud (Or.inr rfl)) (by omega)).trans h.2.2.2⟩
theorem SC_fr {H H1 : hp} {X : rx} (h : SC H X) (g : NE 0 H H1) : SC H1 X := SC_OS h (fun c j a _ => g c j a (by have h1 := sc_ge a; omega))
/-- the same sides, the same tables -/
theorem SC_x {H : hp} {X X1 : rx} (h : SC H X) (e : ∀ c, 100 ≤ c → X1 c = X c) (e4 : X1 4 = X 4) (e8 : X1 8 = X 8) (e6 : X1 0 6 = X 0 6) (e7 : X1 0 7 = X 0 7) : SC H X1 := ⟨fun r r1 r2 => ⟨SD_cg (h.1 r r1 (by omega)).1 (fun _ _ _ => rfl) (e _ (by omega)) e4 e8, SD_cg (h.1 r r1 (by omega)).2.1 (fun _ _ _ => rfl) (e _ (by omega)) e4 e8, by rw [e _ (by omega)]; exact (h.1 r r1 (by omega)).2.2⟩, fun l l1 l2 => ⟨SD_cg (h.2.1 l l1 (by omega)).1 (fun _ _ _ => rfl) (e _ (by omega)) e4 e8, SD_cg (h.2.1 l l1 (by omega)).2.1 (fun _ _ _ => rfl) (e _ (by omega)) e4 e8, LVS_cg (h.2.1 l l1 (by omega)).2.2 rfl (fun _ _ => rfl) (e _ (by omega))⟩, h.2.2⟩
theorem SC_adv {H : hp} {X : rx} (h : SC H X) : SC H (adv X) := SC_x h (fun c hc => xu_ne _ _ _ (by omega)) (xu_ne _ _ _ (by decide)) (xu_ne _ _ _ (by decide)) (adv_0 X (by decide)) (adv_0 X (by decide))
/-- one law more -/
theorem SC_law {H : hp} {X : rx} (h : SC H X) (h0 : 0 ≤ X 0 7) (h1 : SD H (265 + 6 * (X 0 7).toNat + 1) X (4 * (X 0 7).toNat + 102)) (h2 : SD H (265 + 6 * (X 0 7).toNat + 3) (xsd X (4 * (X 0 7).toNat + 103)) (4 * (X 0 7).toNat + 103)) (h3 : LVS H (X 0 7).toNat (xsd X (4 * (X 0 7).toNat + 103))) : SC H (xu (xsd X (4 * (X 0 7).toNat + 103)) 0 7 (X 0 7 + 1)) := by
  have er : ∀ c, c ≠ 0 → c ≠ 4 * (X 0 7).toNat + 103 → xu (xsd X (4 * (X 0 7).toNat + 103)) 0 7 (X 0 7 + 1) c = X c := fun c a b => (xu_ne _ _ _ a).trans (xsd_ne X b)
  have e7 : xu (xsd X (4 * (X 0 7).toNat + 103)) 0 7 (X 0 7 + 1) 0 7 = X 0 7 + 1 := xu_1 _ _ _ _
  refine ⟨fun r r1 r2 => ?_, fun l l1 l2 => ?_, h.2.2⟩
  · have r3 : (r : Int) < X 0 6 := r2
    exact ⟨SD_cg (h.1 r r1 r3).1 (fun _ _ _ => rfl) (er _ (by omega) (by omega)) rfl rfl, SD_cg (h.1 r r1 r3).2.1 (fun _ _ _ => rfl) (er _ (by omega) (by omega)) rfl rfl, by rw [er _ (by omega) (by omega)]; exact (h.1 r r1 r3).2.2⟩
  · rw [e7] at l2
    by_cases e : (l : Int) < X 0 7
    · exact ⟨SD_cg (h.2.1 l l1 e).1 (fun _ _ _ => rfl) (er _ (by omega) (by omega)) rfl rfl, SD_cg (h.2.1 l l1 e).2.1 (fun _ _ _ => rfl) (er _ (by omega) (by omega)) rfl rfl, LVS_cg (h.2.1 l l1 e).2.2 rfl (fun _ _ => rfl) (er _ (by omega) (by omega))⟩
    · have el : l = (X 0 7).toNat := by omega
      subst el
      exact ⟨SD_cg h1 (fun _ _ _ => rfl) (er _ (by omega) (by omega)) rfl rfl, SD_cg h2 (fun _ _ _ => rfl) (xu_ne _ _ _ (by omega)) rfl rfl, LVS_cg h3 rfl (fun _ _ => rfl) (xu_ne _ _ _ (by omega))⟩
theorem FB_tr {Y : yx} {c0 c1 : cf} {H : hp} (r : rch Y c0 c1) (h : FB Y c1 H) : FB Y c0 H := by
  obtain ⟨X, X2, K2, k, p, f1, f2, f3⟩ := h
  exact ⟨X, X2, K2, k, p, rch_tr r f1, rch_tr r f2, f3⟩
