/-! the machine leaves what was told before: every step -/
theorem NN_con {X : rx} {x ty : Int} (h : NN X) : NN (xcon X x ty) := by
  obtain ⟨x1, x2, x3, x4, x5⟩ := xcon_s X x ty
  refine ⟨fun k hk => ?_, fun k hk => ?_⟩
  · rw [x5]
    by_cases e : k = (X 0 4).toNat
    · rw [e, up_eq]
      decide
    · rw [up_ne _ _ e]
      exact h.1 k (by omega)
  · rw [xcon_0 X x ty (by decide) (by decide)] at hk
    rw [xcon_r X x ty (by decide) (by decide) (by decide) (by decide)]
    exact h.2 k hk
theorem NN_fun {X : rx} {x : Int} (h : NN X) : NN (xfun X x) := by
  obtain ⟨x1, x2, x3, x4, x5⟩ := xfun_s X x
  refine ⟨fun k hk => ?_, fun k hk => ?_⟩
  · rw [xfun_0 X x (by decide) (by decide)] at hk
    rw [xfun_r X x (by decide) (by decide) (by decide) (by decide)]
    exact h.1 k hk
  · rw [x5]
    by_cases e : k = (X 0 5).toNat
    · rw [e, up_eq]
      decide
    · rw [up_ne _ _ e]
      exact h.2 k (by omega)
theorem NN_typ {X : rx} {x : Int} (h : NN X) : NN (xtyp X x) := by
  unfold NN at h ⊢
  rw [xtyp_0 X x (by decide) (by decide), xtyp_0 X x (by decide) (by decide), xtyp_r X x (by decide) (by decide), xtyp_r X x (by decide) (by decide)]
  exact h
theorem NN_car {X : rx} {c9 ty : Int} (h : NN X) (ha : 0 ≤ X 4 c9.toNat) : NN (xcar X c9 ty) := by
  obtain ⟨x1, x2, x3⟩ := xcar_s X c9 ty
  refine ⟨fun k hk => ?_, fun k hk => ?_⟩
  · rw [xcar_0 X c9 ty (by decide)] at hk
    rw [x3]
    by_cases e : k = c9.toNat
    · rw [e, up_eq]
      omega
    · rw [up_ne _ _ e]
      exact h.1 k hk
  · rw [xcar_0 X c9 ty (by decide)] at hk
    rw [xcar_r X c9 ty (by decide) (by decide) (by decide)]
    exact h.2 k hk
theorem NN_far {X : rx} {f9 : Int} (h : NN X) (ha : 0 ≤ X 8 f9.toNat) : NN (xfar X f9) := by
  obtain ⟨x1, x2, x3⟩ := xfar_s X f9
  refine ⟨fun k hk => ?_, fun k hk => ?_⟩
  · rw [xfar_0 X f9 (by decide)] at hk
    rw [xfar_r X f9 (by decide) (by decide) (by decide)]
    exact h.1 k hk
  · rw [xfar_0 X f9 (by decide)] at hk
    rw [x3]
    by_cases e : k = f9.toNat
    · rw [e, up_eq]
      omega
    · rw [up_ne _ _ e]
      exact h.2 k hk
theorem NN_r {X : rx} {c j : Nat} {z : Int} (h : NN X) (hc : c = 7 ∨ c = 12) : NN (xu X c j z) := by
  unfold NN at h ⊢
  rw [xu_ne X j z (show (0 : Nat) ≠ c by omega), xu_ne X j z (show (4 : Nat) ≠ c by omega), xu_ne X j z (show (8 : Nat) ≠ c by omega)]
  exact h
theorem NN_n {X : rx} {j : Nat} {z : Int} (h : NN X) (hj : j = 6 ∨ j = 7) : NN (xu X 0 j z) := by
  unfold NN at h ⊢
  rw [xu_0 X z (show ¬ ((0 : Nat) = 0 ∧ 4 = j) by omega), xu_0 X z (show ¬ ((0 : Nat) = 0 ∧ 5 = j) by omega), xu_ne X j z (show (4 : Nat) ≠ 0 by decide), xu_ne X j z (show (8 : Nat) ≠ 0 by decide)]
  exact h
theorem JT_8 {X X1 : rx} {a b c : Int} (h : X 0 4 ≤ a ∧ a < X1 0 4) : JT X X1 (8, a, b, c) := ⟨fun _ => h, fun e => e.elim (fun q => absurd (show (8 : Nat) = 10 from q) (by decide)) (fun q => absurd (show (8 : Nat) = 11 from q) (by decide))⟩
theorem JT_10 {X X1 : rx} {a b c : Int} (h : X 0 5 ≤ a ∧ a < X1 0 5) : JT X X1 (10, a, b, c) := ⟨fun q => absurd (show (10 : Nat) = 8 from q) (by decide), fun _ => h⟩
theorem JT_11 {X X1 : rx} {a b c : Int} (h : X 0 5 ≤ a ∧ a < X1 0 5) : JT X X1 (11, a, b, c) := ⟨fun q => absurd (show (11 : Nat) = 8 from q) (by decide), fun _ => h⟩
section JS
variable {X X1 : rx} {Y : yx} {K : List tq} {t : Nat} {a b c : Int}
theorem J_term (h : JK X ((t, a, b, c) :: K, X1)) : JK X (stTerm Y a b c K X1) := by
  have h1 := JK_tl h
  unfold stTerm stApp stVar miss
  repeat' split
  all_goals first
    | exact JK_fl h (sT_rf _)
    | exact JK_e h1 (sT_put _ _)
    | exact JK_e h1 (sT_tr (sT_var _ _ _) (sT_put _ _))
    | exact JK_cons (JK_e h1 (sT_put _ _)) (JT_no (by decide))
    | exact JK_cons (JK_cons (JK_e h1 (sT_adv _)) (JT_no (by decide))) (JT_no (by decide))
theorem J_pcon {K0 : List tq} {X2 : rx} {ins d9 c9 : Int} (h : JK X (K0, X1)) (h1 : JK X (K, X2)) (e : sT X1 X2) : JK X (stPcon Y a d9 ins c9 K X2) := by
  unfold stPcon
  repeat' split
  all_goals first
    | exact JK_fl h e
    | exact JK_cons (JK_e h1 (sT_put _ _)) (JT_no (by decide))
theorem J_pat (h : JK X ((t, a, b, c) :: K, X1)) : JK X (stPat Y a b K X1) := by
  have h1 := JK_tl h
  unfold stPat miss
  repeat' split
  all_goals first
    | exact JK_fl h (sT_rf _)
    | exact JK_fl h (sT_adv _)
    | exact JK_e h1 (sT_tr (sT_var _ _ _) (sT_put _ _))
    | exact J_pcon h h1 (sT_rf _)
    | exact J_pcon h (JK_cons (JK_e h1 (sT_adv _)) (JT_no (by decide))) (sT_adv _)
theorem J_dec (h0 : P0 X) (h : JK X ((t, a, b, c) :: K, X1)) : JK X (stDec Y a K X1) := by
  have h1 := JK_tl h
  have hA := JK_e h1 (sT_adv X1)
  have e5 : adv X1 0 5 = X1 0 5 := adv_0 X1 (by decide)
  have e7 : adv X1 0 7 = X1 0 7 := adv_0 X1 (by decide)
  have j5 : X 0 5 ≤ X1 0 5 := h.1.1.2.2.1
  unfold stDec miss
  repeat' split
  all_goals first
    | exact JK_fl h (sT_rf _)
    | exact JK_fl h (sT_adv _)
    | exact JK_e h1 (sT_x0 _ _ (Or.inr (by decide)))
    | exact JK_cons (JK_cons (JK_cons (JK_cons (JK_cons (JK_up hA (JB_typ h0 hA.1) (NN_typ hA.2.1) (Int.le_of_eq (xtyp_0 _ _ (by decide) (by decide)).symm) (Int.le_of_eq (xtyp_0 _ _ (by decide) (by decide)).symm)) (JT_no (by decide))) (JT_no (by decide))) (JT_no (by decide))) (JT_no (by decide))) (JT_no (by decide))
    | exact JK_cons (JK_cons (JK_cons (JK_cons (JK_cons (JK_up hA (JB_fun h0 hA.1) (NN_fun hA.2.1) (Int.le_of_eq (xfun_0 _ _ (by decide) (by decide)).symm) (by rw [(xfun_s _ _).2.1]; omega)) (JT_no (by decide))) (JT_no (by decide))) (JT_11 ⟨j5, by rw [(xfun_s _ _).2.1, e5]; omega⟩)) (JT_10 ⟨j5, by rw [(xfun_s _ _).2.1, e5]; omega⟩)) (JT_no (by decide))
    | exact JK_cons (JK_cons (JK_cons (JK_cons (JK_cons (JK_cons (JK_e hA (sT_tr (sT_st _ 0) (sT_put _ _))) (JT_no (by decide))) (JT_no (by decide))) (JT_no (by decide))) (JT_no (by decide))) (JT_no (by decide))) (JT_no (by decide))
    | (rw [← e7]; exact JK_cons (JK_cons (JK_cons (JK_cons (JK_cons (JK_cons (JK_cons (JK_e (JK_up hA (JB_12 h0 hA.1) (NN_r hA.2.1 (Or.inr rfl)) (Int.le_of_eq (xu_0 _ _ (fun q => by cases q.1)).symm) (Int.le_of_eq (xu_0 _ _ (fun q => by cases q.1)).symm)) (sT_tr (sT_st _ 1) (sT_adv _))) (JT_no (by decide))) (JT_no (by decide))) (JT_no (by decide))) (JT_no (by decide))) (JT_no (by decide))) (JT_no (by decide))) (JT_no (by decide)))
end JS
theorem J_step {X : rx} (h0 : P0 X) {Y : yx} {q : cf} (h : JK X q) : JK X (step Y q) := by
  obtain ⟨K, X1⟩ := q
  cases K with
  | nil => exact h
  | cons p K =>
    obtain ⟨t, a, b, c⟩ := p
    have h1 := JK_tl h
    match t, h with
    | 0, h => exact h
    | 1, h =>
      show JK X (if tk Y (xi X1) = a then (K, adv X1) else miss Y X1)
      unfold miss
      split
      · exact JK_e h1 (sT_adv _)
      · exact JK_fl h (sT_rf _)
    | 2, h => exact J_term h
    | 3, h =>
      show JK X (if b < ar X1 a then ((2, aty9 X1 a b, c, 1) :: (3, a, b + 1, c) :: K, X1) else (K, X1))
      split
      · exact JK_cons (JK_cons h1 (JT_no (by decide))) (JT_no (by decide))
      · exact h1
    | 4, h => exact J_pat h
    | 5, h =>
      show JK X (if b < ar X1 a then ((4, aty9 X1 a b, c, 0) :: (5, a, b + 1, c) :: K, X1) else (K, X1))
      split
      · exact JK_cons (JK_cons h1 (JT_no (by decide))) (JT_no (by decide))
      · exact h1
    | 6, h => exact J_dec h0 h
    | 7, h =>
      show JK X (if tk Y (xi X1) ≠ 3 then miss Y X1 else if 0 ≤ cfd Y X1 then fl Y X1 3 else if 16 ≤ X1 0 4 then fl Y X1 5 else ((8, X1 0 4, 0, 0) :: K, xcon X1 (tn Y (xi X1)) a))
      unfold miss
      repeat' split
      all_goals first
        | exact JK_fl h (sT_rf _)
        | exact JK_cons (JK_up h1 (JB_con h0 h.1) (NN_con h.2.1) (by rw [(xcon_s _ _ _).2.1]; omega) (Int.le_of_eq (xcon_0 _ _ _ (by decide) (by decide)).symm)) (JT_8 ⟨h.1.1.2.1, by rw [(xcon_s _ _ _).2.1]; omega⟩)
    | 8, h =>
      have hT := (h.2.2 _ (List.mem_cons_self ..)).1 rfl
      have hc : X 0 4 ≤ a ∧ a < X1 0 4 := hT
      have hp := h0.2.1
      have hn : 0 ≤ X1 4 a.toNat := h.2.1.1 a.toNat (by show ((a.toNat : Nat) : Int) < X1 0 4; omega)
      show JK X (if tk Y (xi X1) = 3 then (if tfd Y X1 < 0 then fl Y X1 3 else if b = 3 then fl Y X1 5 else ((8, a, b + 1, 0) :: K, xcar X1 a (tfd Y X1))) else (K, X1))
      repeat' split
      all_goals first
        | exact JK_fl h (sT_rf _)
        | exact h1
        | exact JK_cons (JK_up h1 (JB_car h0 h.1 hc.1 hn) (NN_car h.2.1 hn) (Int.le_of_eq (xcar_0 _ _ _ (by decide)).symm) (Int.le_of_eq (xcar_0 _ _ _ (by decide)).symm)) (JT_8 ⟨hc.1, by rw [xcar_0 _ _ _ (by decide)]; exact hc.2⟩)
    | 9, h =>
      show JK X (if tk Y (xi X1) = 124 then ((7, a, 0, 0) :: (9, a, 0, 0) :: K, adv X1) else (K, X1))
      split
      · exact JK_cons (JK_cons (JK_e h1 (sT_adv _)) (JT_no (by decide))) (JT_no (by decide))
      · exact h1
    | 10, h =>
      have hc : X 0 5 ≤ a ∧ a < X1 0 5 := (h.2.2 _ (List.mem_cons_self ..)).2 (Or.inl rfl)
      show JK X (if tk Y (xi X1) ≠ 3 then miss Y X1 else if tfd Y X1 < 0 then fl Y X1 3 else (K, adv (xu X1 7 a.toNat (tfd Y X1))))
      unfold miss
      repeat' split
      all_goals first
        | exact JK_fl h (sT_rf _)
        | exact JK_e (JK_up h1 (JB_7 h0 h.1 hc.1) (NN_r h.2.1 (Or.inl rfl)) (Int.le_of_eq (xu_0 _ _ (fun q => by cases q.1)).symm) (Int.le_of_eq (xu_0 _ _ (fun q => by cases q.1)).symm)) (sT_adv _)
    | 11, h =>
      have hc : X 0 5 ≤ a ∧ a < X1 0 5 := (h.2.2 _ (List.mem_cons_self ..)).2 (Or.inr rfl)
      have hp := h0.2.2.1
      have hn : 0 ≤ X1 8 a.toNat := h.2.1.2 a.toNat (by show ((a.toNat : Nat) : Int) < X1 0 5; omega)
      show JK X (if tk Y (xi X1) = 62 then (if b = 4 then fl Y X1 5 else ((10, a, 0, 0) :: (11, a, b + 1, 0) :: K, xfar X1 a)) else (K, X1))
      have e5 : xfar X1 a 0 5 = X1 0 5 := xfar_0 _ _ (by decide)
      repeat' split
      all_goals first
        | exact JK_fl h (sT_rf _)
        | exact h1
        | exact JK_cons (JK_cons (JK_up h1 (JB_far h0 h.1 hc.1 hn) (NN_far h.2.1 hn) (Int.le_of_eq (xfar_0 _ _ (by decide)).symm) (Int.le_of_eq e5.symm)) (JT_11 ⟨hc.1, by rw [e5]; exact hc.2⟩)) (JT_10 ⟨hc.1, by rw [e5]; exact hc.2⟩)
    | 12, h => exact JK_cons (JK_e h1 (sT_tr (sT_sd _ _) (sT_x0 _ _ (Or.inl (by decide))))) (JT_no (by decide))
    | 13, h => exact JK_up (X2 := xu (xsd X1 (4 * (X1 0 6).toNat + 101)) 0 6 (X1 0 6 + 1)) h1 (JB_n (j := 6) (JB_sT h.1 (sT_sd _ _)) (Or.inl rfl)) (NN_n (j := 6) (NN_sT h.2.1 (sT_sd _ _)) (Or.inl rfl)) (Int.le_refl (X1 0 4)) (Int.le_refl (X1 0 5))
    | 14, h => exact JK_cons (JK_e h1 (sT_tr (sT_sd _ _) (sT_x0 _ _ (Or.inl (by decide))))) (JT_no (by decide))
    | n + 15, h => exact JK_up (X2 := xu (xsd X1 (4 * (X1 0 7).toNat + 103)) 0 7 (X1 0 7 + 1)) h1 (JB_n (j := 7) (JB_sT h.1 (sT_sd _ _)) (Or.inr rfl)) (NN_n (j := 7) (NN_sT h.2.1 (sT_sd _ _)) (Or.inr rfl)) (Int.le_refl (X1 0 4)) (Int.le_refl (X1 0 5))
theorem J_rch {X : rx} (h0 : P0 X) {Y : yx} {q q' : cf} (h : JK X q) (r : rch Y q q') : JK X q' := by
  obtain ⟨m, rfl⟩ := r
  induction m generalizing q with
  | zero => exact h
  | succ m ih => exact ih (J_step h0 h)
/-- what was told before a text stays, while it is read -/
theorem J_all {X : rx} (h0 : P0 X) (hn : NN X) {Y : yx} {K : List tq} {X1 : rx} (r : rch Y ([(6, 0, 0, 0)], X) (K, X1)) : JB X X1 := (J_rch h0 (q := ([(6, 0, 0, 0)], X)) ⟨⟨⟨Int.le_refl _, Int.le_refl _, Int.le_refl _, Int.le_refl _, Int.le_refl _⟩, fun _ _ => rfl, fun _ _ => ⟨rfl, rfl, rfl, fun _ _ => rfl⟩, fun _ _ => ⟨rfl, rfl, rfl, fun _ _ => rfl⟩, fun _ _ => rfl⟩, hn, fun p hp => by
  have hp : p ∈ [((6 : Nat), (0 : Int), (0 : Int), (0 : Int))] := hp
  rw [List.mem_singleton] at hp
  subst hp
  exact JT_no (by decide)⟩ r).1
