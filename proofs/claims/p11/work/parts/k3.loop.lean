/-! the law's turns: feed, end; the loop -/
theorem am_ro_add {M : am_M} {S : am_S} : ∀ (n : Nat) {k pc : Nat} {l : am_L} {st : List Value} {pc1 : Nat} {l1 : am_L} {st1 : List Value} {r : Nat × am_L × List Value}, am_ro M S n pc l st = some (pc1, l1, st1) → am_ro M S k pc1 l1 st1 = some r → am_ro M S (k + n) pc l st = some r := by
  intro n
  induction n with
  | zero =>
    intro k pc l st pc1 l1 st1 r h1 h2
    cases h1
    exact h2
  | succ n ih =>
    intro k pc l st pc1 l1 st1 r h1 h2
    show am_ro M S ((k + n) + 1) pc l st = some r
    unfold am_ro at h1 ⊢
    cases hins : am_find pc M.2.2.2.2.2.1 with
    | none => rw [hins] at h1; cases h1
    | some q =>
      obtain ⟨ins, len⟩ := q
      rw [hins] at h1
      dsimp only at h1 ⊢
      cases hp : am_pure M.2.2.1 ins len pc l st with
      | some q2 =>
        rw [hp] at h1
        exact ih h1 h2
      | none =>
        rw [hp] at h1
        dsimp only at h1 ⊢
        split at h1
        · split at h1
          · split at h1
            · exact ih h1 h2
            · cases h1
          · cases h1
        · split at h1
          · exact ih h1 h2
          · cases h1
        · split at h1
          · exact ih h1 h2
          · cases h1
        · cases h1
theorem am_ro_get {M : am_M} {S : am_S} {n pc i ci k a z : Nat} {l : am_L} {st fs : List Value} {v : Value} {r : Nat × am_L × List Value} (hf : am_find pc M.2.2.2.2.2.1 = some (.getfield i, 3)) (hi : am_find i M.2.2.2.2.1.1 = some (ci, k)) (hS : am_nth S a = some (z, some (.inr (ci, fs)))) (hv : fs[k]? = some v) (kk : am_ro M S n (pc + 3) l (v :: st) = some r) : am_ro M S (n + 1) pc l (.ref a :: st) = some r := by
  have h1 : am_getf S a ci k = some v := by
    unfold am_getf
    rw [hS]
    show (if ci = ci then _ else _) = _
    rw [if_pos rfl, hv]
  unfold am_ro
  rw [hf]
  show (match am_find i M.2.2.2.2.1.1 with
    | some (ci, k) => (match am_getf S a ci k with
      | some v => am_ro M S n (pc + 3) l (v :: st)
      | none => none)
    | none => none) = some r
  rw [hi]
  dsimp only
  rw [h1]
  exact kk
theorem zs_2 : zs zK 2 = some kx_2.1 := rfl
theorem lw_rg {S : am_S} {H : hp} (hz : zR (zs zK) S H) : -2147483648 ≤ H.1 2 1 ∧ H.1 2 1 ≤ 2147483647 := (hz 2 _ zs_2).2 1 .int rfl
/-- what the class's object and its tape are in the store -/
theorem lw_obj {S : am_S} {H : hp} (hz : zR (zs zK) S H) : (∃ z fs, am_nth S 1 = some (z, some (.inr (0, fs))) ∧ fs[0]? = some (.ref 2)) ∧ ∃ z fs, am_nth S 2 = some (z, some (.inr (1, fs))) ∧ fs[1]? = some (.int (Int32.ofInt (H.1 2 1))) := by
  obtain ⟨⟨z1, f1, a1, -, a2⟩, -⟩ := hz 1 _ zs_1
  obtain ⟨⟨z2, f2, b1, -, b2⟩, -⟩ := hz 2 _ zs_2
  exact ⟨⟨z1, f1, a1, a2 0 (.inr 2) rfl⟩, z2, f2, b1, b2 1 (.inl .int) rfl⟩
theorem ro_feed {S : am_S} {H : hp} (hz : zR (zs zK) S H) (h : 980 < H.1 2 1) (x1 x2 x3 x4 x5 : Int32) : ∃ n l', am_ro mt_1 S n 0 (lv_args 0 [.ref 1, .int x1, .int x2, .int x3, .int x4, .int x5]) [] = some (13, l', []) := by
  obtain ⟨⟨z1, f1, a1, a2⟩, z2, f2, b1, b2⟩ := lw_obj hz
  have h1 : am_ro mt_1 S 1 0 (lv_args 0 [.ref 1, .int x1, .int x2, .int x3, .int x4, .int x5]) [] = some (1, lv_args 0 [.ref 1, .int x1, .int x2, .int x3, .int x4, .int x5], [.ref 1]) := rfl
  have h3 : am_ro mt_1 S 2 7 (lv_args 0 [.ref 1, .int x1, .int x2, .int x3, .int x4, .int x5]) [.int (Int32.ofInt (H.1 2 1))] = some (if Int32.ofInt (H.1 2 1) ≤ Int32.ofInt 980 then 23 else 13, lv_args 0 [.ref 1, .int x1, .int x2, .int x3, .int x4, .int x5], []) := rfl
  rw [if_neg (fun q => by have := (z_le (lw_rg hz) (by decide)).mp q; omega)] at h3
  exact ⟨_, _, am_ro_add 1 h1 (am_ro_get (i := 10) (ci := 0) (k := 0) (v := .ref 2) rfl rfl a1 a2 (am_ro_get (i := 73) (ci := 1) (k := 1) (v := .int (Int32.ofInt (H.1 2 1))) rfl rfl b1 b2 h3))⟩
theorem ro_end {S : am_S} {H : hp} (hz : zR (zs zK) S H) {a : Int} (ha : -2147483648 ≤ a ∧ a ≤ 2147483647) (h : ¬ (0 ≤ a ∧ a ≤ H.1 2 1)) : ∃ n l', am_ro mt_2 S n 0 (lv_args 0 [.ref 1, .int (Int32.ofInt a)]) [] = some (15, l', []) := by
  obtain ⟨⟨z1, f1, a1, a2⟩, z2, f2, b1, b2⟩ := lw_obj hz
  have h1 : am_ro mt_2 S 2 0 (lv_args 0 [.ref 1, .int (Int32.ofInt a)]) [] = some (if Int32.ofInt a < Int32.ofInt 0 then 15 else 4, lv_args 0 [.ref 1, .int (Int32.ofInt a)], []) := rfl
  by_cases hn : a < 0
  · rw [if_pos ((z_lt ha (by decide)).mpr hn)] at h1
    exact ⟨_, _, h1⟩
  · rw [if_neg (fun q => hn ((z_lt ha (by decide)).mp q))] at h1
    have h2 : am_ro mt_2 S 2 4 (lv_args 0 [.ref 1, .int (Int32.ofInt a)]) [] = some (6, lv_args 0 [.ref 1, .int (Int32.ofInt a)], [.ref 1, .int (Int32.ofInt a)]) := rfl
    have h3 : am_ro mt_2 S 1 12 (lv_args 0 [.ref 1, .int (Int32.ofInt a)]) [.int (Int32.ofInt (H.1 2 1)), .int (Int32.ofInt a)] = some (if Int32.ofInt a ≤ Int32.ofInt (H.1 2 1) then 25 else 15, lv_args 0 [.ref 1, .int (Int32.ofInt a)], []) := rfl
    rw [if_neg (fun q => by have := (z_le ha (lw_rg hz)).mp q; omega)] at h3
    exact ⟨_, _, am_ro_add 2 h1 (am_ro_add 2 h2 (am_ro_get (i := 10) (ci := 0) (k := 0) (v := .ref 2) rfl rfl a1 a2 (am_ro_get (i := 73) (ci := 1) (k := 1) (v := .int (Int32.ofInt (H.1 2 1))) rfl rfl b1 b2 h3)))⟩
theorem zR_out {S : am_S} {H : hp} {y y0 : am_C} (hz : zR (zs zK) S H) (h : am_nth S 1899 = some y0) : zR (zs zK) (am_set S 1899 y) H := by
  intro c x hx
  cases c with
  | zero => exact absurd rfl (zs_rng hx).1
  | succ k =>
    rw [am_nth_set y h, if_neg (by have := (zs_rng hx).2; omega)]
    exact hz _ _ hx
theorem zR_add {S : am_S} {H : hp} {y : am_C} (hz : zR (zs zK) S H) (h : 1899 ≤ S.2.1) : zR (zs zK) (am_add S y) H := by
  intro c x hx
  cases c with
  | zero => exact absurd rfl (zs_rng hx).1
  | succ k =>
    rw [am_nth_add, if_neg (by have := (zs_rng hx).2; omega)]
    exact hz _ _ hx
set_option maxRecDepth 100000 in
set_option maxHeartbeats 4000000 in
/-- the law's own feed, nothing thrown -/
theorem fd_run {S : am_S} {H : hp} {a1 a2 a3 a4 a5 : Int} {z : Nat} {u : List (Nat × Value)} (h1 : -2147483648 ≤ a1 ∧ a1 ≤ 2147483647) (h2 : -2147483648 ≤ a2 ∧ a2 ≤ 2147483647) (h3 : -2147483648 ≤ a3 ∧ a3 ≤ 2147483647) (h4 : -2147483648 ≤ a4 ∧ a4 ≤ 2147483647) (h5 : -2147483648 ≤ a5 ∧ a5 ≤ 2147483647) (hz : zR (zs zK) S H) (hi : Inv H) (hg : GI H) (h9 : H.1 2 1 ≤ 980) (ho : am_nth S 1899 = some (z, some (.inl (.long, 1, .long 0, u)))) : ∃ f S', am_run at_P at_cl at_ty f 50 mt_lfeed 0 (lv_args 0 [.ref 1, .int (Int32.ofInt a1), .int (Int32.ofInt a2), .int (Int32.ofInt a3), .int (Int32.ofInt a4), .int (Int32.ofInt a5), .ref 1899]) [] S = some (some (.int 0), S', 0, 0) ∧ S'.1 = S.1 ∧ S'.2.1 = S.2.1 ∧ am_nth S' 1899 = some (z, some (.inl (.long, 1, .long 0, (0, .long (Int32.ofInt (H.1 2 1 + 20)).toInt64) :: u))) ∧ ∃ H', zR (zs zK) S' H' ∧ Inv H' ∧ GI H' ∧ H'.1 2 1 = H.1 2 1 + 20 ∧ H'.1 1826 28 = H.1 1826 28 ∧ fq [(2, 1)] [3] false H H' ∧ FD a1 a2 a3 a4 a5 H H' ∧ NE 0 H H' ∧ FN H H' := by
  obtain ⟨⟨z1, f1, o1, -⟩, -⟩ := lw_obj hz
  have G : am_G at_P at_cl at_ty 50 mt_lfeed 0 (lv_args 0 [.ref 1, .int (Int32.ofInt a1), .int (Int32.ofInt a2), .int (Int32.ofInt a3), .int (Int32.ofInt a4), .int (Int32.ofInt a5), .ref 1899]) [] S (fun r S' c n => c = 0 ∧ n = 0 ∧ r = some (.int 0) ∧ S'.1 = S.1 ∧ S'.2.1 = S.2.1 ∧ am_nth S' 1899 = some (z, some (.inl (.long, 1, .long 0, (0, .long (Int32.ofInt (H.1 2 1 + 20)).toInt64) :: u))) ∧ ∃ H', zR (zs zK) S' H' ∧ Inv H' ∧ GI H' ∧ H'.1 2 1 = H.1 2 1 + 20 ∧ H'.1 1826 28 = H.1 1826 28 ∧ fq [(2, 1)] [3] false H H' ∧ FD a1 a2 a3 a4 a5 H H' ∧ NE 0 H H' ∧ FN H H') := by
    refine G_ps 8 (pc' := 11) (l' := lv_args 0 [.ref 1, .int (Int32.ofInt a1), .int (Int32.ofInt a2), .int (Int32.ofInt a3), .int (Int32.ofInt a4), .int (Int32.ofInt a5), .ref 1899]) (st' := [.int (Int32.ofInt a5), .int (Int32.ofInt a4), .int (Int32.ofInt a3), .int (Int32.ofInt a2), .int (Int32.ofInt a1), .ref 1, .int 0, .ref 1899]) rfl ?_
    refine G_cv (d := 49) (i := 7) (j := 1) (b := 1) (M' := mt_1) (xs := [.int (Int32.ofInt a5), .int (Int32.ofInt a4), .int (Int32.ofInt a3), .int (Int32.ofInt a2), .int (Int32.ofInt a1)]) (rest := [.int 0, .ref 1899]) rfl rfl rfl rfl o1 (Nat.le_of_ble_eq_true rfl) (Nat.le_of_ble_eq_true rfl) (q_feed (by decide) hi h1 h2 h3 h4 h5 h9 S _ hz (zargs_ok _ 0)) ?_
    rintro r S1 c1 n1 ⟨rfl, rfl, r', H1, rfl, hz1, hk1, q, rfl, -, hi1, f9, ⟨rfl, hl⟩, hFD, hNE, hFN⟩
    have ho1 : am_nth S1 1899 = some (z, some (.inl (.long, 1, .long 0, u))) := (hk1.2.2 1899 zs_out).trans ho
    refine G_ps 1 (pc' := 15) (l' := lv_args 0 [.ref 1, .int (Int32.ofInt a1), .int (Int32.ofInt a2), .int (Int32.ofInt a3), .int (Int32.ofInt a4), .int (Int32.ofInt a5), .ref 1899]) (st' := [.long (Int32.ofInt (H.1 2 1 + 20)).toInt64, .int 0, .ref 1899]) rfl ?_
    refine G_lst (a := 1898) (i := 0) rfl ho1 (by decide) ?_
    refine G_ps 2 (pc' := 24) (l' := lv_args 0 [.ref 1, .int (Int32.ofInt a1), .int (Int32.ofInt a2), .int (Int32.ofInt a3), .int (Int32.ofInt a4), .int (Int32.ofInt a5), .ref 1899]) (st' := [.int 0]) rfl ?_
    refine G_ret (ins := .ireturn) (len := 1) (r := some (.int 0)) rfl rfl rfl ?_
    refine ⟨rfl, rfl, rfl, hk1.1, hk1.2.1, am_nth_self (k := 1898) ho1, H1, zR_out hz1 ho1, hi1, GI_up hg (fq_up f9 rfl rfl), hl, ?_, f9, hFD, hNE, hFN⟩
    rw [fq_up f9 rfl rfl 1826 (by decide)]
  obtain ⟨f, r, S', c', n', e1, rfl, rfl, rfl, e2⟩ := G
  exact ⟨f, S', e1, e2⟩
set_option maxRecDepth 100000 in
set_option maxHeartbeats 4000000 in
/-- the law's own end, nothing thrown -/
theorem en_run {S : am_S} {H : hp} {a : Int} (ha : -2147483648 ≤ a ∧ a ≤ 2147483647) (hz : zR (zs zK) S H) (hi : Inv H) (hg : GI H) (h9 : 0 ≤ a ∧ a ≤ H.1 2 1) : ∃ f S', am_run at_P at_cl at_ty f 50 mt_lend 0 (lv_args 0 [.ref 1, .int (Int32.ofInt a)]) [] S = some (some (.int 0), S', 0, 0) ∧ zkeep (zs zK) S S' ∧ ∃ H', zR (zs zK) S' H' ∧ Inv H' ∧ GI H' ∧ H'.1 2 1 = a ∧ H'.1 1826 28 = H.1 1826 28 ∧ fq [(2, 1)] [] false H H' ∧ NE 0 H H' ∧ FN H H' := by
  obtain ⟨⟨z1, f1, o1, -⟩, -⟩ := lw_obj hz
  have G : am_G at_P at_cl at_ty 50 mt_lend 0 (lv_args 0 [.ref 1, .int (Int32.ofInt a)]) [] S (fun r S' c n => c = 0 ∧ n = 0 ∧ r = some (.int 0) ∧ zkeep (zs zK) S S' ∧ ∃ H', zR (zs zK) S' H' ∧ Inv H' ∧ GI H' ∧ H'.1 2 1 = a ∧ H'.1 1826 28 = H.1 1826 28 ∧ fq [(2, 1)] [] false H H' ∧ NE 0 H H' ∧ FN H H') := by
    refine G_ps 2 (pc' := 2) (l' := lv_args 0 [.ref 1, .int (Int32.ofInt a)]) (st' := [.int (Int32.ofInt a), .ref 1]) rfl ?_
    refine G_cv (d := 49) (i := 15) (j := 2) (b := 1) (M' := mt_2) (xs := [.int (Int32.ofInt a)]) (rest := []) rfl rfl rfl rfl o1 (Nat.le_of_ble_eq_true rfl) (Nat.le_of_ble_eq_true rfl) (q_end (by decide) hi ha h9 S _ hz (zargs_ok _ 0)) ?_
    rintro r S1 c1 n1 ⟨rfl, rfl, r', H1, rfl, hz1, hk1, rfl, hl, hi1, f9, hNE, hFN⟩
    refine G_ps 2 (pc' := 12) (l' := lv_args 0 [.ref 1, .int (Int32.ofInt a)]) (st' := [.int 0]) rfl ?_
    refine G_ret (ins := .ireturn) (len := 1) (r := some (.int 0)) rfl rfl rfl ?_
    refine ⟨rfl, rfl, rfl, hk1, H1, hz1, hi1, GI_up hg (fq_up f9 rfl rfl), hl, ?_, f9, hNE, hFN⟩
    rw [fq_up f9 rfl rfl 1826 (by decide)]
  obtain ⟨f, r, S', c', n', e1, rfl, rfl, rfl, e2⟩ := G
  exact ⟨f, S', e1, e2⟩
theorem lg_same (x : Int64) : lg_cmp x x = 0 := by
  unfold lg_cmp
  simp
section LE
variable {C N : Nat} {A : lwT} {cells slots : Nat} {S : am_S} {lc : am_L} {pc : Nat} {st : List Value}
theorem lw_lld (hA : lwA C N A) {a z : Nat} {u : List (Nat × Value)} {v : Value} (hf : am_find pc mt_law.2.2.2.2.2.1 = some (.laload, 1)) (hS : am_nth S a = some (z, some (.inl (.long, 1, .long 0, (0, v) :: u)))) (kk : A cells slots S lc (pc + 1) (v :: st)) : A cells slots S lc pc (.int 0 :: .ref a :: st) := by
  refine hA.2.2.1 0 cells slots S lc pc _ (pc + 1) lc (v :: st) S ?_ kk
  have hp : am_pure mt_law.2.2.1 .laload 1 pc lc (.int 0 :: .ref a :: st) = none := rfl
  have hh : am_heap at_cl at_ty mt_law.2.2.2.2.1 .laload 1 pc (.int 0 :: .ref a :: st) S = some (pc + 1, v :: st, S, 0, 0) := by
    show (am_geta S a 0 .long).map (fun v => (pc + 1, v :: st, S, 0, 0)) = _
    unfold am_geta
    rw [hS]
    show Option.map _ (if _ then _ else _) = _
    rw [if_pos ⟨rfl, by decide⟩]
    rfl
  unfold am_one
  rw [hf]
  dsimp only
  rw [hp]
  dsimp only
  rw [hh]
set_option maxRecDepth 100000 in
theorem lw_next (hA : lwA C N A) {t : Nat} (k : A cells slots S (lw_Lt (t + 1)) 23 []) : A cells slots S (lw_Lt t) 958 [] := by
  refine hA.1 2 cells slots S (lw_Lt t) 958 _ 23 (lw_Lt (t + 1)) [] ?_ k
  have h : am_ro mt_law S 2 958 (lw_Lt t) [] = some (23, [(4, .int (nI (6 * t) + Int32.ofInt 6)), (3, .ref 1899), (2, .ref 1826), (1, .ref 1), (0, .ref 0)], []) := rfl
  rw [h]
  unfold lw_Lt
  rw [show 6 * (t + 1) = 6 * t + 6 by omega, nI_pl]
  rfl
set_option maxRecDepth 100000 in
theorem lw_len (hA : lwA C N A) {xs : Nat → Int32} {L t : Nat} (hS : S.1 = lwc L xs) (k1 : nI L - Int32.ofInt 6 < nI (6 * t) → A cells slots S (lw_Lt t) 964 []) (k2 : ¬ nI L - Int32.ofInt 6 < nI (6 * t) → A cells slots S (lw_Lt t) 33 []) : A cells slots S (lw_Lt t) 23 [] := by
  obtain ⟨S1, S2⟩ := S
  have hS : S1 = lwc L xs := hS
  subst hS
  have h : am_ro mt_law (lwc L xs, S2) 6 23 (lw_Lt t) [] = some (if nI L - Int32.ofInt 6 < nI (6 * t) then 964 else 33, lw_Lt t, []) := rfl
  refine hA.1 6 cells slots _ (lw_Lt t) 23 _ _ _ _ h ?_
  by_cases e : nI L - Int32.ofInt 6 < nI (6 * t)
  · rw [if_pos e]
    exact k1 e
  · rw [if_neg e]
    exact k2 e
theorem nI_sub {L : Nat} (h : 6 ≤ L) : nI L - Int32.ofInt 6 = nI (L - 6) := by
  obtain ⟨M, rfl⟩ : ∃ M, L = M + 6 := ⟨L - 6, by omega⟩
  rw [nI_pl, Nat.add_sub_cancel]
  exact Int32.add_sub_cancel _ _
theorem nI_end {L t : Nat} (hL : L ≤ 3072) (h1 : 6 * t ≤ L) (h2 : L < 6 * t + 6) : nI L - Int32.ofInt 6 < nI (6 * t) := by
  by_cases h6 : 6 ≤ L
  · rw [nI_sub h6]
    exact nI_lt (by omega) (by omega)
  · obtain rfl : t = 0 := by omega
    rcases (show L = 0 ∨ L = 1 ∨ L = 2 ∨ L = 3 ∨ L = 4 ∨ L = 5 by omega) with rfl | rfl | rfl | rfl | rfl | rfl <;> decide +kernel
theorem nI_on {L t : Nat} (hL : L ≤ 3072) (h1 : 6 * t + 6 ≤ L) : ¬ nI L - Int32.ofInt 6 < nI (6 * t) := by
  rw [nI_sub (by omega)]
  exact nI_nlt (by omega) (by omega)
set_option maxRecDepth 100000 in
theorem lw_head (hA : lwA C N A) {xs : Nat → Int32} {L t : Nat} (hL : L ≤ 3072) (ht : 6 * t + 6 ≤ L) (hS : S.1 = lwc L xs) (k : A cells slots S (lw_Lt t) 40 [.int (xs (6 * t) &&& 31)]) : A cells slots S (lw_Lt t) 23 [] := by
  refine lw_len hA hS (fun q => absurd q (nI_on hL ht)) (fun _ => ?_)
  refine lw_ld hA (a := 6 * t) (k := 0) (n := 2) (pc5 := 36) hS (by omega) hL ?_ rfl ?_
  · have h : am_ro mt_law S 2 33 (lw_Lt t) [] = some (36, lw_Lt t, [.int (nI (6 * t)), .ref 0]) := rfl
    rw [h, ← nI_pl, Nat.add_zero]
  · refine hA.1 2 cells slots S (lw_Lt t) 37 _ 40 (lw_Lt t) [.int (xs (6 * t) &&& 31)] ?_ k
    have h : am_ro mt_law S 2 37 (lw_Lt t) [zc (.inl (xs (6 * t + 0)).toInt)] = some (40, lw_Lt t, [.int (Int32.ofInt (xs (6 * t + 0)).toInt &&& Int32.ofInt 31)]) := rfl
    rw [h, Nat.add_zero, Int32.ofInt_toInt]
    rfl
theorem lw_swo (hA : lwA C N A) {x : Int32} {t : Nat} (h : x.toInt < 0 ∨ 22 < x.toInt) (k : A cells slots S (lw_Lt t) 958 []) : A cells slots S (lw_Lt t) 40 [.int x] := by
  refine hA.1 1 cells slots S (lw_Lt t) 40 _ 958 (lw_Lt t) [] ?_ k
  have hf : am_find 40 mt_law.2.2.2.2.2.1 = some (.tableswitch 918 0 22 #[108, 184, 209, 222, 235, 260, 297, 322, 335, 400, 425, 478, 515, 592, 669, 694, 731, 744, 757, 782, 819, 856, 893], 108) := rfl
  have h1 : am_pure mt_law.2.2.1 (.tableswitch 918 0 22 #[108, 184, 209, 222, 235, 260, 297, 322, 335, 400, 425, 478, 515, 592, 669, 694, 731, 744, 757, 782, 819, 856, 893]) 108 40 (lw_Lt t) [.int x] = some (958, lw_Lt t, []) := by
    show (if x.toInt < 0 ∨ 22 < x.toInt then (am_tgt 40 918).map fun t' => (t', lw_Lt t, []) else _) = _
    rw [if_pos h]
    rfl
  unfold am_ro
  rw [hf]
  dsimp only
  rw [h1]
  rfl
end LE
