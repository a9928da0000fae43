/-! the class's terms, told exactly -/
/-- System.arraycopy of codes -/
theorem k_copyx {M : am_M} {pc : Nat} {l : zl} {st : List zv} {H : hp} {Q : Option zv → hp → Prop} {d : Nat} {i t u n m : Nat} {sp dp k : Int} (hf : am_find pc M.2.2.2.2.2.1 = some (.invokestatic i, 3)) (hj : am_find i M.2.2.2.2.1.2.2.2.2.2 = some 3) (hw : zw st ≤ 8) (hd : 1 ≤ d) (hT : isT t n) (hU : isT u m) (hsp : 0 ≤ sp) (hdp : 0 ≤ dp) (hk : 0 ≤ k) (h1 : sp + k ≤ n) (h2 : dp + k ≤ m) (hI : Inv H) (kk : ∀ H1, Inv H1 → wra (u + 1) H H1 → (∀ j : Nat, H1.1 (u + 1) j = if dp.toNat ≤ j ∧ j < dp.toNat + k.toNat then H.1 (t + 1) (sp.toNat + (j - dp.toNat)) else H.1 (u + 1) j) → hG (zs zK) d M (pc + 3) l st H1 Q) : hG (zs zK) d M pc l (.inl k :: .inl dp :: .inr (.inr (u + 1)) :: .inl sp :: .inr (.inr (t + 1)) :: st) H Q := by
  have hn := hT.2.2.2.2
  have hm := hU.2.2.2.2
  have hsT : zs zK (t + 1) = some (.inr (.int, n)) := zs_K hT.2.1 (iT1 hT)
  have hsU : zs zK (u + 1) = some (.inr (.int, m)) := zs_K hU.2.1 (iT1 hU)
  obtain ⟨f9, hf9⟩ : ∃ f9 : Nat → Int, f9 = fun j => if dp.toNat ≤ j ∧ j < dp.toNat + k.toNat then H.1 (t + 1) (sp.toNat + (j - dp.toNat)) else H.1 (u + 1) j := ⟨_, rfl⟩
  have hr9 : ∀ j, -2147483648 ≤ f9 j ∧ f9 j ≤ 2147483647 := by
    intro j
    rw [hf9]
    dsimp only
    split
    · exact kn hI hT.2.1 _
    · exact kn hI hU.2.1 _
  have hw9 : wra (u + 1) H (zu H (u + 1) f9) := ⟨rfl, fun c j hc => by rw [zu_if, if_neg hc]⟩
  have hI9 : Inv (zu H (u + 1) f9) := by
    intro c y hy
    refine ⟨fun j => ?_, fun j => (hI c y hy).2 j⟩
    by_cases q : c = u + 1
    · subst q
      rw [hU.2.1] at hy
      cases hy
      rw [zu_eq]
      exact hr9 j
    · rw [zu_if, if_neg q]
      exact (hI c y hy).1 j
  refine h_wr (fun S hS => ?_) (kk _ hI9 hw9 (fun j => by rw [zu_eq, hf9]))
  obtain ⟨⟨z0, df, uf, a1, a2⟩, a3⟩ := hS _ _ hsT
  obtain ⟨⟨z1, dg, ug, b1, b2⟩, b3⟩ := hS _ _ hsU
  obtain ⟨c1, c2⟩ := z_clamp (z := sp) (by omega)
  obtain ⟨c3, c4⟩ := z_clamp (z := dp) (by omega)
  obtain ⟨c5, c6⟩ := z_clamp (z := k) (by omega)
  have hz : zok (.inr (.int, m)) (some (z1, some (.inl (.int, m, dg, am_cpy (am_fn df uf) sp.toNat dp.toNat k.toNat ug)))) ((zu H (u + 1) f9).1 (u + 1)) ((zu H (u + 1) f9).2 (u + 1)) := by
    rw [zu_eq]
    refine ⟨⟨z1, dg, _, rfl, fun j hj => ?_⟩, fun j _ => hr9 j⟩
    rw [am_cpy_fn]
    unfold va_cpy
    show _ = Value.int (Int32.ofInt (f9 j))
    rw [hf9]
    dsimp only
    by_cases q : dp.toNat ≤ j ∧ j < dp.toNat + k.toNat
    · rw [if_pos q, if_pos q, a2 _ (by omega)]
      rfl
    · rw [if_neg q, if_neg q, b2 j hj]
      rfl
  obtain ⟨q1, q2⟩ := zR_set hS (by omega) hsU hz (zu_o H _ _)
  refine ⟨_, q1, q2, fun lc Q' g => G_lib hf hj (by decide) hd ?_ g⟩
  have hall : (List.range k.toNat).all (fun q => match am_fn df uf (sp.toNat + q) with | .int _ => true | _ => false) = true := by
    rw [List.all_eq_true]
    intro q hq
    have hq := List.mem_range.mp hq
    rw [a2 _ (by omega)]
    rfl
  show (match am_nth S (t + 1), am_nth S (u + 1) with
    | some (_, some (.inl (.int, n0, df, uf))), some (z1, some (.inl (.int, n1, dg, ug))) => if am_words (st.map zc) ≤ 8 ∧ ¬ Int32.ofInt sp < 0 ∧ ¬ Int32.ofInt dp < 0 ∧ ¬ Int32.ofInt k < 0 ∧ (Int32.ofInt sp).toNatClampNeg + (Int32.ofInt k).toNatClampNeg ≤ n0 ∧ (Int32.ofInt dp).toNatClampNeg + (Int32.ofInt k).toNatClampNeg ≤ n1 ∧ (List.range (Int32.ofInt k).toNatClampNeg).all (fun q => match am_fn df uf ((Int32.ofInt sp).toNatClampNeg + q) with | .int _ => true | _ => false) = true then some (st.map zc, am_set S (u + 1) (z1, some (.inl (.int, n1, dg, am_cpy (am_fn df uf) (Int32.ofInt sp).toNatClampNeg (Int32.ofInt dp).toNatClampNeg (Int32.ofInt k).toNatClampNeg ug)))) else none
    | _, _ => none) = _
  rw [a1, b1]
  show (if _ then _ else _) = _
  rw [c1, c3, c5, zw_ok, if_pos ⟨hw, c2, c4, c6, by omega, by omega, hall⟩]


/-- only this term changed -/
def AF (t : Nat) (H H1 : hp) : Prop := H1.2 = H.2 ∧ ∀ c j, c ≠ t → c ≠ t + 1 → H1.1 c j = H.1 c j
theorem AF_rf (t : Nat) (H : hp) : AF t H H := ⟨rfl, fun _ _ _ _ => rfl⟩
theorem AF_tr {t : Nat} {H H1 H2 : hp} (h : AF t H H1) (g : AF t H1 H2) : AF t H H2 := ⟨g.1.trans h.1, fun c j h1 h2 => (g.2 c j h1 h2).trans (h.2 c j h1 h2)⟩
theorem AF_w {t k : Nat} {H H1 : hp} (w : wr t k H H1) : AF t H H1 := ⟨w.1, fun c j h _ => w.2 c j (fun q => h q.1)⟩
theorem AF_a {t : Nat} {H H1 : hp} (w : wra (t + 1) H H1) : AF t H H1 := ⟨w.1, fun c j _ h => w.2 c j h⟩
/-- signs from a to b of the term u were put behind those of the term t -/
def AP (t u : Nat) (a b : Int) (H H9 : hp) : Prop := H9.1 t 1 = H.1 t 1 + (b - a) ∧ (∀ x : Nat, (x : Int) < H.1 t 1 → H9.1 (t + 1) x = H.1 (t + 1) x) ∧ (∀ x : Nat, (x : Int) < b - a → H9.1 (t + 1) ((H.1 t 1).toNat + x) = H.1 (u + 1) (a.toNat + x)) ∧ AF t H H9
theorem AP_of {t u : Nat} {a b : Int} {H H1 H2 : hp} (w : wra (t + 1) H H1) (v : ∀ j : Nat, H1.1 (t + 1) j = if (H.1 t 1).toNat ≤ j ∧ j < (H.1 t 1).toNat + (b - a).toNat then H.1 (u + 1) (a.toNat + (j - (H.1 t 1).toNat)) else H.1 (t + 1) j) (w2 : wr t 1 H1 H2) (v2 : H2.1 t 1 = H.1 t 1 + (b - a)) : AP t u a b H H2 := by
  refine ⟨v2, fun x hx => ?_, fun x hx => ?_, AF_tr (AF_a w) (AF_w w2)⟩
  · rw [w2.2 _ _ (fun q => by have := q.1; omega), v, if_neg (by omega)]
  · rw [w2.2 _ _ (fun q => by have := q.1; omega), v, if_pos (by omega), Nat.add_sub_cancel_left]

/-! Term.behind -/
set_option maxRecDepth 100000 in
theorem qb_behind_cut {k : Nat} {d : Nat} (hd : 1 ≤ d) {H : hp} (hI : Inv H) {t n : Nat} {a : Int} (ht : isT t n) (ha : -2147483648 ≤ a ∧ a ≤ 2147483647) (hb9 : 0 ≤ a ∧ a + k ≤ H.1 t 1) (hk9 : tm aC tr9 (H.1 (t + 1)) k a.toNat 1) : ∀ w : Nat, (∀ (x2 : Int) (x3 : Int) , (-2147483648 ≤ x2 ∧ x2 ≤ 2147483647) → (-2147483648 ≤ x3 ∧ x3 ≤ 2147483647) → (x2 ≤ 1 + 7 * x3) → (-x3 ≤ x2) → (0 ≤ x3) → (a ≤ x3) → (x3 ≤ H.1 t 1) → (∃ kk m : Nat, tm aC tr9 (H.1 (t + 1)) kk x3.toNat m ∧ x2 = m ∧ x3 + kk = a + k) → (((1000 - x3).toNat) < w) → hG (zs zK) d mt_53 8 [(0, .inr (.inr t)), (1, .inl a), (2, .inl x2), (3, .inl x3)] [] H (fun r9 H9 => ∃ z : Int, r9 = some (.inl z) ∧ ((-2147483648 ≤ z ∧ z ≤ 2147483647) ∧ (z = a + k)) ∧ H = H9)) := by
  intro w
  induction w with
  | zero => exact fun _ _ _ _ _ _ _ _ _ _ h => absurd h (Nat.not_lt_zero _)
  | succ w ih =>
    intro x2 x3 hx2 hx3 hi0 hi1 hi2 hi3 hi4 hi5 hw
    have htb := ht.2.2.2.2
    obtain ⟨kk, mm, hq1, hq2, hq3⟩ := hi5
    have hq4 : mm = 0 → kk = 0 := fun e9 => tm_z (e9 ▸ hq1)
    refine k_run 2 (pc' := 10) (l' := [(0, .inr (.inr t)), (1, .inl a), (2, .inl x2), (3, .inl x3)]) (st' := [.inr (.inr t), .inl x3]) rfl ?_
    refine k_get (a := t) (x := (kTo t n)) (v := .inl (H.1 t 1)) rfl rfl ht.1 (iT0 ht) rfl rfl rfl ?_
    have g2 : 0 ≤ (H.1 t 1) ∧ (H.1 t 1) ≤ n := kn hI ht.1 1
    refine k_run 0 (pc' := 13) (l' := [(0, .inr (.inr t)), (1, .inl a), (2, .inl x2), (3, .inl x3)]) (st' := [.inl (H.1 t 1), .inl x3]) rfl ?_
    refine h_ige (off := 27) (t := 40) rfl rfl (by omega) (by omega) (fun c3 => ?_) (fun c3 => ?_)
    · refine k_run 0 (pc' := 40) (l' := [(0, .inr (.inr t)), (1, .inl a), (2, .inl x2), (3, .inl x3)]) (st' := []) rfl ?_
      refine k_run 1 (pc' := 41) (l' := [(0, .inr (.inr t)), (1, .inl a), (2, .inl x2), (3, .inl x3)]) (st' := [.inl x3]) rfl ?_
      refine h_reti (x := x3) rfl rfl ?_
      exact ⟨_, rfl, (by omega), rfl⟩
    · refine k_run 0 (pc' := 16) (l' := [(0, .inr (.inr t)), (1, .inl a), (2, .inl x2), (3, .inl x3)]) (st' := []) rfl ?_
      refine k_run 1 (pc' := 17) (l' := [(0, .inr (.inr t)), (1, .inl a), (2, .inl x2), (3, .inl x3)]) (st' := [.inl x2]) rfl ?_
      refine h_zle (off := 23) (t := 40) rfl rfl (by omega) (fun c4 => ?_) (fun c4 => ?_)
      · refine k_run 0 (pc' := 40) (l' := [(0, .inr (.inr t)), (1, .inl a), (2, .inl x2), (3, .inl x3)]) (st' := []) rfl ?_
        refine k_run 1 (pc' := 41) (l' := [(0, .inr (.inr t)), (1, .inl a), (2, .inl x2), (3, .inl x3)]) (st' := [.inl x3]) rfl ?_
        refine h_reti (x := x3) rfl rfl ?_
        exact ⟨_, rfl, (by omega), rfl⟩
      · refine k_run 0 (pc' := 20) (l' := [(0, .inr (.inr t)), (1, .inl a), (2, .inl x2), (3, .inl x3)]) (st' := []) rfl ?_
        refine k_run 2 (pc' := 22) (l' := [(0, .inr (.inr t)), (1, .inl a), (2, .inl x2), (3, .inl x3)]) (st' := [.inr (.inr t), .inl x2]) rfl ?_
        refine k_get (a := t) (x := (kTo t n)) (v := .inr (.inr (t + 1))) rfl rfl ht.1 (iT0 ht) rfl rfl rfl ?_
        refine k_run 0 (pc' := 25) (l' := [(0, .inr (.inr t)), (1, .inl a), (2, .inl x2), (3, .inl x3)]) (st' := [.inr (.inr (t + 1)), .inl x2]) rfl ?_
        refine k_run 1 (pc' := 26) (l' := [(0, .inr (.inr t)), (1, .inl a), (2, .inl x2), (3, .inl x3)]) (st' := [.inl x3, .inr (.inr (t + 1)), .inl x2]) rfl ?_
        refine k_ild (c := (t + 1)) (j := (x3).toNat) (i := x3) (x := (kTc n)) rfl ht.2.1 (iT1 ht) rfl (by omega) (by omega) (by omega) ?_
        have g5 : -2147483648 ≤ (H.1 (t + 1) (x3).toNat) ∧ (H.1 (t + 1) (x3).toNat) ≤ 2147483647 := kn hI ht.2.1 (x3).toNat
        refine k_run 0 (pc' := 27) (l' := [(0, .inr (.inr t)), (1, .inl a), (2, .inl x2), (3, .inl x3)]) (st' := [.inl (H.1 (t + 1) (x3).toNat), .inl x2]) rfl ?_
        refine k_run 2 (pc' := 30) (l' := [(0, .inr (.inr t)), (1, .inl a), (2, .inl x2), (3, .inl x3)]) (st' := [.inl (z_and (H.1 (t + 1) (x3).toNat) 7), .inl x2]) rfl ?_
        have g6 : 0 ≤ (z_and (H.1 (t + 1) (x3).toNat) 7) ∧ (z_and (H.1 (t + 1) (x3).toNat) 7) ≤ 7 := z_and_le _ 7 (by decide)
        refine k_run 6 (pc' := 8) (l' := [(0, .inr (.inr t)), (1, .inl a), (2, .inl (x2 + ((z_and (H.1 (t + 1) (x3).toNat) 7) - 1))), (3, .inl (x3 + 1))]) (st' := []) rfl ?_
        exact ih (x2 + ((z_and (H.1 (t + 1) (x3).toNat) 7) - 1)) (x3 + 1) (by omega) (by omega) (by omega) (by omega) (by omega) (by omega) (by omega) (by obtain ⟨k9, m9, r1, r2, r3⟩ := BI_s (v := z_and (H.1 (t + 1) x3.toNat) 7) hq1 (by omega) rfl; exact ⟨k9, m9, by rw [show (x3 + 1).toNat = x3.toNat + 1 by omega]; exact r1, by omega, by omega⟩) (by omega)
set_option maxRecDepth 100000 in
theorem qb_behind {k : Nat} {d : Nat} (hd : 1 ≤ d) {H : hp} (hI : Inv H) {t n : Nat} {a : Int} (ht : isT t n) (ha : -2147483648 ≤ a ∧ a ≤ 2147483647) (hb9 : 0 ≤ a ∧ a + k ≤ H.1 t 1) (hk9 : tm aC tr9 (H.1 (t + 1)) k a.toNat 1) : hG (zs zK) d mt_53 0 (zargs 0 [.inr (.inr t), .inl a]) [] H (fun r9 H9 => ∃ z : Int, r9 = some (.inl z) ∧ ((-2147483648 ≤ z ∧ z ≤ 2147483647) ∧ (z = a + k)) ∧ H = H9) := by
  have htb := ht.2.2.2.2
  refine k_run 0 (pc' := 0) (l' := [(0, .inr (.inr t)), (1, .inl a)]) (st' := []) rfl ?_
  refine k_run 4 (pc' := 4) (l' := [(0, .inr (.inr t)), (1, .inl a), (2, .inl 1)]) (st' := [.inl 0, .inl a]) rfl ?_
  refine k_max (i := 7) (x := a) (y := 0) rfl rfl (Nat.le_of_ble_eq_true rfl) (by omega) (by omega) (by decide) (fun z1 hz1 => ?_)
  refine k_run 0 (pc' := 7) (l' := [(0, .inr (.inr t)), (1, .inl a), (2, .inl 1)]) (st' := [.inl z1]) rfl ?_
  refine k_run 1 (pc' := 8) (l' := [(0, .inr (.inr t)), (1, .inl a), (2, .inl 1), (3, .inl z1)]) (st' := []) rfl ?_
  exact (qb_behind_cut hd hI ht ha hb9 hk9 _) (1 : Int) z1 (by decide) (by omega) (by omega) (by omega) (by omega) (by omega) (by omega) ⟨k, 1, by rw [show z1 = a by omega]; exact hk9, rfl, by omega⟩ (Nat.lt_succ_self _)

/-! Term.append -/
set_option maxRecDepth 100000 in
theorem qb_append {d : Nat} (hd : 1 ≤ d) {H : hp} (hI : Inv H) {t n : Nat} {u m : Nat} {a : Int} {b : Int} (ht : isT t n) (hu : isT u m) (ha : -2147483648 ≤ a ∧ a ≤ 2147483647) (hb : -2147483648 ≤ b ∧ b ≤ 2147483647) (hp0 : 0 ≤ a ∧ a ≤ b ∧ b ≤ H.1 u 1) : hG (zs zK) d mt_54 0 (zargs 0 [.inr (.inr t), .inr (.inr u), .inl a, .inl b]) [] H (fun r9 H9 => ∃ z : Int, r9 = some (.inl z) ∧ ((0 ≤ z ∧ z ≤ 1)) ∧ Inv H9 ∧ fq [] [] false H H9 ∧ ((z = 1 ∧ H.1 t 1 + (b - a) ≤ n ∧ AP t u a b H H9) ∨ (z = 0 ∧ n < H.1 t 1 + (b - a) ∧ H9 = H))) := by
  have htb := ht.2.2.2.2
  have hub := hu.2.2.2.2
  refine k_run 0 (pc' := 0) (l' := [(0, .inr (.inr t)), (1, .inr (.inr u)), (2, .inl a), (3, .inl b)]) (st' := []) rfl ?_
  refine k_run 5 (pc' := 6) (l' := [(0, .inr (.inr t)), (1, .inr (.inr u)), (2, .inl a), (3, .inl b), (4, .inl (b - a))]) (st' := [.inl a]) rfl ?_
  refine h_zlt (off := 31) (t := 37) rfl rfl (by omega) (fun c1 => ?_) (fun c1 => ?_)
  · refine k_run 0 (pc' := 37) (l' := [(0, .inr (.inr t)), (1, .inr (.inr u)), (2, .inl a), (3, .inl b), (4, .inl (b - a))]) (st' := []) rfl ?_
    refine k_run 1 (pc' := 38) (l' := [(0, .inr (.inr t)), (1, .inr (.inr u)), (2, .inl a), (3, .inl b), (4, .inl (b - a))]) (st' := [.inl 0]) rfl ?_
    refine h_retz (x := 0) rfl rfl (by decide) ?_
    exact ⟨_, rfl, (by omega), hI, (fq_rf _ _ _ _), (Or.inr ⟨rfl, by omega, rfl⟩)⟩
  · refine k_run 0 (pc' := 9) (l' := [(0, .inr (.inr t)), (1, .inr (.inr u)), (2, .inl a), (3, .inl b), (4, .inl (b - a))]) (st' := []) rfl ?_
    refine k_run 1 (pc' := 11) (l' := [(0, .inr (.inr t)), (1, .inr (.inr u)), (2, .inl a), (3, .inl b), (4, .inl (b - a))]) (st' := [.inl (b - a)]) rfl ?_
    refine h_zlt (off := 26) (t := 37) rfl rfl (by omega) (fun c2 => ?_) (fun c2 => ?_)
    · refine k_run 0 (pc' := 37) (l' := [(0, .inr (.inr t)), (1, .inr (.inr u)), (2, .inl a), (3, .inl b), (4, .inl (b - a))]) (st' := []) rfl ?_
      refine k_run 1 (pc' := 38) (l' := [(0, .inr (.inr t)), (1, .inr (.inr u)), (2, .inl a), (3, .inl b), (4, .inl (b - a))]) (st' := [.inl 0]) rfl ?_
      refine h_retz (x := 0) rfl rfl (by decide) ?_
      exact ⟨_, rfl, (by omega), hI, (fq_rf _ _ _ _), (Or.inr ⟨rfl, by omega, rfl⟩)⟩
    · refine k_run 0 (pc' := 14) (l' := [(0, .inr (.inr t)), (1, .inr (.inr u)), (2, .inl a), (3, .inl b), (4, .inl (b - a))]) (st' := []) rfl ?_
      refine k_run 2 (pc' := 16) (l' := [(0, .inr (.inr t)), (1, .inr (.inr u)), (2, .inl a), (3, .inl b), (4, .inl (b - a))]) (st' := [.inr (.inr u), .inl b]) rfl ?_
      refine k_get (a := u) (x := (kTo u m)) (v := .inl (H.1 u 1)) rfl rfl hu.1 (iT0 hu) rfl rfl rfl ?_
      have g3 : 0 ≤ (H.1 u 1) ∧ (H.1 u 1) ≤ m := kn hI hu.1 1
      refine k_run 0 (pc' := 19) (l' := [(0, .inr (.inr t)), (1, .inr (.inr u)), (2, .inl a), (3, .inl b), (4, .inl (b - a))]) (st' := [.inl (H.1 u 1), .inl b]) rfl ?_
      refine h_igt (off := 18) (t := 37) rfl rfl (by omega) (by omega) (fun c4 => ?_) (fun c4 => ?_)
      · refine k_run 0 (pc' := 37) (l' := [(0, .inr (.inr t)), (1, .inr (.inr u)), (2, .inl a), (3, .inl b), (4, .inl (b - a))]) (st' := []) rfl ?_
        refine k_run 1 (pc' := 38) (l' := [(0, .inr (.inr t)), (1, .inr (.inr u)), (2, .inl a), (3, .inl b), (4, .inl (b - a))]) (st' := [.inl 0]) rfl ?_
        refine h_retz (x := 0) rfl rfl (by decide) ?_
        exact ⟨_, rfl, (by omega), hI, (fq_rf _ _ _ _), (Or.inr ⟨rfl, by omega, rfl⟩)⟩
      · refine k_run 0 (pc' := 22) (l' := [(0, .inr (.inr t)), (1, .inr (.inr u)), (2, .inl a), (3, .inl b), (4, .inl (b - a))]) (st' := []) rfl ?_
        refine k_run 2 (pc' := 25) (l' := [(0, .inr (.inr t)), (1, .inr (.inr u)), (2, .inl a), (3, .inl b), (4, .inl (b - a))]) (st' := [.inr (.inr t), .inl (b - a)]) rfl ?_
        refine k_get (a := t) (x := (kTo t n)) (v := .inr (.inr (t + 1))) rfl rfl ht.1 (iT0 ht) rfl rfl rfl ?_
        refine k_run 0 (pc' := 28) (l' := [(0, .inr (.inr t)), (1, .inr (.inr u)), (2, .inl a), (3, .inl b), (4, .inl (b - a))]) (st' := [.inr (.inr (t + 1)), .inl (b - a)]) rfl ?_
        refine k_alen (c := (t + 1)) (x := (kTc n)) rfl ht.2.1 (iT1 ht) rfl ?_
        refine k_run 0 (pc' := 29) (l' := [(0, .inr (.inr t)), (1, .inr (.inr u)), (2, .inl a), (3, .inl b), (4, .inl (b - a))]) (st' := [.inl (n : Int), .inl (b - a)]) rfl ?_
        refine k_run 1 (pc' := 30) (l' := [(0, .inr (.inr t)), (1, .inr (.inr u)), (2, .inl a), (3, .inl b), (4, .inl (b - a))]) (st' := [.inr (.inr t), .inl (n : Int), .inl (b - a)]) rfl ?_
        refine k_get (a := t) (x := (kTo t n)) (v := .inl (H.1 t 1)) rfl rfl ht.1 (iT0 ht) rfl rfl rfl ?_
        have g5 : 0 ≤ (H.1 t 1) ∧ (H.1 t 1) ≤ n := kn hI ht.1 1
        refine k_run 0 (pc' := 33) (l' := [(0, .inr (.inr t)), (1, .inr (.inr u)), (2, .inl a), (3, .inl b), (4, .inl (b - a))]) (st' := [.inl (H.1 t 1), .inl (n : Int), .inl (b - a)]) rfl ?_
        refine k_run 1 (pc' := 34) (l' := [(0, .inr (.inr t)), (1, .inr (.inr u)), (2, .inl a), (3, .inl b), (4, .inl (b - a))]) (st' := [.inl ((n : Int) - (H.1 t 1)), .inl (b - a)]) rfl ?_
        refine h_ile (off := 5) (t := 39) rfl rfl (by omega) (by omega) (fun c6 => ?_) (fun c6 => ?_)
        · refine k_run 0 (pc' := 39) (l' := [(0, .inr (.inr t)), (1, .inr (.inr u)), (2, .inl a), (3, .inl b), (4, .inl (b - a))]) (st' := []) rfl ?_
          refine k_run 1 (pc' := 40) (l' := [(0, .inr (.inr t)), (1, .inr (.inr u)), (2, .inl a), (3, .inl b), (4, .inl (b - a))]) (st' := [.inr (.inr u)]) rfl ?_
          refine k_get (a := u) (x := (kTo u m)) (v := .inr (.inr (u + 1))) rfl rfl hu.1 (iT0 hu) rfl rfl rfl ?_
          refine k_run 0 (pc' := 43) (l' := [(0, .inr (.inr t)), (1, .inr (.inr u)), (2, .inl a), (3, .inl b), (4, .inl (b - a))]) (st' := [.inr (.inr (u + 1))]) rfl ?_
          refine k_run 2 (pc' := 45) (l' := [(0, .inr (.inr t)), (1, .inr (.inr u)), (2, .inl a), (3, .inl b), (4, .inl (b - a))]) (st' := [.inr (.inr t), .inl a, .inr (.inr (u + 1))]) rfl ?_
          refine k_get (a := t) (x := (kTo t n)) (v := .inr (.inr (t + 1))) rfl rfl ht.1 (iT0 ht) rfl rfl rfl ?_
          refine k_run 0 (pc' := 48) (l' := [(0, .inr (.inr t)), (1, .inr (.inr u)), (2, .inl a), (3, .inl b), (4, .inl (b - a))]) (st' := [.inr (.inr (t + 1)), .inl a, .inr (.inr (u + 1))]) rfl ?_
          refine k_run 1 (pc' := 49) (l' := [(0, .inr (.inr t)), (1, .inr (.inr u)), (2, .inl a), (3, .inl b), (4, .inl (b - a))]) (st' := [.inr (.inr t), .inr (.inr (t + 1)), .inl a, .inr (.inr (u + 1))]) rfl ?_
          refine k_get (a := t) (x := (kTo t n)) (v := .inl (H.1 t 1)) rfl rfl ht.1 (iT0 ht) rfl rfl rfl ?_
          refine k_run 0 (pc' := 52) (l' := [(0, .inr (.inr t)), (1, .inr (.inr u)), (2, .inl a), (3, .inl b), (4, .inl (b - a))]) (st' := [.inl (H.1 t 1), .inr (.inr (t + 1)), .inl a, .inr (.inr (u + 1))]) rfl ?_
          refine k_run 1 (pc' := 54) (l' := [(0, .inr (.inr t)), (1, .inr (.inr u)), (2, .inl a), (3, .inl b), (4, .inl (b - a))]) (st' := [.inl (b - a), .inl (H.1 t 1), .inr (.inr (t + 1)), .inl a, .inr (.inr (u + 1))]) rfl ?_
          refine k_copyx (i := 23) (t := u) (u := t) rfl rfl (Nat.le_of_ble_eq_true rfl) (by omega) hu ht (by omega) (by omega) (by omega) (by omega) (by omega) hI (fun H7 hI8 hw9 hv10 => ?_)
          have hf11 : fq [] [] false H H7 := fq_a (fq_rf _ _ _ _) hw9 ht
          refine k_run 0 (pc' := 57) (l' := [(0, .inr (.inr t)), (1, .inr (.inr u)), (2, .inl a), (3, .inl b), (4, .inl (b - a))]) (st' := []) rfl ?_
          refine k_run 2 (pc' := 59) (l' := [(0, .inr (.inr t)), (1, .inr (.inr u)), (2, .inl a), (3, .inl b), (4, .inl (b - a))]) (st' := [.inr (.inr t), .inr (.inr t)]) rfl ?_
          refine k_get (a := t) (x := (kTo t n)) (v := .inl (H7.1 t 1)) rfl rfl ht.1 (iT0 ht) rfl rfl rfl ?_
          have g12 : 0 ≤ (H7.1 t 1) ∧ (H7.1 t 1) ≤ n := kn hI8 ht.1 1
          have e13 : (H7.1 t 1) = (H.1 t 1) := hw9.2 _ _ (iTC ht ht)
          refine k_run 0 (pc' := 62) (l' := [(0, .inr (.inr t)), (1, .inr (.inr u)), (2, .inl a), (3, .inl b), (4, .inl (b - a))]) (st' := [.inl (H7.1 t 1), .inr (.inr t)]) rfl ?_
          refine k_run 2 (pc' := 65) (l' := [(0, .inr (.inr t)), (1, .inr (.inr u)), (2, .inl a), (3, .inl b), (4, .inl (b - a))]) (st' := [.inl ((H7.1 t 1) + (b - a)), .inr (.inr t)]) rfl ?_
          refine k_puti (z := ((H7.1 t 1) + (b - a))) (a := t) (x := (kTo t n)) rfl rfl ht.1 (iT0 ht) ht.2.2.1 rfl rfl rfl rfl hI8 (by omega) (show 0 ≤ ((H7.1 t 1) + (b - a)) ∧ ((H7.1 t 1) + (b - a)) ≤ n by omega) (fun H14 hI15 hw16 hv17 => ?_)
          have hf18 : fq [] [] false H H14 := fq_w hf11 hw16 (fpT ht)
          refine k_run 0 (pc' := 68) (l' := [(0, .inr (.inr t)), (1, .inr (.inr u)), (2, .inl a), (3, .inl b), (4, .inl (b - a))]) (st' := []) rfl ?_
          refine k_run 1 (pc' := 69) (l' := [(0, .inr (.inr t)), (1, .inr (.inr u)), (2, .inl a), (3, .inl b), (4, .inl (b - a))]) (st' := [.inl 1]) rfl ?_
          refine h_retz (x := 1) rfl rfl (by decide) ?_
          exact ⟨_, rfl, (by omega), hI15, hf18, (Or.inl ⟨rfl, by omega, AP_of hw9 (by intro j; exact hv10 j) hw16 (by have q9 := hv17; omega)⟩)⟩
        · refine k_run 0 (pc' := 37) (l' := [(0, .inr (.inr t)), (1, .inr (.inr u)), (2, .inl a), (3, .inl b), (4, .inl (b - a))]) (st' := []) rfl ?_
          refine k_run 1 (pc' := 38) (l' := [(0, .inr (.inr t)), (1, .inr (.inr u)), (2, .inl a), (3, .inl b), (4, .inl (b - a))]) (st' := [.inl 0]) rfl ?_
          refine h_retz (x := 0) rfl rfl (by decide) ?_
          exact ⟨_, rfl, (by omega), hI, (fq_rf _ _ _ _), (Or.inr ⟨rfl, by omega, rfl⟩)⟩

/-! Term.copy -/
set_option maxRecDepth 100000 in
theorem qb_copy {d : Nat} (hd : 1 ≤ d) {H : hp} (hI : Inv H) {t n : Nat} {u m : Nat} (ht : isT t n) (hu : isT u m) (hp0 : H.1 u 1 ≤ n) : hG (zs zK) d mt_55 0 (zargs 0 [.inr (.inr t), .inr (.inr u)]) [] H (fun r9 H9 => r9 = none ∧ Inv H9 ∧ fq [] [] false H H9 ∧ (H9.1 t 1 = H.1 u 1 ∧ (∀ x : Nat, (x : Int) < H.1 u 1 → H9.1 (t + 1) x = H.1 (u + 1) x) ∧ AF t H H9)) := by
  have htb := ht.2.2.2.2
  have hub := hu.2.2.2.2
  refine k_run 0 (pc' := 0) (l' := [(0, .inr (.inr t)), (1, .inr (.inr u))]) (st' := []) rfl ?_
  refine k_run 1 (pc' := 1) (l' := [(0, .inr (.inr t)), (1, .inr (.inr u))]) (st' := [.inr (.inr u)]) rfl ?_
  refine k_get (a := u) (x := (kTo u m)) (v := .inl (H.1 u 1)) rfl rfl hu.1 (iT0 hu) rfl rfl rfl ?_
  have g1 : 0 ≤ (H.1 u 1) ∧ (H.1 u 1) ≤ m := kn hI hu.1 1
  refine k_run 0 (pc' := 4) (l' := [(0, .inr (.inr t)), (1, .inr (.inr u))]) (st' := [.inl (H.1 u 1)]) rfl ?_
  refine k_run 1 (pc' := 5) (l' := [(0, .inr (.inr t)), (1, .inr (.inr u))]) (st' := [.inr (.inr t), .inl (H.1 u 1)]) rfl ?_
  refine k_get (a := t) (x := (kTo t n)) (v := .inr (.inr (t + 1))) rfl rfl ht.1 (iT0 ht) rfl rfl rfl ?_
  refine k_run 0 (pc' := 8) (l' := [(0, .inr (.inr t)), (1, .inr (.inr u))]) (st' := [.inr (.inr (t + 1)), .inl (H.1 u 1)]) rfl ?_
  refine k_alen (c := (t + 1)) (x := (kTc n)) rfl ht.2.1 (iT1 ht) rfl ?_
  refine k_run 0 (pc' := 9) (l' := [(0, .inr (.inr t)), (1, .inr (.inr u))]) (st' := [.inl (n : Int), .inl (H.1 u 1)]) rfl ?_
  refine k_min (i := 29) (x := (H.1 u 1)) (y := (n : Int)) rfl rfl (Nat.le_of_ble_eq_true rfl) (by omega) (by omega) (by omega) (fun z2 hz2 => ?_)
  refine k_run 0 (pc' := 12) (l' := [(0, .inr (.inr t)), (1, .inr (.inr u))]) (st' := [.inl z2]) rfl ?_
  refine k_run 2 (pc' := 14) (l' := [(0, .inr (.inr t)), (1, .inr (.inr u)), (2, .inl z2)]) (st' := [.inr (.inr u)]) rfl ?_
  refine k_get (a := u) (x := (kTo u m)) (v := .inr (.inr (u + 1))) rfl rfl hu.1 (iT0 hu) rfl rfl rfl ?_
  refine k_run 0 (pc' := 17) (l' := [(0, .inr (.inr t)), (1, .inr (.inr u)), (2, .inl z2)]) (st' := [.inr (.inr (u + 1))]) rfl ?_
  refine k_run 2 (pc' := 19) (l' := [(0, .inr (.inr t)), (1, .inr (.inr u)), (2, .inl z2)]) (st' := [.inr (.inr t), .inl 0, .inr (.inr (u + 1))]) rfl ?_
  refine k_get (a := t) (x := (kTo t n)) (v := .inr (.inr (t + 1))) rfl rfl ht.1 (iT0 ht) rfl rfl rfl ?_
  refine k_run 0 (pc' := 22) (l' := [(0, .inr (.inr t)), (1, .inr (.inr u)), (2, .inl z2)]) (st' := [.inr (.inr (t + 1)), .inl 0, .inr (.inr (u + 1))]) rfl ?_
  refine k_run 2 (pc' := 24) (l' := [(0, .inr (.inr t)), (1, .inr (.inr u)), (2, .inl z2)]) (st' := [.inl z2, .inl 0, .inr (.inr (t + 1)), .inl 0, .inr (.inr (u + 1))]) rfl ?_
  refine k_copyx (i := 23) (t := u) (u := t) rfl rfl (Nat.le_of_ble_eq_true rfl) (by omega) hu ht (by omega) (by omega) (by omega) (by omega) (by omega) hI (fun H3 hI4 hw5 hv6 => ?_)
  have hf7 : fq [] [] false H H3 := fq_a (fq_rf _ _ _ _) hw5 ht
  refine k_run 0 (pc' := 27) (l' := [(0, .inr (.inr t)), (1, .inr (.inr u)), (2, .inl z2)]) (st' := []) rfl ?_
  refine k_run 2 (pc' := 29) (l' := [(0, .inr (.inr t)), (1, .inr (.inr u)), (2, .inl z2)]) (st' := [.inl z2, .inr (.inr t)]) rfl ?_
  refine k_puti (z := z2) (a := t) (x := (kTo t n)) rfl rfl ht.1 (iT0 ht) ht.2.2.1 rfl rfl rfl rfl hI4 (by omega) (show 0 ≤ z2 ∧ z2 ≤ n by omega) (fun H8 hI9 hw10 hv11 => ?_)
  have hf12 : fq [] [] false H H8 := fq_w hf7 hw10 (fpT ht)
  refine k_run 0 (pc' := 32) (l' := [(0, .inr (.inr t)), (1, .inr (.inr u)), (2, .inl z2)]) (st' := []) rfl ?_
  refine h_ret rfl rfl ?_
  exact ⟨rfl, hI9, hf12, (by have e9 : H3.1 t 1 = H3.1 t 1 := rfl; exact ⟨by have q9 := hv11; omega, fun x hx => by rw [hw10.2 _ _ (fun q => by have := q.1; omega), hv6, if_pos (by omega)]; show H.1 (u + 1) ((0 : Int).toNat + (x - (0 : Int).toNat)) = _; rw [show (0 : Int).toNat + (x - (0 : Int).toNat) = x by omega], AF_tr (AF_a hw5) (AF_w hw10)⟩)⟩

/-! Rewriter.firstCall -/
set_option maxRecDepth 100000 in
theorem qb_firstCall_cut {g : Nat → Int} {N : Nat} {d : Nat} (hd : 2 ≤ d) {H : hp} (hI : Inv H) {t n : Nat} (ht : isT t n) (hn9 : H.1 t 1 = (N : Int)) (hk9 : ∀ x : Nat, x < N → (z_shr (H.1 (t + 1) x) 10 = 2 ↔ 100 ≤ g x ∧ g x < 1000)) : ∀ w : Nat, (∀ (x1 : Int) , (-2147483648 ≤ x1 ∧ x1 ≤ 2147483647) → (0 ≤ x1 ∧ x1 ≤ N) → (fcF g N N = fcF g N (N - x1.toNat)) → (((1000 - x1).toNat) < w) → hG (zs zK) d mt_100 2 [(0, .inr (.inr t)), (1, .inl x1)] [] H (fun r9 H9 => ∃ z : Int, r9 = some (.inl z) ∧ ((-2147483648 ≤ z ∧ z ≤ 2147483647)) ∧ ((z = -1 ∧ fcF g N N = N) ∨ (z = ((fcF g N N : Nat) : Int) ∧ fcF g N N < N)) ∧ H = H9)) := by
  intro w
  induction w with
  | zero => exact fun _ _ _ _ h => absurd h (Nat.not_lt_zero _)
  | succ w ih =>
    intro x1 hx1 hi0 hi1 hw
    have htb := ht.2.2.2.2
    refine k_run 2 (pc' := 4) (l' := [(0, .inr (.inr t)), (1, .inl x1)]) (st' := [.inr (.inr t), .inl x1]) rfl ?_
    refine k_get (a := t) (x := (kTo t n)) (v := .inl (H.1 t 1)) rfl rfl ht.1 (iT0 ht) rfl rfl rfl ?_
    have g1 : 0 ≤ (H.1 t 1) ∧ (H.1 t 1) ≤ n := kn hI ht.1 1
    refine k_run 0 (pc' := 7) (l' := [(0, .inr (.inr t)), (1, .inl x1)]) (st' := [.inl (H.1 t 1), .inl x1]) rfl ?_
    refine h_ige (off := 24) (t := 31) rfl rfl (by omega) (by omega) (fun c2 => ?_) (fun c2 => ?_)
    · refine k_run 0 (pc' := 31) (l' := [(0, .inr (.inr t)), (1, .inl x1)]) (st' := []) rfl ?_
      refine k_run 1 (pc' := 32) (l' := [(0, .inr (.inr t)), (1, .inl x1)]) (st' := [.inl (-1)]) rfl ?_
      refine h_reti (x := (-1)) rfl rfl ?_
      exact ⟨_, rfl, (by omega), (Or.inl ⟨rfl, by rw [hi1, show x1.toNat = N by omega]; exact fc_end N⟩), rfl⟩
    · refine k_run 0 (pc' := 10) (l' := [(0, .inr (.inr t)), (1, .inl x1)]) (st' := []) rfl ?_
      refine k_run 1 (pc' := 11) (l' := [(0, .inr (.inr t)), (1, .inl x1)]) (st' := [.inr (.inr t)]) rfl ?_
      refine k_get (a := t) (x := (kTo t n)) (v := .inr (.inr (t + 1))) rfl rfl ht.1 (iT0 ht) rfl rfl rfl ?_
      refine k_run 0 (pc' := 14) (l' := [(0, .inr (.inr t)), (1, .inl x1)]) (st' := [.inr (.inr (t + 1))]) rfl ?_
      refine k_run 1 (pc' := 15) (l' := [(0, .inr (.inr t)), (1, .inl x1)]) (st' := [.inl x1, .inr (.inr (t + 1))]) rfl ?_
      refine k_ild (c := (t + 1)) (j := (x1).toNat) (i := x1) (x := (kTc n)) rfl ht.2.1 (iT1 ht) rfl (by omega) (by omega) (by omega) ?_
      have g3 : -2147483648 ≤ (H.1 (t + 1) (x1).toNat) ∧ (H.1 (t + 1) (x1).toNat) ≤ 2147483647 := kn hI ht.2.1 (x1).toNat
      refine k_run 0 (pc' := 16) (l' := [(0, .inr (.inr t)), (1, .inl x1)]) (st' := [.inl (H.1 (t + 1) (x1).toNat)]) rfl ?_
      refine h_cs (i := 45) (j := 49) (M' := mt_49) (xs := [.inl (H.1 (t + 1) (x1).toNat)]) (rest := []) rfl rfl rfl rfl rfl (Nat.le_of_ble_eq_true rfl) (Nat.le_of_ble_eq_true rfl) (by omega) (q_Term_kindOf (by omega)  (by omega)) ?_
      rintro _ _ ⟨z10, rfl, g4, hx9, rfl⟩
      refine k_run 0 (pc' := 19) (l' := [(0, .inr (.inr t)), (1, .inl x1)]) (st' := [.inl z10]) rfl ?_
      refine k_run 1 (pc' := 20) (l' := [(0, .inr (.inr t)), (1, .inl x1)]) (st' := [.inl 2, .inl z10]) rfl ?_
      refine h_ine (off := 5) (t := 25) rfl rfl (by omega) (by decide) (fun c11 => ?_) (fun c11 => ?_)
      · refine k_run 0 (pc' := 25) (l' := [(0, .inr (.inr t)), (1, .inl x1)]) (st' := []) rfl ?_
        refine k_run 2 (pc' := 2) (l' := [(0, .inr (.inr t)), (1, .inl (x1 + 1))]) (st' := []) rfl ?_
        exact ih (x1 + 1) (by omega) (by omega) (by rw [show (x1 + 1).toNat = x1.toNat + 1 by omega]; exact hi1.trans (fc_go N (by omega) (fun q9 => by have q8 := (hk9 x1.toNat (by omega)).mpr q9; omega))) (by omega)
      · refine k_run 0 (pc' := 23) (l' := [(0, .inr (.inr t)), (1, .inl x1)]) (st' := []) rfl ?_
        refine k_run 1 (pc' := 24) (l' := [(0, .inr (.inr t)), (1, .inl x1)]) (st' := [.inl x1]) rfl ?_
        refine h_reti (x := x1) rfl rfl ?_
        exact ⟨_, rfl, (by omega), (by have q9 := hi1.trans (fc_hit N (by omega) ((hk9 x1.toNat (by omega)).mp (by omega))); exact Or.inr ⟨by omega, by omega⟩), rfl⟩
set_option maxRecDepth 100000 in
theorem qb_firstCall {g : Nat → Int} {N : Nat} {d : Nat} (hd : 2 ≤ d) {H : hp} (hI : Inv H) {t n : Nat} (ht : isT t n) (hn9 : H.1 t 1 = (N : Int)) (hk9 : ∀ x : Nat, x < N → (z_shr (H.1 (t + 1) x) 10 = 2 ↔ 100 ≤ g x ∧ g x < 1000)) : hG (zs zK) d mt_100 0 (zargs 0 [.inr (.inr t)]) [] H (fun r9 H9 => ∃ z : Int, r9 = some (.inl z) ∧ ((-2147483648 ≤ z ∧ z ≤ 2147483647)) ∧ ((z = -1 ∧ fcF g N N = N) ∨ (z = ((fcF g N N : Nat) : Int) ∧ fcF g N N < N)) ∧ H = H9) := by
  have htb := ht.2.2.2.2
  refine k_run 0 (pc' := 0) (l' := [(0, .inr (.inr t))]) (st' := []) rfl ?_
  refine k_run 2 (pc' := 2) (l' := [(0, .inr (.inr t)), (1, .inl 0)]) (st' := []) rfl ?_
  exact (qb_firstCall_cut hd hI ht hn9 hk9 _) (0 : Int) (by decide) (by omega) rfl (Nat.lt_succ_self _)
