/-! the class's tape, told exactly: frames by places, tokens -/
/-- only these places changed -/
def fw (ps : List (Nat × Nat)) (H H1 : hp) : Prop := H1.2 = H.2 ∧ ∀ c j, (c, j) ∉ ps → H1.1 c j = H.1 c j
theorem fw_rf (ps : List (Nat × Nat)) (H : hp) : fw ps H H := ⟨rfl, fun _ _ _ => rfl⟩
theorem fw_w {ps : List (Nat × Nat)} {H H1 H2 : hp} {a k : Nat} (h : fw ps H H1) (hw : wr a k H1 H2) (hm : (a, k) ∈ ps) : fw ps H H2 := ⟨hw.1.trans h.1, fun c j hc => (hw.2 c j (fun q => hc (by rw [q.1, q.2]; exact hm))).trans (h.2 c j hc)⟩
theorem fw_t {ps qs : List (Nat × Nat)} {H H1 H2 : hp} (h : fw ps H H1) (hw : fw qs H1 H2) (hm : ∀ q ∈ qs, q ∈ ps) : fw ps H H2 := ⟨hw.1.trans h.1, fun c j hc => (hw.2 c j (fun q => hc (hm _ q))).trans (h.2 c j hc)⟩
/-- places of equations' sides, and of laws' names -/
def sc (c j : Nat) : Prop := (25 ≤ c ∧ c < 361 ∧ (c - 25) % 6 ≤ 5 ∧ ((c - 25) % 6 = 0 → j = 4 ∨ j = 5 ∨ j = 3)) ∨ c = 368 ∨ c = 369
theorem sc_lt {c j : Nat} (h : sc c j) : c < 361 ∨ c = 368 ∨ c = 369 := h.imp (fun q => q.2.1) id
theorem sc_ge {c j : Nat} (h : sc c j) : 25 ≤ c := by
  rcases h with h | h
  · exact h.1
  · omega
theorem sc_ud {c j : Nat} (h : c = 368 ∨ c = 369) : sc c j := Or.inr h
theorem sc_lv {l : Nat} (hl : l < 16) : sc (265 + 6 * l) 3 := Or.inl ⟨by omega, by omega, by omega, fun _ => Or.inr (Or.inr rfl)⟩
theorem sc_ty {l v : Nat} (hl : l < 16) : sc (265 + 6 * l + 5) v := Or.inl ⟨by omega, by omega, by omega, fun q => absurd q (by omega)⟩
theorem sc_ow {k : Nat} (hk : k < 56) : sc (25 + 6 * k) 4 := Or.inl ⟨by omega, by omega, by omega, fun _ => Or.inl rfl⟩
theorem sc_no {c j : Nat} {P : Prop} (h : c < 25 ∨ (361 ≤ c ∧ c ≠ 368 ∧ c ≠ 369)) : sc c j → P := fun q => absurd h (by have h1 := sc_ge q; have h2 := sc_lt q; omega)
theorem sc_side {k c j : Nat} (hk : k < 56) (h : c = 25 + 6 * k + 1 ∨ c = 25 + 6 * k + 2 ∨ c = 25 + 6 * k + 3 ∨ c = 25 + 6 * k + 4) : sc c j := Or.inl ⟨by omega, by omega, by omega, fun q => absurd q (by omega)⟩
/-- of equations' sides none changes but those of e -/
def NE (e : Nat) (H H1 : hp) : Prop := ∀ c j, sc c j → ¬ (e ≤ c ∧ c < e + 6) → H1.1 c j = H.1 c j
theorem NE_rf (e : Nat) (H : hp) : NE e H H := fun _ _ _ _ => rfl
theorem NE_tr {e : Nat} {H H1 H2 : hp} (h : NE e H H1) (g : NE e H1 H2) : NE e H H2 := fun c j a b => (g c j a b).trans (h c j a b)
theorem NE_fwo {e : Nat} {ps : List (Nat × Nat)} {H H1 : hp} (f : fw ps H H1) (hp : ∀ p ∈ ps, p.1 < 25 ∨ (361 ≤ p.1 ∧ p.1 ≠ 368 ∧ p.1 ≠ 369)) : NE e H H1 := fun c j a b => f.2 c j (fun m => sc_no (hp _ m) a)
theorem NE_w {e a k : Nat} {H H1 : hp} (w : wr a k H H1) (h : sc a k → e ≤ a ∧ a < e + 6) : NE e H H1 := fun c j h1 h2 => w.2 c j (fun q => h2 (by rw [q.1, q.2] at h1; rw [q.1]; exact h h1))
theorem z_cmp_eq {x y : Int} (hx : -9223372036854775808 ≤ x ∧ x ≤ 9223372036854775807) (hy : -9223372036854775808 ≤ y ∧ y ≤ 9223372036854775807) : z_cmp x y = 0 ↔ x = y := by
  have ex : (Int64.ofInt x).toInt = x := Int64.toInt_ofInt_of_le (by omega) (by omega)
  have ey : (Int64.ofInt y).toInt = y := Int64.toInt_ofInt_of_le (by omega) (by omega)
  constructor
  · intro h
    have h1 : lg_cmp (Int64.ofInt x) (Int64.ofInt y) = 0 := Int32.toInt_inj.mp (h.trans rfl)
    by_cases e : Int64.ofInt x = Int64.ofInt y
    · rw [← ex, ← ey, e]
    · exfalso
      unfold lg_cmp at h1
      revert h1
      split
      · decide
      · first | decide | (split <;> first | decide | (rename_i q2; intro _; exact absurd q2 e))
  · intro h
    rw [h]
    show (lg_cmp (Int64.ofInt y) (Int64.ofInt y)).toInt = 0
    have h2 : lg_cmp (Int64.ofInt y) (Int64.ofInt y) = 0 := by
      unfold lg_cmp
      simp
    rw [h2]
    rfl
section KX
variable {d : Nat} {M : am_M} {pc : Nat} {l : zl} {st : List zv} {H : hp} {Q : Option zv → hp → Prop}
theorem k_putlx {i ci k a : Nat} {x : kx} {ds : List zsd} {tys : List FieldType} {z : Int} (hf : am_find pc M.2.2.2.2.2.1 = some (.putfield i, 3)) (hi : am_find i M.2.2.2.2.1.2.1 = some (ci, k)) (hx : kK a = some x) (ha : a < 1826) (h0 : a ≠ 0) (hs : x.1 = .inl (ci, ds)) (hk : ds[k]? = some (.inl .long)) (hty : at_ty[ci]? = some tys) (htk : tys.getD k .int = .long) (hI : Inv H) (hl : klim x k = kJ) (hr : -9223372036854775808 ≤ z ∧ z ≤ 9223372036854775807) (kk : ∀ H1, Inv H1 → wr a k H H1 → H1.1 a k = z → hG (zs zK) d M (pc + 3) l st H1 Q) : hG (zs zK) d M pc l (.inr (.inl z) :: .inr (.inr a) :: st) H Q := by
  have e : (zu H a (up (H.1 a) k z)).1 a k = z := by rw [zu_eq, up_eq]
  exact h_putl hf hi (by rw [zs_K hx ha, hs]) hk hty htk h0 hr (kk _ (Inv_w hI hx (wr_zu H a k z) e (by rw [hl]; exact hr)) (wr_zu H a k z) e)
theorem k_lstx {c n j : Nat} {x : kx} {i z : Int} (hf : am_find pc M.2.2.2.2.2.1 = some (.lastore, 1)) (hx : kK c = some x) (hc : c < 1826) (h0 : c ≠ 0) (hs : x.1 = .inr (.long, n)) (hn : n ≤ 2147483647) (hi : i = j) (hj : j < n) (hI : Inv H) (hl : klim x j = kJ) (hr : -9223372036854775808 ≤ z ∧ z ≤ 9223372036854775807) (kk : ∀ H1, Inv H1 → wr c j H H1 → H1.1 c j = z → hG (zs zK) d M (pc + 1) l st H1 Q) : hG (zs zK) d M pc l (.inr (.inl z) :: .inl i :: .inr (.inr c) :: st) H Q := by
  have e : (zu H c (up (H.1 c) j z)).1 c j = z := by rw [zu_eq, up_eq]
  exact h_lst hf (by rw [zs_K hx hc, hs]) h0 hn hi hj hr (kk _ (Inv_w hI hx (wr_zu H c j z) e (by rw [hl]; exact hr)) (wr_zu H c j z) e)
end KX
theorem wnd_go {b : Nat → Int} {n x : Int} (h0 : 0 ≤ x) (h : x < n) (hw : cW (b x.toNat)) : wnd b (n - (x + 1)).toNat (x + 1).toNat = wnd b (n - x).toNat x.toNat := by
  have e1 : (n - x).toNat = (n - (x + 1)).toNat + 1 := by omega
  have e2 : (x + 1).toNat = x.toNat + 1 := by omega
  rw [e1, e2]
  show _ = if cW (b x.toNat) then wnd b (n - (x + 1)).toNat (x.toNat + 1) else x.toNat
  rw [if_pos hw]
theorem wnd_no {b : Nat → Int} {n x : Int} (h : n ≤ x ∨ ¬ cW (b x.toNat)) : wnd b (n - x).toNat x.toNat = x.toNat := by
  by_cases e : n ≤ x
  · have e1 : (n - x).toNat = 0 := by omega
    rw [e1]
    rfl
  · obtain ⟨f, hf⟩ : ∃ f, (n - x).toNat = f + 1 := ⟨(n - x).toNat - 1, by omega⟩
    rw [hf]
    show (if cW (b x.toNat) then _ else _) = _
    rw [if_neg (h.resolve_left e)]
theorem nmz_go {b : Nat → Int} {a x y : Int} (h0 : 0 ≤ a) (h : a ≤ x) (hy : y = nmz b a.toNat (x - a).toNat) : z_lor (z_lshl y 8) (z_i2l (b x.toNat)) = nmz b a.toNat (x + 1 - a).toNat := by
  have e1 : (x + 1 - a).toNat = (x - a).toNat + 1 := by omega
  have e2 : a.toNat + (x - a).toNat = x.toNat := by omega
  rw [e1, hy]
  show _ = z_lor (z_lshl (nmz b a.toNat (x - a).toNat) 8) (z_i2l (b (a.toNat + (x - a).toNat)))
  rw [e2]

/-! Tape.isLetter -/
set_option maxRecDepth 100000 in
theorem q_Tape_isLetter {d : Nat} (hd : 1 ≤ d) {H : hp} {a : Int} (ha : -2147483648 ≤ a ∧ a ≤ 2147483647) : hG (zs zK) d mt_33 0 (zargs 0 [.inl a]) [] H (fun r9 H9 => ∃ z : Int, r9 = some (.inl z) ∧ ((0 ≤ z ∧ z ≤ 1)) ∧ (z = 1 ↔ ((97 ≤ a ∧ a ≤ 122) ∨ (65 ≤ a ∧ a ≤ 90))) ∧ H = H9) := by
  refine k_run 0 (pc' := 0) (l' := [(0, .inl a)]) (st' := []) rfl ?_
  refine k_run 2 (pc' := 3) (l' := [(0, .inl a)]) (st' := [.inl 97, .inl a]) rfl ?_
  refine h_ilt (off := 9) (t := 12) rfl rfl (by omega) (by decide) (fun c1 => ?_) (fun c1 => ?_)
  · refine k_run 0 (pc' := 12) (l' := [(0, .inl a)]) (st' := []) rfl ?_
    refine k_run 2 (pc' := 15) (l' := [(0, .inl a)]) (st' := [.inl 65, .inl a]) rfl ?_
    refine h_ilt (off := 13) (t := 28) rfl rfl (by omega) (by decide) (fun c2 => ?_) (fun c2 => ?_)
    · refine k_run 0 (pc' := 28) (l' := [(0, .inl a)]) (st' := []) rfl ?_
      refine k_run 1 (pc' := 29) (l' := [(0, .inl a)]) (st' := [.inl 0]) rfl ?_
      refine h_retz (x := 0) rfl rfl (by decide) ?_
      exact ⟨_, rfl, (by omega), (by omega), rfl⟩
    · refine k_run 0 (pc' := 18) (l' := [(0, .inl a)]) (st' := []) rfl ?_
      refine k_run 2 (pc' := 21) (l' := [(0, .inl a)]) (st' := [.inl 90, .inl a]) rfl ?_
      refine h_igt (off := 7) (t := 28) rfl rfl (by omega) (by decide) (fun c3 => ?_) (fun c3 => ?_)
      · refine k_run 0 (pc' := 28) (l' := [(0, .inl a)]) (st' := []) rfl ?_
        refine k_run 1 (pc' := 29) (l' := [(0, .inl a)]) (st' := [.inl 0]) rfl ?_
        refine h_retz (x := 0) rfl rfl (by decide) ?_
        exact ⟨_, rfl, (by omega), (by omega), rfl⟩
      · refine k_run 0 (pc' := 24) (l' := [(0, .inl a)]) (st' := []) rfl ?_
        refine k_run 2 (pc' := 29) (l' := [(0, .inl a)]) (st' := [.inl 1]) rfl ?_
        refine h_retz (x := 1) rfl rfl (by decide) ?_
        exact ⟨_, rfl, (by omega), (by omega), rfl⟩
  · refine k_run 0 (pc' := 6) (l' := [(0, .inl a)]) (st' := []) rfl ?_
    refine k_run 2 (pc' := 9) (l' := [(0, .inl a)]) (st' := [.inl 122, .inl a]) rfl ?_
    refine h_ile (off := 15) (t := 24) rfl rfl (by omega) (by decide) (fun c4 => ?_) (fun c4 => ?_)
    · refine k_run 0 (pc' := 24) (l' := [(0, .inl a)]) (st' := []) rfl ?_
      refine k_run 2 (pc' := 29) (l' := [(0, .inl a)]) (st' := [.inl 1]) rfl ?_
      refine h_retz (x := 1) rfl rfl (by decide) ?_
      exact ⟨_, rfl, (by omega), (by omega), rfl⟩
    · refine k_run 0 (pc' := 12) (l' := [(0, .inl a)]) (st' := []) rfl ?_
      refine k_run 2 (pc' := 15) (l' := [(0, .inl a)]) (st' := [.inl 65, .inl a]) rfl ?_
      refine h_ilt (off := 13) (t := 28) rfl rfl (by omega) (by decide) (fun c5 => ?_) (fun c5 => ?_)
      · refine k_run 0 (pc' := 28) (l' := [(0, .inl a)]) (st' := []) rfl ?_
        refine k_run 1 (pc' := 29) (l' := [(0, .inl a)]) (st' := [.inl 0]) rfl ?_
        refine h_retz (x := 0) rfl rfl (by decide) ?_
        exact ⟨_, rfl, (by omega), (by omega), rfl⟩
      · refine k_run 0 (pc' := 18) (l' := [(0, .inl a)]) (st' := []) rfl ?_
        refine k_run 2 (pc' := 21) (l' := [(0, .inl a)]) (st' := [.inl 90, .inl a]) rfl ?_
        refine h_igt (off := 7) (t := 28) rfl rfl (by omega) (by decide) (fun c6 => ?_) (fun c6 => ?_)
        · refine k_run 0 (pc' := 28) (l' := [(0, .inl a)]) (st' := []) rfl ?_
          refine k_run 1 (pc' := 29) (l' := [(0, .inl a)]) (st' := [.inl 0]) rfl ?_
          refine h_retz (x := 0) rfl rfl (by decide) ?_
          exact ⟨_, rfl, (by omega), (by omega), rfl⟩
        · refine k_run 0 (pc' := 24) (l' := [(0, .inl a)]) (st' := []) rfl ?_
          refine k_run 2 (pc' := 29) (l' := [(0, .inl a)]) (st' := [.inl 1]) rfl ?_
          refine h_retz (x := 1) rfl rfl (by decide) ?_
          exact ⟨_, rfl, (by omega), (by omega), rfl⟩

/-! Tape.tokenOfSign -/
set_option maxRecDepth 100000 in
theorem q_Tape_tokenOfSign {d : Nat} (hd : 1 ≤ d) {H : hp} {a : Int} (ha : -2147483648 ≤ a ∧ a ≤ 2147483647) : hG (zs zK) d mt_32 0 (zargs 0 [.inl a]) [] H (fun r9 H9 => ∃ z : Int, r9 = some (.inl z) ∧ ((-2147483648 ≤ z ∧ z ≤ 2147483647)) ∧ (((a = 61 ∨ a = 124 ∨ a = 58 ∨ a = 59 ∨ a = 62 ∨ a = 40 ∨ a = 41 ∨ a = 95) ∧ z = a) ∨ (¬ (a = 61 ∨ a = 124 ∨ a = 58 ∨ a = 59 ∨ a = 62 ∨ a = 40 ∨ a = 41 ∨ a = 95) ∧ z = 1)) ∧ H = H9) := by
  refine k_run 0 (pc' := 0) (l' := [(0, .inl a)]) (st' := []) rfl ?_
  refine k_run 1 (pc' := 1) (l' := [(0, .inl a)]) (st' := [.inl a]) rfl ?_
  rcases (show (a ≠ 40 ∧ a ≠ 41 ∧ a ≠ 58 ∧ a ≠ 59 ∧ a ≠ 61 ∧ a ≠ 62 ∧ a ≠ 95 ∧ a ≠ 124) ∨ a = 40 ∨ a = 41 ∨ a = 58 ∨ a = 59 ∨ a = 61 ∨ a = 62 ∨ a = 95 ∨ a = 124 by omega) with c1 | c1 | c1 | c1 | c1 | c1 | c1 | c1 | c1
  · refine k_lsw (t := 78) rfl (by omega) (by decide) (lsw_no (by intro q9 hq9; simp only [List.mem_cons, List.not_mem_nil, or_false] at hq9; rcases hq9 with rfl | rfl | rfl | rfl | rfl | rfl | rfl | rfl <;> (dsimp only; omega))) rfl ?_
    refine k_run 1 (pc' := 79) (l' := [(0, .inl a)]) (st' := [.inl 1]) rfl ?_
    refine h_reti (x := 1) rfl rfl ?_
    exact ⟨_, rfl, (by omega), (by omega), rfl⟩
  · refine k_lsw (t := 76) rfl (by omega) (by decide) (by rw [c1]) rfl ?_
    refine k_run 1 (pc' := 77) (l' := [(0, .inl a)]) (st' := [.inl a]) rfl ?_
    refine h_reti (x := a) rfl rfl ?_
    exact ⟨_, rfl, (by omega), (by omega), rfl⟩
  · refine k_lsw (t := 76) rfl (by omega) (by decide) (by rw [c1]) rfl ?_
    refine k_run 1 (pc' := 77) (l' := [(0, .inl a)]) (st' := [.inl a]) rfl ?_
    refine h_reti (x := a) rfl rfl ?_
    exact ⟨_, rfl, (by omega), (by omega), rfl⟩
  · refine k_lsw (t := 76) rfl (by omega) (by decide) (by rw [c1]) rfl ?_
    refine k_run 1 (pc' := 77) (l' := [(0, .inl a)]) (st' := [.inl a]) rfl ?_
    refine h_reti (x := a) rfl rfl ?_
    exact ⟨_, rfl, (by omega), (by omega), rfl⟩
  · refine k_lsw (t := 76) rfl (by omega) (by decide) (by rw [c1]) rfl ?_
    refine k_run 1 (pc' := 77) (l' := [(0, .inl a)]) (st' := [.inl a]) rfl ?_
    refine h_reti (x := a) rfl rfl ?_
    exact ⟨_, rfl, (by omega), (by omega), rfl⟩
  · refine k_lsw (t := 76) rfl (by omega) (by decide) (by rw [c1]) rfl ?_
    refine k_run 1 (pc' := 77) (l' := [(0, .inl a)]) (st' := [.inl a]) rfl ?_
    refine h_reti (x := a) rfl rfl ?_
    exact ⟨_, rfl, (by omega), (by omega), rfl⟩
  · refine k_lsw (t := 76) rfl (by omega) (by decide) (by rw [c1]) rfl ?_
    refine k_run 1 (pc' := 77) (l' := [(0, .inl a)]) (st' := [.inl a]) rfl ?_
    refine h_reti (x := a) rfl rfl ?_
    exact ⟨_, rfl, (by omega), (by omega), rfl⟩
  · refine k_lsw (t := 76) rfl (by omega) (by decide) (by rw [c1]) rfl ?_
    refine k_run 1 (pc' := 77) (l' := [(0, .inl a)]) (st' := [.inl a]) rfl ?_
    refine h_reti (x := a) rfl rfl ?_
    exact ⟨_, rfl, (by omega), (by omega), rfl⟩
  · refine k_lsw (t := 76) rfl (by omega) (by decide) (by rw [c1]) rfl ?_
    refine k_run 1 (pc' := 77) (l' := [(0, .inl a)]) (st' := [.inl a]) rfl ?_
    refine h_reti (x := a) rfl rfl ?_
    exact ⟨_, rfl, (by omega), (by omega), rfl⟩

/-! Tape.tokenOfName -/
set_option maxRecDepth 100000 in
theorem q_Tape_tokenOfName {d : Nat} (hd : 1 ≤ d) {H : hp} {a : Int} {b : Int} {c : Int} (ha : -2147483648 ≤ a ∧ a ≤ 2147483647) (hb : -2147483648 ≤ b ∧ b ≤ 2147483647) (hp0 : -9223372036854775808 ≤ c ∧ c ≤ 9223372036854775807) : hG (zs zK) d mt_31 0 (zargs 0 [.inl a, .inl b, .inr (.inl c)]) [] H (fun r9 H9 => ∃ z : Int, r9 = some (.inl z) ∧ ((-2147483648 ≤ z ∧ z ≤ 2147483647)) ∧ (z = (if 6 < b then 1 else if a ≤ 90 then 3 else kwd c)) ∧ H = H9) := by
  refine k_run 0 (pc' := 0) (l' := [(0, .inl a), (1, .inl b), (2, .inr (.inl c))]) (st' := []) rfl ?_
  refine k_run 2 (pc' := 3) (l' := [(0, .inl a), (1, .inl b), (2, .inr (.inl c))]) (st' := [.inl 6, .inl b]) rfl ?_
  refine h_ile (off := 5) (t := 8) rfl rfl (by omega) (by decide) (fun c1 => ?_) (fun c1 => ?_)
  · refine k_run 0 (pc' := 8) (l' := [(0, .inl a), (1, .inl b), (2, .inr (.inl c))]) (st' := []) rfl ?_
    refine k_run 2 (pc' := 11) (l' := [(0, .inl a), (1, .inl b), (2, .inr (.inl c))]) (st' := [.inl 90, .inl a]) rfl ?_
    refine h_igt (off := 5) (t := 16) rfl rfl (by omega) (by decide) (fun c2 => ?_) (fun c2 => ?_)
    · refine k_run 0 (pc' := 16) (l' := [(0, .inl a), (1, .inl b), (2, .inr (.inl c))]) (st' := []) rfl ?_
      refine k_run 1 (pc' := 17) (l' := [(0, .inl a), (1, .inl b), (2, .inr (.inl c))]) (st' := [.inr (.inl c)]) rfl ?_
      refine h_ldc2 (i := 55) (z := 1684108385) rfl rfl rfl ?_
      refine k_run 0 (pc' := 20) (l' := [(0, .inl a), (1, .inl b), (2, .inr (.inl c))]) (st' := [.inr (.inl 1684108385), .inr (.inl c)]) rfl ?_
      refine k_run 1 (pc' := 21) (l' := [(0, .inl a), (1, .inl b), (2, .inr (.inl c))]) (st' := [.inl (z_cmp c 1684108385)]) rfl ?_
      refine h_zne (off := 5) (t := 26) rfl rfl (z_int _) (fun c3 => ?_) (fun c3 => ?_)
      · replace c3 : c ≠ (1684108385 : Int) := fun q9 => c3 ((z_cmp_eq (by omega) (by decide)).mpr q9)
        refine k_run 0 (pc' := 26) (l' := [(0, .inl a), (1, .inl b), (2, .inr (.inl c))]) (st' := []) rfl ?_
        refine k_run 1 (pc' := 27) (l' := [(0, .inl a), (1, .inl b), (2, .inr (.inl c))]) (st' := [.inr (.inl c)]) rfl ?_
        refine h_ldc2 (i := 57) (z := 6714734) rfl rfl rfl ?_
        refine k_run 0 (pc' := 30) (l' := [(0, .inl a), (1, .inl b), (2, .inr (.inl c))]) (st' := [.inr (.inl 6714734), .inr (.inl c)]) rfl ?_
        refine k_run 1 (pc' := 31) (l' := [(0, .inl a), (1, .inl b), (2, .inr (.inl c))]) (st' := [.inl (z_cmp c 6714734)]) rfl ?_
        refine h_zne (off := 5) (t := 36) rfl rfl (z_int _) (fun c4 => ?_) (fun c4 => ?_)
        · replace c4 : c ≠ (6714734 : Int) := fun q9 => c4 ((z_cmp_eq (by omega) (by decide)).mpr q9)
          refine k_run 0 (pc' := 36) (l' := [(0, .inl a), (1, .inl b), (2, .inr (.inl c))]) (st' := []) rfl ?_
          refine k_run 1 (pc' := 37) (l' := [(0, .inl a), (1, .inl b), (2, .inr (.inl c))]) (st' := [.inr (.inl c)]) rfl ?_
          refine h_ldc2 (i := 59) (z := 1920298085) rfl rfl rfl ?_
          refine k_run 0 (pc' := 40) (l' := [(0, .inl a), (1, .inl b), (2, .inr (.inl c))]) (st' := [.inr (.inl 1920298085), .inr (.inl c)]) rfl ?_
          refine k_run 1 (pc' := 41) (l' := [(0, .inl a), (1, .inl b), (2, .inr (.inl c))]) (st' := [.inl (z_cmp c 1920298085)]) rfl ?_
          refine h_zne (off := 6) (t := 47) rfl rfl (z_int _) (fun c5 => ?_) (fun c5 => ?_)
          · replace c5 : c ≠ (1920298085 : Int) := fun q9 => c5 ((z_cmp_eq (by omega) (by decide)).mpr q9)
            refine k_run 0 (pc' := 47) (l' := [(0, .inl a), (1, .inl b), (2, .inr (.inl c))]) (st' := []) rfl ?_
            refine k_run 1 (pc' := 48) (l' := [(0, .inl a), (1, .inl b), (2, .inr (.inl c))]) (st' := [.inr (.inl c)]) rfl ?_
            refine h_ldc2 (i := 61) (z := 7102839) rfl rfl rfl ?_
            refine k_run 0 (pc' := 51) (l' := [(0, .inl a), (1, .inl b), (2, .inr (.inl c))]) (st' := [.inr (.inl 7102839), .inr (.inl c)]) rfl ?_
            refine k_run 1 (pc' := 52) (l' := [(0, .inl a), (1, .inl b), (2, .inr (.inl c))]) (st' := [.inl (z_cmp c 7102839)]) rfl ?_
            refine h_zne (off := 8) (t := 60) rfl rfl (z_int _) (fun c6 => ?_) (fun c6 => ?_)
            · replace c6 : c ≠ (7102839 : Int) := fun q9 => c6 ((z_cmp_eq (by omega) (by decide)).mpr q9)
              refine k_run 0 (pc' := 60) (l' := [(0, .inl a), (1, .inl b), (2, .inr (.inl c))]) (st' := []) rfl ?_
              refine k_run 1 (pc' := 61) (l' := [(0, .inl a), (1, .inl b), (2, .inr (.inl c))]) (st' := [.inl 2]) rfl ?_
              refine h_reti (x := 2) rfl rfl ?_
              exact ⟨_, rfl, (by omega), (by unfold kwd; first | (rw [if_pos (by omega)]; done) | (rw [if_neg (by omega), if_pos (by omega)]; done) | (rw [if_neg (by omega), if_neg (by omega), if_pos (by omega)]; done) | (rw [if_neg (by omega), if_neg (by omega), if_neg (by omega), if_pos (by omega)]; done) | (rw [if_neg (by omega), if_neg (by omega), if_neg (by omega), if_neg (by omega), if_pos (by omega)]; done) | (rw [if_neg (by omega), if_neg (by omega), if_neg (by omega), if_neg (by omega), if_neg (by omega), if_pos (by omega)]; done) | (rw [if_neg (by omega), if_neg (by omega), if_neg (by omega), if_neg (by omega), if_neg (by omega), if_neg (by omega)]; done)), rfl⟩
            · replace c6 : c = (7102839 : Int) := (z_cmp_eq (by omega) (by decide)).mp c6
              refine k_run 0 (pc' := 55) (l' := [(0, .inl a), (1, .inl b), (2, .inr (.inl c))]) (st' := []) rfl ?_
              refine k_run 2 (pc' := 61) (l' := [(0, .inl a), (1, .inl b), (2, .inr (.inl c))]) (st' := [.inl 7]) rfl ?_
              refine h_reti (x := 7) rfl rfl ?_
              exact ⟨_, rfl, (by omega), (by unfold kwd; first | (rw [if_pos (by omega)]; done) | (rw [if_neg (by omega), if_pos (by omega)]; done) | (rw [if_neg (by omega), if_neg (by omega), if_pos (by omega)]; done) | (rw [if_neg (by omega), if_neg (by omega), if_neg (by omega), if_pos (by omega)]; done) | (rw [if_neg (by omega), if_neg (by omega), if_neg (by omega), if_neg (by omega), if_pos (by omega)]; done) | (rw [if_neg (by omega), if_neg (by omega), if_neg (by omega), if_neg (by omega), if_neg (by omega), if_pos (by omega)]; done) | (rw [if_neg (by omega), if_neg (by omega), if_neg (by omega), if_neg (by omega), if_neg (by omega), if_neg (by omega)]; done)), rfl⟩
          · replace c5 : c = (1920298085 : Int) := (z_cmp_eq (by omega) (by decide)).mp c5
            refine k_run 0 (pc' := 44) (l' := [(0, .inl a), (1, .inl b), (2, .inr (.inl c))]) (st' := []) rfl ?_
            refine k_run 1 (pc' := 46) (l' := [(0, .inl a), (1, .inl b), (2, .inr (.inl c))]) (st' := [.inl 6]) rfl ?_
            refine h_reti (x := 6) rfl rfl ?_
            exact ⟨_, rfl, (by omega), (by unfold kwd; first | (rw [if_pos (by omega)]; done) | (rw [if_neg (by omega), if_pos (by omega)]; done) | (rw [if_neg (by omega), if_neg (by omega), if_pos (by omega)]; done) | (rw [if_neg (by omega), if_neg (by omega), if_neg (by omega), if_pos (by omega)]; done) | (rw [if_neg (by omega), if_neg (by omega), if_neg (by omega), if_neg (by omega), if_pos (by omega)]; done) | (rw [if_neg (by omega), if_neg (by omega), if_neg (by omega), if_neg (by omega), if_neg (by omega), if_pos (by omega)]; done) | (rw [if_neg (by omega), if_neg (by omega), if_neg (by omega), if_neg (by omega), if_neg (by omega), if_neg (by omega)]; done)), rfl⟩
        · replace c4 : c = (6714734 : Int) := (z_cmp_eq (by omega) (by decide)).mp c4
          refine k_run 0 (pc' := 34) (l' := [(0, .inl a), (1, .inl b), (2, .inr (.inl c))]) (st' := []) rfl ?_
          refine k_run 1 (pc' := 35) (l' := [(0, .inl a), (1, .inl b), (2, .inr (.inl c))]) (st' := [.inl 5]) rfl ?_
          refine h_reti (x := 5) rfl rfl ?_
          exact ⟨_, rfl, (by omega), (by unfold kwd; first | (rw [if_pos (by omega)]; done) | (rw [if_neg (by omega), if_pos (by omega)]; done) | (rw [if_neg (by omega), if_neg (by omega), if_pos (by omega)]; done) | (rw [if_neg (by omega), if_neg (by omega), if_neg (by omega), if_pos (by omega)]; done) | (rw [if_neg (by omega), if_neg (by omega), if_neg (by omega), if_neg (by omega), if_pos (by omega)]; done) | (rw [if_neg (by omega), if_neg (by omega), if_neg (by omega), if_neg (by omega), if_neg (by omega), if_pos (by omega)]; done) | (rw [if_neg (by omega), if_neg (by omega), if_neg (by omega), if_neg (by omega), if_neg (by omega), if_neg (by omega)]; done)), rfl⟩
      · replace c3 : c = (1684108385 : Int) := (z_cmp_eq (by omega) (by decide)).mp c3
        refine k_run 0 (pc' := 24) (l' := [(0, .inl a), (1, .inl b), (2, .inr (.inl c))]) (st' := []) rfl ?_
        refine k_run 1 (pc' := 25) (l' := [(0, .inl a), (1, .inl b), (2, .inr (.inl c))]) (st' := [.inl 4]) rfl ?_
        refine h_reti (x := 4) rfl rfl ?_
        exact ⟨_, rfl, (by omega), (by unfold kwd; first | (rw [if_pos (by omega)]; done) | (rw [if_neg (by omega), if_pos (by omega)]; done) | (rw [if_neg (by omega), if_neg (by omega), if_pos (by omega)]; done) | (rw [if_neg (by omega), if_neg (by omega), if_neg (by omega), if_pos (by omega)]; done) | (rw [if_neg (by omega), if_neg (by omega), if_neg (by omega), if_neg (by omega), if_pos (by omega)]; done) | (rw [if_neg (by omega), if_neg (by omega), if_neg (by omega), if_neg (by omega), if_neg (by omega), if_pos (by omega)]; done) | (rw [if_neg (by omega), if_neg (by omega), if_neg (by omega), if_neg (by omega), if_neg (by omega), if_neg (by omega)]; done)), rfl⟩
    · refine k_run 0 (pc' := 14) (l' := [(0, .inl a), (1, .inl b), (2, .inr (.inl c))]) (st' := []) rfl ?_
      refine k_run 1 (pc' := 15) (l' := [(0, .inl a), (1, .inl b), (2, .inr (.inl c))]) (st' := [.inl 3]) rfl ?_
      refine h_reti (x := 3) rfl rfl ?_
      exact ⟨_, rfl, (by omega), (by unfold kwd; first | (rw [if_pos (by omega)]; done) | (rw [if_neg (by omega), if_pos (by omega)]; done) | (rw [if_neg (by omega), if_neg (by omega), if_pos (by omega)]; done) | (rw [if_neg (by omega), if_neg (by omega), if_neg (by omega), if_pos (by omega)]; done) | (rw [if_neg (by omega), if_neg (by omega), if_neg (by omega), if_neg (by omega), if_pos (by omega)]; done) | (rw [if_neg (by omega), if_neg (by omega), if_neg (by omega), if_neg (by omega), if_neg (by omega), if_pos (by omega)]; done) | (rw [if_neg (by omega), if_neg (by omega), if_neg (by omega), if_neg (by omega), if_neg (by omega), if_neg (by omega)]; done)), rfl⟩
  · refine k_run 0 (pc' := 6) (l' := [(0, .inl a), (1, .inl b), (2, .inr (.inl c))]) (st' := []) rfl ?_
    refine k_run 1 (pc' := 7) (l' := [(0, .inl a), (1, .inl b), (2, .inr (.inl c))]) (st' := [.inl 1]) rfl ?_
    refine h_reti (x := 1) rfl rfl ?_
    exact ⟨_, rfl, (by omega), (by unfold kwd; first | (rw [if_pos (by omega)]; done) | (rw [if_neg (by omega), if_pos (by omega)]; done) | (rw [if_neg (by omega), if_neg (by omega), if_pos (by omega)]; done) | (rw [if_neg (by omega), if_neg (by omega), if_neg (by omega), if_pos (by omega)]; done) | (rw [if_neg (by omega), if_neg (by omega), if_neg (by omega), if_neg (by omega), if_pos (by omega)]; done) | (rw [if_neg (by omega), if_neg (by omega), if_neg (by omega), if_neg (by omega), if_neg (by omega), if_pos (by omega)]; done) | (rw [if_neg (by omega), if_neg (by omega), if_neg (by omega), if_neg (by omega), if_neg (by omega), if_neg (by omega)]; done)), rfl⟩

/-! Tape.nameOf -/
set_option maxRecDepth 100000 in
theorem q_Tape_nameOf_cut {d : Nat} (hd : 1 ≤ d) {H : hp} (hI : Inv H) {a : Int} {b : Int} (ha : -2147483648 ≤ a ∧ a ≤ 2147483647) (hb : -2147483648 ≤ b ∧ b ≤ 2147483647) (hp0 : 0 ≤ a ∧ a ≤ b) (hp1 : b ≤ 1000) : ∀ w : Nat, (∀ (x3 : Int) (x5 : Int) , (-9223372036854775808 ≤ x3 ∧ x3 ≤ 9223372036854775807) → (-2147483648 ≤ x5 ∧ x5 ≤ 2147483647) → (a ≤ x5 ∧ x5 ≤ b ∧ x5 ≤ a + 6) → (x3 = nmz (H.1 3) a.toNat (x5 - a).toNat) → (((2000 - x5).toNat) < w) → hG (zs zK) d mt_30 5 [(0, .inr (.inr 2)), (1, .inl a), (2, .inl b), (3, .inr (.inl x3)), (5, .inl x5)] [] H (fun r9 H9 => ∃ z : Int, r9 = some (.inr (.inl z)) ∧ (-9223372036854775808 ≤ z ∧ z ≤ 9223372036854775807) ∧ (z = nmz (H.1 3) a.toNat (min (b - a) 6).toNat) ∧ H = H9)) := by
  intro w
  induction w with
  | zero => exact fun _ _ _ _ _ _ h => absurd h (Nat.not_lt_zero _)
  | succ w ih =>
    intro x3 x5 hx3 hx5 hi0 hi1 hw
    refine k_run 2 (pc' := 8) (l' := [(0, .inr (.inr 2)), (1, .inl a), (2, .inl b), (3, .inr (.inl x3)), (5, .inl x5)]) (st' := [.inl b, .inl x5]) rfl ?_
    refine h_ige (off := 32) (t := 40) rfl rfl (by omega) (by omega) (fun c1 => ?_) (fun c1 => ?_)
    · refine k_run 0 (pc' := 40) (l' := [(0, .inr (.inr 2)), (1, .inl a), (2, .inl b), (3, .inr (.inl x3)), (5, .inl x5)]) (st' := []) rfl ?_
      refine k_run 1 (pc' := 41) (l' := [(0, .inr (.inr 2)), (1, .inl a), (2, .inl b), (3, .inr (.inl x3)), (5, .inl x5)]) (st' := [.inr (.inl x3)]) rfl ?_
      refine h_retl (x := x3) rfl rfl ?_
      exact ⟨_, rfl, (by omega), (by rw [hi1, show (x5 - a) = min (b - a) 6 by omega]), rfl⟩
    · refine k_run 0 (pc' := 11) (l' := [(0, .inr (.inr 2)), (1, .inl a), (2, .inl b), (3, .inr (.inl x3)), (5, .inl x5)]) (st' := []) rfl ?_
      refine k_run 4 (pc' := 17) (l' := [(0, .inr (.inr 2)), (1, .inl a), (2, .inl b), (3, .inr (.inl x3)), (5, .inl x5)]) (st' := [.inl (a + 6), .inl x5]) rfl ?_
      refine h_ige (off := 23) (t := 40) rfl rfl (by omega) (by omega) (fun c2 => ?_) (fun c2 => ?_)
      · refine k_run 0 (pc' := 40) (l' := [(0, .inr (.inr 2)), (1, .inl a), (2, .inl b), (3, .inr (.inl x3)), (5, .inl x5)]) (st' := []) rfl ?_
        refine k_run 1 (pc' := 41) (l' := [(0, .inr (.inr 2)), (1, .inl a), (2, .inl b), (3, .inr (.inl x3)), (5, .inl x5)]) (st' := [.inr (.inl x3)]) rfl ?_
        refine h_retl (x := x3) rfl rfl ?_
        exact ⟨_, rfl, (by omega), (by rw [hi1, show (x5 - a) = min (b - a) 6 by omega]), rfl⟩
      · refine k_run 0 (pc' := 20) (l' := [(0, .inr (.inr 2)), (1, .inl a), (2, .inl b), (3, .inr (.inl x3)), (5, .inl x5)]) (st' := []) rfl ?_
        refine k_run 6 (pc' := 30) (l' := [(0, .inr (.inr 2)), (1, .inl a), (2, .inl b), (3, .inr (.inl x3)), (5, .inl x5)]) (st' := [.inl x5, .inr (.inr 3), .inr (.inl (z_lshl x3 8))]) rfl ?_
        refine k_ild (c := 3) (j := (x5).toNat) (i := x5) (x := kx_3) rfl rfl (by decide) rfl (by decide) (by omega) (by omega) ?_
        have g3 : -2147483648 ≤ (H.1 3 (x5).toNat) ∧ (H.1 3 (x5).toNat) ≤ 2147483647 := kn (x := kx_3) hI rfl (x5).toNat
        refine k_run 0 (pc' := 31) (l' := [(0, .inr (.inr 2)), (1, .inl a), (2, .inl b), (3, .inr (.inl x3)), (5, .inl x5)]) (st' := [.inl (H.1 3 (x5).toNat), .inr (.inl (z_lshl x3 8))]) rfl ?_
        refine k_run 5 (pc' := 5) (l' := [(0, .inr (.inr 2)), (1, .inl a), (2, .inl b), (3, .inr (.inl (z_lor (z_lshl x3 8) (z_i2l (H.1 3 (x5).toNat))))), (5, .inl (x5 + 1))]) (st' := []) rfl ?_
        exact ih (z_lor (z_lshl x3 8) (z_i2l (H.1 3 (x5).toNat))) (x5 + 1) (z_long _) (by omega) (by omega) (nmz_go hp0.1 hi0.1 hi1) (by omega)
set_option maxRecDepth 100000 in
theorem q_Tape_nameOf {d : Nat} (hd : 1 ≤ d) {H : hp} (hI : Inv H) {a : Int} {b : Int} (ha : -2147483648 ≤ a ∧ a ≤ 2147483647) (hb : -2147483648 ≤ b ∧ b ≤ 2147483647) (hp0 : 0 ≤ a ∧ a ≤ b) (hp1 : b ≤ 1000) : hG (zs zK) d mt_30 0 (zargs 0 [.inr (.inr 2), .inl a, .inl b]) [] H (fun r9 H9 => ∃ z : Int, r9 = some (.inr (.inl z)) ∧ (-9223372036854775808 ≤ z ∧ z ≤ 9223372036854775807) ∧ (z = nmz (H.1 3) a.toNat (min (b - a) 6).toNat) ∧ H = H9) := by
  refine k_run 0 (pc' := 0) (l' := [(0, .inr (.inr 2)), (1, .inl a), (2, .inl b)]) (st' := []) rfl ?_
  refine k_run 4 (pc' := 5) (l' := [(0, .inr (.inr 2)), (1, .inl a), (2, .inl b), (3, .inr (.inl 0)), (5, .inl a)]) (st' := []) rfl ?_
  exact (q_Tape_nameOf_cut hd hI ha hb hp0 hp1 _) (0 : Int) a (by decide) (by omega) (by omega) (by rw [Int.sub_self]; rfl) (Nat.lt_succ_self _)

/-! Tape.behindName -/
set_option maxRecDepth 100000 in
theorem q_Tape_behindName_cut {d : Nat} (hd : 2 ≤ d) {H : hp} (hI : Inv H) {a : Int} (ha : -2147483648 ≤ a ∧ a ≤ 2147483647) (hp0 : 0 ≤ a ∧ a ≤ H.1 2 1) : ∀ w : Nat, (∀ (x2 : Int) , (-2147483648 ≤ x2 ∧ x2 ≤ 2147483647) → (a ≤ x2 ∧ x2 ≤ H.1 2 1) → (wnd (H.1 3) (H.1 2 1 - x2).toNat x2.toNat = wnd (H.1 3) (H.1 2 1 - a).toNat a.toNat) → (((2000 - x2).toNat) < w) → hG (zs zK) d mt_29 2 [(0, .inr (.inr 2)), (1, .inl a), (2, .inl x2)] [] H (fun r9 H9 => ∃ z : Int, r9 = some (.inl z) ∧ ((-2147483648 ≤ z ∧ z ≤ 2147483647) ∧ (a ≤ z ∧ z ≤ H.1 2 1)) ∧ (z = ((wnd (H.1 3) (H.1 2 1 - a).toNat a.toNat : Nat) : Int)) ∧ H = H9)) := by
  intro w
  induction w with
  | zero => exact fun _ _ _ _ h => absurd h (Nat.not_lt_zero _)
  | succ w ih =>
    intro x2 hx2 hi0 hi1 hw
    have g2 : 0 ≤ (H.1 2 1) ∧ (H.1 2 1) ≤ 1000 := kn (x := kx_2) hI rfl 1
    refine k_run 3 (pc' := 7) (l' := [(0, .inr (.inr 2)), (1, .inl a), (2, .inl x2)]) (st' := [.inl (H.1 2 1), .inl x2]) rfl ?_
    refine h_ige (off := 43) (t := 50) rfl rfl (by omega) (by omega) (fun c3 => ?_) (fun c3 => ?_)
    · refine k_run 0 (pc' := 50) (l' := [(0, .inr (.inr 2)), (1, .inl a), (2, .inl x2)]) (st' := []) rfl ?_
      refine k_run 1 (pc' := 51) (l' := [(0, .inr (.inr 2)), (1, .inl a), (2, .inl x2)]) (st' := [.inl x2]) rfl ?_
      refine h_reti (x := x2) rfl rfl ?_
      exact ⟨_, rfl, (by omega), (by rw [← hi1, wnd_no (by first | exact Or.inl (by omega) | exact Or.inr (by unfold cW cL; omega))]; omega), rfl⟩
    · refine k_run 0 (pc' := 10) (l' := [(0, .inr (.inr 2)), (1, .inl a), (2, .inl x2)]) (st' := []) rfl ?_
      refine k_run 3 (pc' := 15) (l' := [(0, .inr (.inr 2)), (1, .inl a), (2, .inl x2)]) (st' := [.inl x2, .inr (.inr 3)]) rfl ?_
      refine k_ild (c := 3) (j := (x2).toNat) (i := x2) (x := kx_3) rfl rfl (by decide) rfl (by decide) (by omega) (by omega) ?_
      have g4 : -2147483648 ≤ (H.1 3 (x2).toNat) ∧ (H.1 3 (x2).toNat) ≤ 2147483647 := kn (x := kx_3) hI rfl (x2).toNat
      refine k_run 0 (pc' := 16) (l' := [(0, .inr (.inr 2)), (1, .inl a), (2, .inl x2)]) (st' := [.inl (H.1 3 (x2).toNat)]) rfl ?_
      refine h_cs (i := 32) (j := 33) (M' := mt_33) (xs := [.inl (H.1 3 (x2).toNat)]) (rest := []) rfl rfl rfl rfl rfl (Nat.le_of_ble_eq_true rfl) (Nat.le_of_ble_eq_true rfl) (by omega) (q_Tape_isLetter (by omega)  (by omega)) ?_
      rintro _ _ ⟨z11, rfl, g5, hx10, rfl⟩
      refine k_run 0 (pc' := 19) (l' := [(0, .inr (.inr 2)), (1, .inl a), (2, .inl x2)]) (st' := [.inl z11]) rfl ?_
      refine h_zne (off := 25) (t := 44) rfl rfl (by omega) (fun c12 => ?_) (fun c12 => ?_)
      · refine k_run 0 (pc' := 44) (l' := [(0, .inr (.inr 2)), (1, .inl a), (2, .inl x2)]) (st' := []) rfl ?_
        refine k_run 2 (pc' := 2) (l' := [(0, .inr (.inr 2)), (1, .inl a), (2, .inl (x2 + 1))]) (st' := []) rfl ?_
        exact ih (x2 + 1) (by omega) (by omega) ((wnd_go (by omega) (by omega) (show cW (H.1 3 x2.toNat) by unfold cW cL; omega)).trans hi1) (by omega)
      · refine k_run 0 (pc' := 22) (l' := [(0, .inr (.inr 2)), (1, .inl a), (2, .inl x2)]) (st' := []) rfl ?_
        refine k_run 3 (pc' := 27) (l' := [(0, .inr (.inr 2)), (1, .inl a), (2, .inl x2)]) (st' := [.inl x2, .inr (.inr 3)]) rfl ?_
        refine k_ild (c := 3) (j := (x2).toNat) (i := x2) (x := kx_3) rfl rfl (by decide) rfl (by decide) (by omega) (by omega) ?_
        refine k_run 0 (pc' := 28) (l' := [(0, .inr (.inr 2)), (1, .inl a), (2, .inl x2)]) (st' := [.inl (H.1 3 (x2).toNat)]) rfl ?_
        refine k_run 1 (pc' := 30) (l' := [(0, .inr (.inr 2)), (1, .inl a), (2, .inl x2)]) (st' := [.inl 48, .inl (H.1 3 (x2).toNat)]) rfl ?_
        refine h_ilt (off := 20) (t := 50) rfl rfl (by omega) (by decide) (fun c13 => ?_) (fun c13 => ?_)
        · refine k_run 0 (pc' := 50) (l' := [(0, .inr (.inr 2)), (1, .inl a), (2, .inl x2)]) (st' := []) rfl ?_
          refine k_run 1 (pc' := 51) (l' := [(0, .inr (.inr 2)), (1, .inl a), (2, .inl x2)]) (st' := [.inl x2]) rfl ?_
          refine h_reti (x := x2) rfl rfl ?_
          exact ⟨_, rfl, (by omega), (by rw [← hi1, wnd_no (by first | exact Or.inl (by omega) | exact Or.inr (by unfold cW cL; omega))]; omega), rfl⟩
        · refine k_run 0 (pc' := 33) (l' := [(0, .inr (.inr 2)), (1, .inl a), (2, .inl x2)]) (st' := []) rfl ?_
          refine k_run 3 (pc' := 38) (l' := [(0, .inr (.inr 2)), (1, .inl a), (2, .inl x2)]) (st' := [.inl x2, .inr (.inr 3)]) rfl ?_
          refine k_ild (c := 3) (j := (x2).toNat) (i := x2) (x := kx_3) rfl rfl (by decide) rfl (by decide) (by omega) (by omega) ?_
          refine k_run 0 (pc' := 39) (l' := [(0, .inr (.inr 2)), (1, .inl a), (2, .inl x2)]) (st' := [.inl (H.1 3 (x2).toNat)]) rfl ?_
          refine k_run 1 (pc' := 41) (l' := [(0, .inr (.inr 2)), (1, .inl a), (2, .inl x2)]) (st' := [.inl 57, .inl (H.1 3 (x2).toNat)]) rfl ?_
          refine h_igt (off := 9) (t := 50) rfl rfl (by omega) (by decide) (fun c14 => ?_) (fun c14 => ?_)
          · refine k_run 0 (pc' := 50) (l' := [(0, .inr (.inr 2)), (1, .inl a), (2, .inl x2)]) (st' := []) rfl ?_
            refine k_run 1 (pc' := 51) (l' := [(0, .inr (.inr 2)), (1, .inl a), (2, .inl x2)]) (st' := [.inl x2]) rfl ?_
            refine h_reti (x := x2) rfl rfl ?_
            exact ⟨_, rfl, (by omega), (by rw [← hi1, wnd_no (by first | exact Or.inl (by omega) | exact Or.inr (by unfold cW cL; omega))]; omega), rfl⟩
          · refine k_run 0 (pc' := 44) (l' := [(0, .inr (.inr 2)), (1, .inl a), (2, .inl x2)]) (st' := []) rfl ?_
            refine k_run 2 (pc' := 2) (l' := [(0, .inr (.inr 2)), (1, .inl a), (2, .inl (x2 + 1))]) (st' := []) rfl ?_
            exact ih (x2 + 1) (by omega) (by omega) ((wnd_go (by omega) (by omega) (show cW (H.1 3 x2.toNat) by unfold cW cL; omega)).trans hi1) (by omega)
set_option maxRecDepth 100000 in
theorem q_Tape_behindName {d : Nat} (hd : 2 ≤ d) {H : hp} (hI : Inv H) {a : Int} (ha : -2147483648 ≤ a ∧ a ≤ 2147483647) (hp0 : 0 ≤ a ∧ a ≤ H.1 2 1) : hG (zs zK) d mt_29 0 (zargs 0 [.inr (.inr 2), .inl a]) [] H (fun r9 H9 => ∃ z : Int, r9 = some (.inl z) ∧ ((-2147483648 ≤ z ∧ z ≤ 2147483647) ∧ (a ≤ z ∧ z ≤ H.1 2 1)) ∧ (z = ((wnd (H.1 3) (H.1 2 1 - a).toNat a.toNat : Nat) : Int)) ∧ H = H9) := by
  refine k_run 0 (pc' := 0) (l' := [(0, .inr (.inr 2)), (1, .inl a)]) (st' := []) rfl ?_
  refine k_run 2 (pc' := 2) (l' := [(0, .inr (.inr 2)), (1, .inl a), (2, .inl a)]) (st' := []) rfl ?_
  have g1 : 0 ≤ (H.1 2 1) ∧ (H.1 2 1) ≤ 1000 := kn (x := kx_2) hI rfl 1
  exact (q_Tape_behindName_cut hd hI ha hp0 _) a (by omega) (by omega) rfl (Nat.lt_succ_self _)

/-! Tape.addToken -/
set_option maxRecDepth 100000 in
theorem q_Tape_addToken {d : Nat} (hd : 1 ≤ d) {H : hp} (hI : Inv H) {a : Int} {b : Int} {c : Int} (ha : -2147483648 ≤ a ∧ a ≤ 2147483647) (hb : -2147483648 ≤ b ∧ b ≤ 2147483647) (hp0 : H.1 2 5 ≤ 1000) (hp1 : -9223372036854775808 ≤ c ∧ c ≤ 9223372036854775807) : hG (zs zK) d mt_28 0 (zargs 0 [.inr (.inr 2), .inl a, .inl b, .inr (.inl c)]) [] H (fun r9 H9 => r9 = none ∧ Inv H9 ∧ fq [(2, 5)] [4, 5, 6] false H H9 ∧ fw [(4, (H.1 2 5).toNat), (5, (H.1 2 5).toNat), (6, (H.1 2 5).toNat), (2, 5)] H H9 ∧ (H9.1 4 (H.1 2 5).toNat = a ∧ H9.1 5 (H.1 2 5).toNat = b ∧ H9.1 6 (H.1 2 5).toNat = c ∧ H9.1 2 5 = H.1 2 5 + 1)) := by
  refine k_run 0 (pc' := 0) (l' := [(0, .inr (.inr 2)), (1, .inl a), (2, .inl b), (3, .inr (.inl c))]) (st' := []) rfl ?_
  refine k_run 2 (pc' := 4) (l' := [(0, .inr (.inr 2)), (1, .inl a), (2, .inl b), (3, .inr (.inl c))]) (st' := [.inl (H.1 2 5)]) rfl ?_
  have g1 : 0 ≤ (H.1 2 5) ∧ (H.1 2 5) ≤ 1001 := kn (x := kx_2) hI rfl 5
  refine k_run 2 (pc' := 8) (l' := [(0, .inr (.inr 2)), (1, .inl a), (2, .inl b), (3, .inr (.inl c))]) (st' := [.inr (.inr 4), .inl (H.1 2 5)]) rfl ?_
  refine k_alen (c := 4) (x := kx_4) rfl rfl (by decide) rfl ?_
  refine k_run 0 (pc' := 9) (l' := [(0, .inr (.inr 2)), (1, .inl a), (2, .inl b), (3, .inr (.inl c))]) (st' := [.inl 1001, .inl (H.1 2 5)]) rfl ?_
  refine h_ige (off := 43) (t := 52) rfl rfl (by omega) (by decide) (fun c2 => ?_) (fun c2 => ?_)
  · refine k_run 0 (pc' := 52) (l' := [(0, .inr (.inr 2)), (1, .inl a), (2, .inl b), (3, .inr (.inl c))]) (st' := []) rfl ?_
    refine h_ret rfl rfl ?_
    exact ⟨rfl, hI, (fq_rf _ _ _ _), (fw_rf _ _), (by omega)⟩
  · refine k_run 0 (pc' := 12) (l' := [(0, .inr (.inr 2)), (1, .inl a), (2, .inl b), (3, .inr (.inl c))]) (st' := []) rfl ?_
    refine k_run 5 (pc' := 21) (l' := [(0, .inr (.inr 2)), (1, .inl a), (2, .inl b), (3, .inr (.inl c))]) (st' := [.inl a, .inl (H.1 2 5), .inr (.inr 4)]) rfl ?_
    refine k_ist (z := a) (c := 4) (j := ((H.1 2 5)).toNat) (i := (H.1 2 5)) (x := kx_4) rfl rfl (by decide) (by decide) rfl (by decide) (by omega) (by omega) hI (by omega) (show -2147483648 ≤ a ∧ a ≤ 2147483647 by omega) (fun H3 hI4 hw5 hv6 => ?_)
    have hf7 : fq [(2, 5)] [4, 5, 6] false H H3 := fq_w (fq_rf _ _ _ _) hw5 (fpa (by decide) rfl)
    have hp8 : fw [(4, (H.1 2 5).toNat), (5, (H.1 2 5).toNat), (6, (H.1 2 5).toNat), (2, 5)] H H3 := fw_w (fw_rf _ _) hw5 (by first | (simp; done) | (simp; omega))
    refine k_run 0 (pc' := 22) (l' := [(0, .inr (.inr 2)), (1, .inl a), (2, .inl b), (3, .inr (.inl c))]) (st' := []) rfl ?_
    refine k_run 4 (pc' := 30) (l' := [(0, .inr (.inr 2)), (1, .inl a), (2, .inl b), (3, .inr (.inl c))]) (st' := [.inl (H3.1 2 5), .inr (.inr 5)]) rfl ?_
    have g9 : 0 ≤ (H3.1 2 5) ∧ (H3.1 2 5) ≤ 1001 := kn (x := kx_2) hI4 rfl 5
    have e10 : (H3.1 2 5) = (H.1 2 5) := hw5.2 _ _ (fun q => absurd q.1 (by decide))
    refine k_run 1 (pc' := 31) (l' := [(0, .inr (.inr 2)), (1, .inl a), (2, .inl b), (3, .inr (.inl c))]) (st' := [.inl b, .inl (H3.1 2 5), .inr (.inr 5)]) rfl ?_
    refine k_ist (z := b) (c := 5) (j := ((H3.1 2 5)).toNat) (i := (H3.1 2 5)) (x := kx_5) rfl rfl (by decide) (by decide) rfl (by decide) (by omega) (by omega) hI4 (by omega) (show -2147483648 ≤ b ∧ b ≤ 2147483647 by omega) (fun H11 hI12 hw13 hv14 => ?_)
    have hf15 : fq [(2, 5)] [4, 5, 6] false H H11 := fq_w hf7 hw13 (fpa (by decide) rfl)
    have hp16 : fw [(4, (H.1 2 5).toNat), (5, (H.1 2 5).toNat), (6, (H.1 2 5).toNat), (2, 5)] H H11 := fw_w hp8 hw13 (by first | (simp; done) | (simp; omega))
    refine k_run 0 (pc' := 32) (l' := [(0, .inr (.inr 2)), (1, .inl a), (2, .inl b), (3, .inr (.inl c))]) (st' := []) rfl ?_
    refine k_run 4 (pc' := 40) (l' := [(0, .inr (.inr 2)), (1, .inl a), (2, .inl b), (3, .inr (.inl c))]) (st' := [.inl (H11.1 2 5), .inr (.inr 6)]) rfl ?_
    have g17 : 0 ≤ (H11.1 2 5) ∧ (H11.1 2 5) ≤ 1001 := kn (x := kx_2) hI12 rfl 5
    have e18 : (H11.1 2 5) = (H3.1 2 5) := hw13.2 _ _ (fun q => absurd q.1 (by decide))
    refine k_run 1 (pc' := 41) (l' := [(0, .inr (.inr 2)), (1, .inl a), (2, .inl b), (3, .inr (.inl c))]) (st' := [.inr (.inl c), .inl (H11.1 2 5), .inr (.inr 6)]) rfl ?_
    refine k_lstx (z := c) (c := 6) (j := ((H11.1 2 5)).toNat) (i := (H11.1 2 5)) (x := kx_6) rfl rfl (by decide) (by decide) rfl (by decide) (by omega) (by omega) hI12 rfl (by omega) (fun H19 hI20 hw21 hv22 => ?_)
    have hf23 : fq [(2, 5)] [4, 5, 6] false H H19 := fq_w hf15 hw21 (fpa (by decide) rfl)
    have hp24 : fw [(4, (H.1 2 5).toNat), (5, (H.1 2 5).toNat), (6, (H.1 2 5).toNat), (2, 5)] H H19 := fw_w hp16 hw21 (by first | (simp; done) | (simp; omega))
    refine k_run 0 (pc' := 42) (l' := [(0, .inr (.inr 2)), (1, .inl a), (2, .inl b), (3, .inr (.inl c))]) (st' := []) rfl ?_
    refine k_run 3 (pc' := 47) (l' := [(0, .inr (.inr 2)), (1, .inl a), (2, .inl b), (3, .inr (.inl c))]) (st' := [.inl (H19.1 2 5), .inr (.inr 2)]) rfl ?_
    have g25 : 0 ≤ (H19.1 2 5) ∧ (H19.1 2 5) ≤ 1001 := kn (x := kx_2) hI20 rfl 5
    have e26 : (H19.1 2 5) = (H11.1 2 5) := hw21.2 _ _ (fun q => absurd q.1 (by decide))
    refine k_run 2 (pc' := 49) (l' := [(0, .inr (.inr 2)), (1, .inl a), (2, .inl b), (3, .inr (.inl c))]) (st' := [.inl ((H19.1 2 5) + 1), .inr (.inr 2)]) rfl ?_
    refine k_puti (z := ((H19.1 2 5) + 1)) (a := 2) (x := kx_2) rfl rfl rfl (by decide) (by decide) rfl rfl rfl rfl hI20 (by omega) (show 0 ≤ ((H19.1 2 5) + 1) ∧ ((H19.1 2 5) + 1) ≤ 1001 by omega) (fun H27 hI28 hw29 hv30 => ?_)
    have hf31 : fq [(2, 5)] [4, 5, 6] false H H27 := fq_w hf23 hw29 (fpo (by decide) rfl)
    have hp32 : fw [(4, (H.1 2 5).toNat), (5, (H.1 2 5).toNat), (6, (H.1 2 5).toNat), (2, 5)] H H27 := fw_w hp24 hw29 (by first | (simp; done) | (simp; omega))
    refine k_run 0 (pc' := 52) (l' := [(0, .inr (.inr 2)), (1, .inl a), (2, .inl b), (3, .inr (.inl c))]) (st' := []) rfl ?_
    refine h_ret rfl rfl ?_
    have g33 : 0 ≤ (H27.1 2 5) ∧ (H27.1 2 5) ≤ 1001 := kn (x := kx_2) hI28 rfl 5
    exact ⟨rfl, hI28, hf31, hp32, ⟨((hw29.2 _ _ (fun q => absurd q.1 (by first | decide | omega))).trans ((hw21.2 _ _ (fun q => absurd q.1 (by first | decide | omega))).trans ((hw13.2 _ _ (fun q => absurd q.1 (by first | decide | omega))).trans hv6))), (by rw [show ((H.1 2 5).toNat : Nat) = ((H3.1 2 5)).toNat by omega]; exact ((hw29.2 _ _ (fun q => absurd q.1 (by first | decide | omega))).trans ((hw21.2 _ _ (fun q => absurd q.1 (by first | decide | omega))).trans hv14))), (by rw [show ((H.1 2 5).toNat : Nat) = ((H11.1 2 5)).toNat by omega]; exact ((hw29.2 _ _ (fun q => absurd q.1 (by first | decide | omega))).trans hv22)), (by have h9 := hv30; omega)⟩⟩
