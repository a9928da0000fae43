/-! the class prints: how many bytes -/
theorem cC_go {x s y : Int} {n : Nat} (hs : s = 40 - 8 * (n : Int)) (h : bC x s ≠ 0) (hy : y = cC x n + 1) : y = cC x (n + 1) := by
  unfold cC
  rw [← hs, if_neg h]
  exact hy
theorem cC_no {x s y : Int} {n : Nat} (hs : s = 40 - 8 * (n : Int)) (h : bC x s = 0) (hy : y = cC x n) : y = cC x (n + 1) := by
  unfold cC
  rw [← hs, if_pos h, Int.add_zero]
  exact hy
/-- how many bytes a code's name has -/
def lenC (H : hp) (c : Int) : Int := if z_shr c 10 = 1 then cC (if z_and (z_shr c 3) 127 < H.1 13 4 then H.1 14 (z_and (z_shr c 3) 127).toNat else 0) 6 else if z_shr c 10 = 2 then cC (if z_and (z_shr c 3) 127 < H.1 18 4 then H.1 19 (z_and (z_shr c 3) 127).toNat else 0) 6 else if z_shr c 10 = 3 then (if 10 ≤ z_and (z_shr c 3) 127 then 3 else 2) else 1
theorem lenC_b (H : hp) (c : Int) : 0 ≤ lenC H c ∧ lenC H c ≤ 6 := by
  have h : ∀ x, 0 ≤ cC x 6 ∧ cC x 6 ≤ 6 := fun x => cC_b x 6
  unfold lenC
  repeat' split
  all_goals first
    | exact h _
    | omega
def sm (M : Nat → Int) : Nat → Int
  | 0 => 0
  | n + 1 => sm M n + (M n - 1)
theorem sm_cg {M M' : Nat → Int} : ∀ {n : Nat}, (∀ k, k < n → M' k = M k) → sm M' n = sm M n
  | 0, _ => rfl
  | n + 1, h => by
    unfold sm
    rw [sm_cg (fun k hk => h k (by omega)), h n (by omega)]
theorem sm_0 {M : Nat → Int} : ∀ {n : Nat}, (∀ k, k < n → 1 ≤ M k) → 0 ≤ sm M n
  | 0, _ => Int.le_refl _
  | n + 1, h => by
    have h1 := sm_0 (M := M) (n := n) (fun k hk => h k (by omega))
    have h2 := h n (by omega)
    unfold sm
    omega
/-- bytes of the first signs, brackets and blanks with them -/
def bs (ar len : Int → Int) (a : Nat → Int) : Nat → Int
  | 0 => 0
  | i + 1 => bs ar len a i + ((if i = 0 then 0 else 1) + len (a i) + (if i ≠ 0 ∧ 0 < ar (a i) then 2 else 0))
/-- how many terms are wanted behind the first signs -/
def wn (ar : Int → Int) (a : Nat → Int) : Nat → Int
  | 0 => 1
  | i + 1 => wn ar a i + (ar (a i) - 1)
theorem bs_cg {ar len ar' len' : Int → Int} {a a' : Nat → Int} : ∀ {n : Nat}, (∀ k, k < n → ar' (a' k) = ar (a k) ∧ len' (a' k) = len (a k)) → bs ar' len' a' n = bs ar len a n
  | 0, _ => rfl
  | n + 1, h => by
    unfold bs
    rw [bs_cg (fun k hk => h k (by omega)), (h n (by omega)).1, (h n (by omega)).2]
theorem wn_cg {ar ar' : Int → Int} {a a' : Nat → Int} : ∀ {n : Nat}, (∀ k, k < n → ar' (a' k) = ar (a k)) → wn ar' a' n = wn ar a n
  | 0, _ => rfl
  | n + 1, h => by
    unfold wn
    rw [wn_cg (fun k hk => h k (by omega)), h n (by omega)]
theorem bs_b {ar len : Int → Int} {a : Nat → Int} (h : ∀ c, 0 ≤ len c ∧ len c ≤ 8) : ∀ n : Nat, 0 ≤ bs ar len a n ∧ bs ar len a n ≤ 11 * n
  | 0 => ⟨Int.le_refl _, Int.le_refl _⟩
  | n + 1 => by
    have h1 := bs_b (ar := ar) (a := a) h n
    have h2 := h (a n)
    unfold bs
    split <;> split <;> omega
def pd (d : Int) : Int := if 1 ≤ d then d - 1 else 0
theorem pd_or (d : Int) : (1 ≤ d ∧ pd d = d - 1) ∨ (d < 1 ∧ pd d = 0) := by
  unfold pd
  by_cases h : 1 ≤ d
  · exact Or.inl ⟨h, if_pos h⟩
  · exact Or.inr ⟨by omega, if_neg h⟩
/-- only these cells' numbers changed -/
def PF (l : List Nat) (H H1 : hp) : Prop := H1.2 = H.2 ∧ ∀ c j, c ∉ l → H1.1 c j = H.1 c j
theorem PF_rf (l : List Nat) (H : hp) : PF l H H := ⟨rfl, fun _ _ _ => rfl⟩
theorem PF_tr {l : List Nat} {H H1 H2 : hp} (h : PF l H H1) (g : PF l H1 H2) : PF l H H2 := ⟨g.1.trans h.1, fun c j hc => (g.2 c j hc).trans (h.2 c j hc)⟩
theorem PF_le {l m : List Nat} {H H1 : hp} (h : PF l H H1) (hm : ∀ c ∈ l, c ∈ m) : PF m H H1 := ⟨h.1, fun c j hc => h.2 c j (fun q => hc (hm c q))⟩
theorem PF_fw {l : List Nat} {ps : List (Nat × Nat)} {H H1 : hp} (f : fw ps H H1) (hp : ∀ p ∈ ps, p.1 ∈ l) : PF l H H1 := ⟨f.1, fun c j hc => f.2 c j (fun m => hc (hp _ m))⟩
theorem PF_w {l : List Nat} {a k : Nat} {H H1 : hp} (w : wr a k H H1) (h : a ∈ l) : PF l H H1 := ⟨w.1, fun c j hc => w.2 c j (fun q => hc (by rw [q.1]; exact h))⟩
theorem lenC_cg {l : List Nat} {H H1 : hp} (h : PF l H H1) (hl : ∀ c ∈ l, 363 ≤ c) (c : Int) : lenC H1 c = lenC H c := by
  have e : ∀ a j, a < 363 → H1.1 a j = H.1 a j := fun a j ha => h.2 a j (fun q => by have := hl a q; omega)
  unfold lenC
  rw [e 13 4 (by decide), e 18 4 (by decide), e 14 _ (by decide), e 19 _ (by decide)]
/-- closing: below x nothing has changed -/
def CA (H H1 : hp) (a x : Int) : Prop := (∀ k : Nat, (k : Int) < x → H1.1 365 k = H.1 365 k) ∧ sm (H.1 365) x.toNat = sm (H.1 365) a.toNat ∧ H1.1 363 3 + pd x = H.1 363 3 + pd a ∧ PF [363, 364, 365] H H1
def CP (H H9 : hp) (a z : Int) : Prop := (0 ≤ z ∧ z ≤ a) ∧ (∀ k : Nat, (k : Int) < z → 1 ≤ H9.1 365 k ∧ H9.1 365 k ≤ 7) ∧ ((1 ≤ z ∧ sm (H9.1 365) z.toNat + 1 = sm (H.1 365) a.toNat) ∨ (z = 0 ∧ sm (H.1 365) a.toNat = 0)) ∧ H9.1 363 3 + pd z = H.1 363 3 + pd a ∧ PF [363, 364, 365] H H9
theorem CA_0 {H : hp} {a : Int} : CA H H a a := ⟨fun _ _ => rfl, rfl, rfl, PF_rf _ _⟩
theorem sm_s {M : Nat → Int} {x : Int} (h : 1 ≤ x) : sm M x.toNat = sm M (x - 1).toNat + (M (x - 1).toNat - 1) := by
  have e : x.toNat = (x - 1).toNat + 1 := by omega
  rw [e]
  rfl
theorem CA_ret {H H1 H2 : hp} {a x : Int} (h : CA H H1 a x) (hx : 1 ≤ x ∧ x ≤ a) (hM : ∀ k : Nat, (k : Int) < a → 1 ≤ H.1 365 k ∧ H.1 365 k ≤ 7) (w : wr 365 (x - 1).toNat H1 H2) (v : H2.1 365 (x - 1).toNat = H1.1 365 (x - 1).toNat - 1) (hv : 0 < H2.1 365 (x - 1).toNat) : CP H H2 a x := by
  obtain ⟨h1, h2, h3, h4⟩ := h
  have e : ∀ k : Nat, (k : Int) < x → k ≠ (x - 1).toNat → H2.1 365 k = H.1 365 k := fun k hk hn => (w.2 365 k (fun q => hn q.2)).trans (h1 k hk)
  have e1 := h1 (x - 1).toNat (by omega)
  refine ⟨by omega, fun k hk => ?_, Or.inl ⟨hx.1, ?_⟩, ?_, PF_tr h4 (PF_w w (by simp))⟩
  · have m := hM k (by omega)
    by_cases q : k = (x - 1).toNat
    · rw [q] at m ⊢
      omega
    · rw [e k hk q]
      exact m
  · rw [← h2, sm_s hx.1, sm_s (M := H.1 365) hx.1, sm_cg (M := H.1 365) (fun k hk => e k (by omega) (by omega))]
    omega
  · rw [w.2 363 3 (fun q => by cases q.1)]
    exact h3
/-- one is closed -/
theorem CA_pop {H H1 H2 H3 : hp} {a x : Int} (h : CA H H1 a x) (hx : 1 ≤ x ∧ x ≤ a) (hM : ∀ k : Nat, (k : Int) < a → 1 ≤ H.1 365 k ∧ H.1 365 k ≤ 7) (w : wr 365 (x - 1).toNat H1 H2) (v : H2.1 365 (x - 1).toNat = H1.1 365 (x - 1).toNat - 1) (hv : H2.1 365 (x - 1).toNat ≤ 0) (f : PF [363, 364] H2 H3) (hl : (1 < x ∧ H3.1 363 3 = H2.1 363 3 + 1) ∨ (x = 1 ∧ H3.1 363 3 = H2.1 363 3)) : CA H H3 a (x - 1) := by
  obtain ⟨h1, h2, h3, h4⟩ := h
  have e1 := h1 (x - 1).toNat (by omega)
  have m := hM (x - 1).toNat (by omega)
  have e3 : H2.1 363 3 = H1.1 363 3 := w.2 363 3 (fun q => by cases q.1)
  refine ⟨fun k hk => ?_, ?_, ?_, PF_tr (PF_tr h4 (PF_w w (by simp))) (PF_le f (by simp))⟩
  · rw [f.2 365 k (by simp), w.2 365 k (fun q => by have := q.2; omega)]
    exact h1 k (by omega)
  · rw [← h2, sm_s hx.1]
    omega
  · have p1 := pd_or x
    have p2 := pd_or (x - 1)
    omega
theorem CA_end {H H1 : hp} {a : Int} (h : CA H H1 a 0) (ha : 0 ≤ a) : CP H H1 a 0 := by
  obtain ⟨h1, h2, h3, h4⟩ := h
  exact ⟨⟨Int.le_refl _, ha⟩, fun k hk => absurd hk (by omega), Or.inr ⟨rfl, h2.symm⟩, h3, h4⟩
/-- the arguments that a code wants -/
def aC (c : Int) : Int := z_and c 7
/-- a term is being printed: x4 deep, x5 signs -/
def PI9 (H H1 : hp) (t : Nat) (x4 x5 : Int) : Prop := PF [363, 364, 365] H H1 ∧ (∀ k : Nat, (k : Int) < x4 → 1 ≤ H1.1 365 k ∧ H1.1 365 k ≤ 7) ∧ H1.1 363 3 + pd x4 = bs aC (lenC H) (H.1 (t + 1)) x5.toNat ∧ ((x5 = 0 ∧ x4 = 0) ∨ (1 ≤ x5 ∧ ((1 ≤ x4 ∧ sm (H1.1 365) x4.toNat + 1 = wn aC (H.1 (t + 1)) x5.toNat) ∨ (x4 = 0 ∧ wn aC (H.1 (t + 1)) x5.toNat = 0))))
theorem PI_x {H H1 : hp} {t : Nat} {x4 x5 : Int} (h : PI9 H H1 t x4 x5) (hw : 1 ≤ wn aC (H.1 (t + 1)) x5.toNat) : (x5 = 0 ∧ x4 = 0) ∨ (1 ≤ x5 ∧ 1 ≤ x4 ∧ sm (H1.1 365) x4.toNat + 1 = wn aC (H.1 (t + 1)) x5.toNat) := by
  rcases h.2.2.2 with q | ⟨q, q1 | q1⟩
  · exact Or.inl q
  · exact Or.inr ⟨q, q1⟩
  · omega
theorem bs_s {ar len : Int → Int} {a : Nat → Int} {x : Int} (h : 0 ≤ x) : bs ar len a (x + 1).toNat = bs ar len a x.toNat + ((if x = 0 then 0 else 1) + len (a x.toNat) + (if x ≠ 0 ∧ 0 < ar (a x.toNat) then 2 else 0)) := by
  have e : (x + 1).toNat = x.toNat + 1 := by omega
  rw [e]
  show bs ar len a x.toNat + ((if x.toNat = 0 then 0 else 1) + len (a x.toNat) + (if x.toNat ≠ 0 ∧ 0 < ar (a x.toNat) then 2 else 0)) = _
  by_cases q : x = 0
  · rw [q]
    rfl
  · have q2 : x.toNat ≠ 0 := by omega
    rw [if_neg q, if_neg q2]
    by_cases q3 : 0 < ar (a x.toNat)
    · rw [if_pos ⟨q2, q3⟩, if_pos ⟨q, q3⟩]
    · rw [if_neg (fun z => q3 z.2), if_neg (fun z => q3 z.2)]
theorem wn_s {ar : Int → Int} {a : Nat → Int} {x : Int} (h : 0 ≤ x) : wn ar a (x + 1).toNat = wn ar a x.toNat + (ar (a x.toNat) - 1) := by
  have e : (x + 1).toNat = x.toNat + 1 := by omega
  rw [e]
  rfl
theorem PI_push {H H1 H2 H3 : hp} {t : Nat} {x4 x5 : Int} (h : PI9 H H1 t x4 x5) (hx : 0 ≤ x5 ∧ 0 ≤ x4) (hw : 1 ≤ wn aC (H.1 (t + 1)) x5.toNat) (ha : 0 < aC (H.1 (t + 1) x5.toNat) ∧ aC (H.1 (t + 1) x5.toNat) ≤ 7) (f : PF [363, 364] H1 H2) (hl : H2.1 363 3 = H1.1 363 3 + (if x5 = 0 then 0 else 2) + lenC H (H.1 (t + 1) x5.toNat)) (w : wr 365 x4.toNat H2 H3) (v : H3.1 365 x4.toNat = aC (H.1 (t + 1) x5.toNat)) : PI9 H H3 t (x4 + 1) (x5 + 1) := by
  have hq := PI_x h hw
  obtain ⟨h1, h2, h3, -⟩ := h
  have e : ∀ k : Nat, k ≠ x4.toNat → H3.1 365 k = H1.1 365 k := fun k hn => (w.2 365 k (fun q => hn q.2)).trans (f.2 365 k (by simp))
  have e3 : H3.1 363 3 = H2.1 363 3 := w.2 363 3 (fun q => by cases q.1)
  refine ⟨PF_tr (PF_tr h1 (PF_le f (by simp))) (PF_w w (by simp)), fun k hk => ?_, ?_, Or.inr ⟨by omega, Or.inl ⟨by omega, ?_⟩⟩⟩
  · by_cases q : k = x4.toNat
    · rw [q, v]
      omega
    · rw [e k q]
      exact h2 k (by omega)
  · have p1 := pd_or x4
    have p2 := pd_or (x4 + 1)
    rw [bs_s hx.1, e3, hl]
    rcases hq with ⟨q1, q2⟩ | ⟨q1, q2, -⟩
    · rw [if_pos q1, if_pos q1, if_neg (fun z => z.1 q1)]
      omega
    · rw [if_neg (by omega), if_neg (by omega), if_pos ⟨by omega, ha.1⟩]
      omega
  · rw [wn_s hx.1, show (x4 + 1).toNat = x4.toNat + 1 by omega]
    show sm (H3.1 365) x4.toNat + (H3.1 365 x4.toNat - 1) + 1 = _
    rw [v, sm_cg (M := H1.1 365) (fun k hk => e k (by omega))]
    rcases hq with ⟨q1, q2⟩ | ⟨q1, q2, q3⟩
    · rw [q1, q2]
      show (0 : Int) + _ + 1 = 1 + _
      omega
    · omega
theorem PI_close {H H1 H2 H3 : hp} {t : Nat} {x4 x5 z : Int} (h : PI9 H H1 t x4 x5) (hx : 0 ≤ x5 ∧ 0 ≤ x4) (hw : 1 ≤ wn aC (H.1 (t + 1)) x5.toNat) (ha : aC (H.1 (t + 1) x5.toNat) = 0) (f : PF [363, 364] H1 H2) (hl : H2.1 363 3 = H1.1 363 3 + (if x5 = 0 then 0 else 1) + lenC H (H.1 (t + 1) x5.toNat)) (g : CP H2 H3 x4 z) : PI9 H H3 t z (x5 + 1) := by
  have hq := PI_x h hw
  obtain ⟨h1, h2, h3, -⟩ := h
  obtain ⟨g1, g2, g3, g4, g5⟩ := g
  have e : sm (H2.1 365) x4.toNat = sm (H1.1 365) x4.toNat := sm_cg (fun k _ => f.2 365 k (by simp))
  refine ⟨PF_tr (PF_tr h1 (PF_le f (by simp))) g5, g2, ?_, Or.inr ⟨by omega, ?_⟩⟩
  · rw [bs_s hx.1, if_neg (show ¬ (x5 ≠ 0 ∧ 0 < aC (H.1 (t + 1) x5.toNat)) from fun q => by have q2 := q.2; rw [ha] at q2; omega)]
    rw [hl] at g4
    omega
  · rw [wn_s hx.1, ha]
    rcases hq with ⟨q1, q2⟩ | ⟨q1, q2, q3⟩
    · refine Or.inr ⟨by omega, ?_⟩
      rw [q1]
      rfl
    · rcases g3 with ⟨g3, g6⟩ | ⟨g3, g6⟩
      · exact Or.inl ⟨g3, by omega⟩
      · exact Or.inr ⟨g3, by omega⟩
theorem PI_end {H H1 : hp} {t : Nat} {x4 x5 : Int} (h : PI9 H H1 t x4 x5) (hx : 1 ≤ x5 ∧ 0 ≤ x4) (hw : wn aC (H.1 (t + 1)) x5.toNat = 0) : H1.1 363 3 = bs aC (lenC H) (H.1 (t + 1)) x5.toNat := by
  obtain ⟨h1, h2, h3, h4⟩ := h
  have p1 := pd_or x4
  rcases h4 with q | ⟨q, q1 | q1⟩
  · omega
  · have := sm_0 (M := H1.1 365) (n := x4.toNat) (fun k hk => (h2 k (by omega)).1)
    omega
  · omega
theorem PI_0 {H H1 : hp} {t : Nat} (w : wr 363 3 H H1) (v : H1.1 363 3 = 0) : PI9 H H1 t 0 0 := ⟨PF_w w (by simp), fun k hk => absurd hk (by omega), (by rw [v]; rfl), Or.inl ⟨rfl, rfl⟩⟩

/-! Printer.putByte -/
set_option maxRecDepth 100000 in
theorem q_Printer_putByte {d : Nat} (hd : 1 ≤ d) {H : hp} (hI : Inv H) {a : Int} (ha : -2147483648 ≤ a ∧ a ≤ 2147483647) (hp0 : H.1 363 3 < 1080) : hG (zs zK) d mt_92 0 (zargs 0 [.inr (.inr 363), .inl a]) [] H (fun r9 H9 => r9 = none ∧ (H9.1 363 3 = H.1 363 3 + 1) ∧ Inv H9 ∧ fq [(363, 3)] [364] false H H9 ∧ fw [(364, (H.1 363 3).toNat), (363, 3)] H H9) := by
  refine k_run 0 (pc' := 0) (l' := [(0, .inr (.inr 363)), (1, .inl a)]) (st' := []) rfl ?_
  refine k_run 2 (pc' := 4) (l' := [(0, .inr (.inr 363)), (1, .inl a)]) (st' := [.inl (H.1 363 3)]) rfl ?_
  have g1 : 0 ≤ (H.1 363 3) ∧ (H.1 363 3) ≤ 1080 := kn (x := kx_363) hI rfl 3
  refine k_run 2 (pc' := 8) (l' := [(0, .inr (.inr 363)), (1, .inl a)]) (st' := [.inr (.inr 364), .inl (H.1 363 3)]) rfl ?_
  refine k_alen (c := 364) (x := kx_364) rfl rfl (by decide) rfl ?_
  refine k_run 0 (pc' := 9) (l' := [(0, .inr (.inr 363)), (1, .inl a)]) (st' := [.inl 1080, .inl (H.1 363 3)]) rfl ?_
  refine h_ige (off := 23) (t := 32) rfl rfl (by omega) (by decide) (fun c2 => ?_) (fun c2 => ?_)
  · refine k_run 0 (pc' := 32) (l' := [(0, .inr (.inr 363)), (1, .inl a)]) (st' := []) rfl ?_
    refine h_ret rfl rfl ?_
    exact ⟨rfl, (by omega), hI, (fq_rf _ _ _ _), (fw_rf _ _)⟩
  · refine k_run 0 (pc' := 12) (l' := [(0, .inr (.inr 363)), (1, .inl a)]) (st' := []) rfl ?_
    refine k_run 5 (pc' := 21) (l' := [(0, .inr (.inr 363)), (1, .inl a)]) (st' := [.inl a, .inl (H.1 363 3), .inr (.inr 364)]) rfl ?_
    refine k_ist (z := a) (c := 364) (j := ((H.1 363 3)).toNat) (i := (H.1 363 3)) (x := kx_364) rfl rfl (by decide) (by decide) rfl (by decide) (by omega) (by omega) hI (by omega) (show -2147483648 ≤ a ∧ a ≤ 2147483647 by omega) (fun H3 hI4 hw5 hv6 => ?_)
    have hf7 : fq [(363, 3)] [364] false H H3 := fq_w (fq_rf _ _ _ _) hw5 (fpa (by decide) rfl)
    have hp8 : fw [(364, (H.1 363 3).toNat), (363, 3)] H H3 := fw_w (fw_rf _ _) hw5 (by first | (simp; done) | (simp; omega))
    refine k_run 0 (pc' := 22) (l' := [(0, .inr (.inr 363)), (1, .inl a)]) (st' := []) rfl ?_
    refine k_run 3 (pc' := 27) (l' := [(0, .inr (.inr 363)), (1, .inl a)]) (st' := [.inl (H3.1 363 3), .inr (.inr 363)]) rfl ?_
    have g9 : 0 ≤ (H3.1 363 3) ∧ (H3.1 363 3) ≤ 1080 := kn (x := kx_363) hI4 rfl 3
    have e10 : (H3.1 363 3) = (H.1 363 3) := hw5.2 _ _ (fun q => absurd q.1 (by decide))
    refine k_run 2 (pc' := 29) (l' := [(0, .inr (.inr 363)), (1, .inl a)]) (st' := [.inl ((H3.1 363 3) + 1), .inr (.inr 363)]) rfl ?_
    refine k_puti (z := ((H3.1 363 3) + 1)) (a := 363) (x := kx_363) rfl rfl rfl (by decide) (by decide) rfl rfl rfl rfl hI4 (by omega) (show 0 ≤ ((H3.1 363 3) + 1) ∧ ((H3.1 363 3) + 1) ≤ 1080 by omega) (fun H11 hI12 hw13 hv14 => ?_)
    have hf15 : fq [(363, 3)] [364] false H H11 := fq_w hf7 hw13 (fpo (by decide) rfl)
    have hp16 : fw [(364, (H.1 363 3).toNat), (363, 3)] H H11 := fw_w hp8 hw13 (by first | (simp; done) | (simp; omega))
    refine k_run 0 (pc' := 32) (l' := [(0, .inr (.inr 363)), (1, .inl a)]) (st' := []) rfl ?_
    refine h_ret rfl rfl ?_
    have g17 : 0 ≤ (H11.1 363 3) ∧ (H11.1 363 3) ≤ 1080 := kn (x := kx_363) hI12 rfl 3
    exact ⟨rfl, (by omega), hI12, hf15, hp16⟩

/-! Printer.putName -/
set_option maxRecDepth 100000 in
theorem q_Printer_putName_cut {d : Nat} (hd : 2 ≤ d) {H : hp} (hI : Inv H) {a : Int} (hp0 : H.1 363 3 ≤ 1000) (hp1 : -9223372036854775808 ≤ a ∧ a ≤ 9223372036854775807) : ∀ w : Nat, (∀ (H1 : hp), Inv H1 → fq [(363, 3)] [364] false H H1 → ∀ (x3 : Int) , (-2147483648 ≤ x3 ∧ x3 ≤ 2147483647) → (-8 ≤ x3 ∧ x3 ≤ 40 ∧ x3 % 8 = 0) → (H1.1 363 3 = H.1 363 3 + cC a ((40 - x3) / 8).toNat) → (PF [363, 364] H H1) → (((x3 + 100).toNat) < w) → hG (zs zK) d mt_91 3 [(0, .inr (.inr 363)), (1, .inr (.inl a)), (3, .inl x3)] [] H1 (fun r9 H9 => r9 = none ∧ Inv H9 ∧ fq [(363, 3)] [364] false H H9 ∧ (H9.1 363 3 = H.1 363 3 + cC a 6 ∧ PF [363, 364] H H9))) := by
  intro w
  induction w with
  | zero => exact fun _ _ _ _ _ _ _ _ h => absurd h (Nat.not_lt_zero _)
  | succ w ih =>
    intro H1 hI1 hf1 x3 hx3 hi0 hi1 hi2 hw
    have hcb := cC_b a ((40 - x3) / 8).toNat
    have g2 : 0 ≤ (H1.1 363 3) ∧ (H1.1 363 3) ≤ 1080 := kn (x := kx_363) hI1 rfl 3
    refine k_run 1 (pc' := 4) (l' := [(0, .inr (.inr 363)), (1, .inr (.inl a)), (3, .inl x3)]) (st' := [.inl x3]) rfl ?_
    refine h_zlt (off := 30) (t := 34) rfl rfl (by omega) (fun c3 => ?_) (fun c3 => ?_)
    · refine k_run 0 (pc' := 34) (l' := [(0, .inr (.inr 363)), (1, .inr (.inl a)), (3, .inl x3)]) (st' := []) rfl ?_
      refine h_ret rfl rfl ?_
      exact ⟨rfl, hI1, hf1, ⟨by rw [show (6 : Nat) = ((40 - x3) / 8).toNat by omega]; exact hi1, hi2⟩⟩
    · refine k_run 0 (pc' := 7) (l' := [(0, .inr (.inr 363)), (1, .inr (.inl a)), (3, .inl x3)]) (st' := []) rfl ?_
      refine k_run 3 (pc' := 10) (l' := [(0, .inr (.inr 363)), (1, .inr (.inl a)), (3, .inl x3)]) (st' := [.inr (.inl (z_lshr a x3))]) rfl ?_
      refine h_ldc2 (i := 74) (z := 255) rfl rfl rfl ?_
      refine k_run 0 (pc' := 13) (l' := [(0, .inr (.inr 363)), (1, .inr (.inl a)), (3, .inl x3)]) (st' := [.inr (.inl 255), .inr (.inl (z_lshr a x3))]) rfl ?_
      refine k_run 4 (pc' := 19) (l' := [(0, .inr (.inr 363)), (1, .inr (.inl a)), (3, .inl x3), (4, .inl (z_l2i (z_land (z_lshr a x3) 255)))]) (st' := [.inl (z_l2i (z_land (z_lshr a x3) 255))]) rfl ?_
      refine h_zeq (off := 9) (t := 28) rfl rfl (z_int _) (fun c4 => ?_) (fun c4 => ?_)
      · refine k_run 0 (pc' := 28) (l' := [(0, .inr (.inr 363)), (1, .inr (.inl a)), (3, .inl x3), (4, .inl (z_l2i (z_land (z_lshr a x3) 255)))]) (st' := []) rfl ?_
        refine k_run 2 (pc' := 3) (l' := [(0, .inr (.inr 363)), (1, .inr (.inl a)), (3, .inl (x3 + (-8))), (4, .inl (z_l2i (z_land (z_lshr a x3) 255)))]) (st' := []) rfl ?_
        refine h_loc [0, 1, 3] rfl ?_
        exact ih H1 hI1 hf1 (x3 + (-8)) (by omega) (by omega) (by rw [show ((40 - (x3 + (-8))) / 8).toNat = ((40 - x3) / 8).toNat + 1 by omega]; have q8 := (show H1.1 363 3 - H.1 363 3 = cC a (((40 - x3) / 8).toNat + 1) from (cC_no (s := x3) (by omega) (by unfold bC; omega) (by omega))); omega) hi2 (by omega)
      · refine k_run 0 (pc' := 22) (l' := [(0, .inr (.inr 363)), (1, .inr (.inl a)), (3, .inl x3), (4, .inl (z_l2i (z_land (z_lshr a x3) 255)))]) (st' := []) rfl ?_
        refine k_run 2 (pc' := 25) (l' := [(0, .inr (.inr 363)), (1, .inr (.inl a)), (3, .inl x3), (4, .inl (z_l2i (z_land (z_lshr a x3) 255)))]) (st' := [.inl (z_l2i (z_land (z_lshr a x3) 255)), .inr (.inr 363)]) rfl ?_
        refine h_cv (i := 34) (j := 92) (b := 363) (M' := mt_92) (xs := [.inl (z_l2i (z_land (z_lshr a x3) 255))]) (rest := []) rfl rfl rfl rfl (zs_K (x := kx_363) rfl (by decide)) rfl (Nat.le_of_ble_eq_true rfl) (Nat.le_of_ble_eq_true rfl) (by omega) (q_Printer_putByte (by omega) hI1 (z_int _) (by omega)) ?_
        rintro _ H6 ⟨rfl, g5, hI7, hq8, hp9⟩
        have hf11 : fq [(363, 3)] [364] false H H6 := fq_t hf1 hq8 rfl rfl rfl
        refine k_run 0 (pc' := 28) (l' := [(0, .inr (.inr 363)), (1, .inr (.inl a)), (3, .inl x3), (4, .inl (z_l2i (z_land (z_lshr a x3) 255)))]) (st' := []) rfl ?_
        refine k_run 2 (pc' := 3) (l' := [(0, .inr (.inr 363)), (1, .inr (.inl a)), (3, .inl (x3 + (-8))), (4, .inl (z_l2i (z_land (z_lshr a x3) 255)))]) (st' := []) rfl ?_
        have g12 : 0 ≤ (H6.1 363 3) ∧ (H6.1 363 3) ≤ 1080 := kn (x := kx_363) hI7 rfl 3
        refine h_loc [0, 1, 3] rfl ?_
        exact ih H6 hI7 hf11 (x3 + (-8)) (by omega) (by omega) (by rw [show ((40 - (x3 + (-8))) / 8).toNat = ((40 - x3) / 8).toNat + 1 by omega]; have q8 := (show H6.1 363 3 - H.1 363 3 = cC a (((40 - x3) / 8).toNat + 1) from (cC_go (s := x3) (by omega) (fun q9 => by unfold bC at q9; omega) (by omega))); omega) (PF_tr hi2 (show PF [363, 364] _ _ from PF_fw hp9 (by simp))) (by omega)
set_option maxRecDepth 100000 in
theorem q_Printer_putName {d : Nat} (hd : 2 ≤ d) {H : hp} (hI : Inv H) {a : Int} (hp0 : H.1 363 3 ≤ 1000) (hp1 : -9223372036854775808 ≤ a ∧ a ≤ 9223372036854775807) : hG (zs zK) d mt_91 0 (zargs 0 [.inr (.inr 363), .inr (.inl a)]) [] H (fun r9 H9 => r9 = none ∧ Inv H9 ∧ fq [(363, 3)] [364] false H H9 ∧ (H9.1 363 3 = H.1 363 3 + cC a 6 ∧ PF [363, 364] H H9)) := by
  refine k_run 0 (pc' := 0) (l' := [(0, .inr (.inr 363)), (1, .inr (.inl a))]) (st' := []) rfl ?_
  refine k_run 2 (pc' := 3) (l' := [(0, .inr (.inr 363)), (1, .inr (.inl a)), (3, .inl 40)]) (st' := []) rfl ?_
  have g1 : 0 ≤ (H.1 363 3) ∧ (H.1 363 3) ≤ 1080 := kn (x := kx_363) hI rfl 3
  exact (q_Printer_putName_cut hd hI hp0 hp1 _) H hI (fq_rf _ _ _ _) (40 : Int) (by decide) (by omega) (show H.1 363 3 = H.1 363 3 + 0 by omega) (PF_rf _ _) (Nat.lt_succ_self _)

/-! Printer.putNameOf -/
set_option maxRecDepth 100000 in
theorem q_Printer_putNameOf {d : Nat} (hd : 3 ≤ d) {H : hp} (hI : Inv H) {a : Int} {b : Int} (ha : -2147483648 ≤ a ∧ a ≤ 2147483647) (hp0 : H.1 363 3 ≤ 1000) : hG (zs zK) d mt_90 0 (zargs 0 [.inr (.inr 363), .inl a, .inr (.inl b)]) [] H (fun r9 H9 => r9 = none ∧ Inv H9 ∧ fq [(363, 3)] [364] false H H9 ∧ (H9.1 363 3 = H.1 363 3 + lenC H a ∧ PF [363, 364] H H9)) := by
  refine k_run 0 (pc' := 0) (l' := [(0, .inr (.inr 363)), (1, .inl a), (2, .inr (.inl b))]) (st' := []) rfl ?_
  refine k_run 1 (pc' := 1) (l' := [(0, .inr (.inr 363)), (1, .inl a), (2, .inr (.inl b))]) (st' := [.inl a]) rfl ?_
  refine h_cs (i := 46) (j := 50) (M' := mt_50) (xs := [.inl a]) (rest := []) rfl rfl rfl rfl rfl (Nat.le_of_ble_eq_true rfl) (Nat.le_of_ble_eq_true rfl) (by omega) (q_Term_indexOf (by omega)  (by omega)) ?_
  rintro _ _ ⟨z7, rfl, g1, hx6, rfl⟩
  refine k_run 0 (pc' := 4) (l' := [(0, .inr (.inr 363)), (1, .inl a), (2, .inr (.inl b))]) (st' := [.inl z7]) rfl ?_
  refine k_run 1 (pc' := 6) (l' := [(0, .inr (.inr 363)), (1, .inl a), (2, .inr (.inl b)), (4, .inl z7)]) (st' := []) rfl ?_
  have hix9 : 0 ≤ z7 ∧ z7 ≤ 127 := by rw [hx6]; exact z_and_le _ 127 (by decide)
  refine k_run 1 (pc' := 7) (l' := [(0, .inr (.inr 363)), (1, .inl a), (2, .inr (.inl b)), (4, .inl z7)]) (st' := [.inl a]) rfl ?_
  refine h_cs (i := 49) (j := 49) (M' := mt_49) (xs := [.inl a]) (rest := []) rfl rfl rfl rfl rfl (Nat.le_of_ble_eq_true rfl) (Nat.le_of_ble_eq_true rfl) (by omega) (q_Term_kindOf (by omega)  (by omega)) ?_
  rintro _ _ ⟨z14, rfl, g8, hx13, rfl⟩
  refine k_run 0 (pc' := 10) (l' := [(0, .inr (.inr 363)), (1, .inl a), (2, .inr (.inl b)), (4, .inl z7)]) (st' := [.inl z14]) rfl ?_
  rcases (show z14 < 1 ∨ 3 < z14 ∨ z14 = 1 ∨ z14 = 2 ∨ z14 = 3 by omega) with c15 | c15 | c15 | c15 | c15
  · refine h_tout (t := 170) rfl (by omega) (Or.inl c15) rfl ?_
    refine k_run 2 (pc' := 173) (l' := [(0, .inr (.inr 363)), (1, .inl a), (2, .inr (.inl b)), (4, .inl z7)]) (st' := [.inl 95, .inr (.inr 363)]) rfl ?_
    have g16 : 0 ≤ (H.1 363 3) ∧ (H.1 363 3) ≤ 1080 := kn (x := kx_363) hI rfl 3
    refine h_cv (i := 34) (j := 92) (b := 363) (M' := mt_92) (xs := [.inl 95]) (rest := []) rfl rfl rfl rfl (zs_K (x := kx_363) rfl (by decide)) rfl (Nat.le_of_ble_eq_true rfl) (Nat.le_of_ble_eq_true rfl) (by omega) (q_Printer_putByte (by omega) hI (by decide) (by omega)) ?_
    rintro _ H18 ⟨rfl, g17, hI19, hq20, hp21⟩
    have hf23 : fq [(363, 3)] [364] false H H18 := fq_t (fq_rf _ _ _ _) hq20 rfl rfl rfl
    refine k_run 0 (pc' := 176) (l' := [(0, .inr (.inr 363)), (1, .inl a), (2, .inr (.inl b)), (4, .inl z7)]) (st' := []) rfl ?_
    refine h_ret rfl rfl ?_
    have g24 : 0 ≤ (H18.1 363 3) ∧ (H18.1 363 3) ≤ 1080 := kn (x := kx_363) hI19 rfl 3
    exact ⟨rfl, hI19, hf23, ⟨by unfold lenC; rw [← hx6, ← hx13]; (repeat (first | rw [if_pos (by omega)] | rw [if_neg (by omega)])); omega, (show PF [363, 364] _ _ from PF_fw hp21 (by simp))⟩⟩
  · refine h_tout (t := 170) rfl (by omega) (Or.inr c15) rfl ?_
    refine k_run 2 (pc' := 173) (l' := [(0, .inr (.inr 363)), (1, .inl a), (2, .inr (.inl b)), (4, .inl z7)]) (st' := [.inl 95, .inr (.inr 363)]) rfl ?_
    have g25 : 0 ≤ (H.1 363 3) ∧ (H.1 363 3) ≤ 1080 := kn (x := kx_363) hI rfl 3
    refine h_cv (i := 34) (j := 92) (b := 363) (M' := mt_92) (xs := [.inl 95]) (rest := []) rfl rfl rfl rfl (zs_K (x := kx_363) rfl (by decide)) rfl (Nat.le_of_ble_eq_true rfl) (Nat.le_of_ble_eq_true rfl) (by omega) (q_Printer_putByte (by omega) hI (by decide) (by omega)) ?_
    rintro _ H27 ⟨rfl, g26, hI28, hq29, hp30⟩
    have hf32 : fq [(363, 3)] [364] false H H27 := fq_t (fq_rf _ _ _ _) hq29 rfl rfl rfl
    refine k_run 0 (pc' := 176) (l' := [(0, .inr (.inr 363)), (1, .inl a), (2, .inr (.inl b)), (4, .inl z7)]) (st' := []) rfl ?_
    refine h_ret rfl rfl ?_
    have g33 : 0 ≤ (H27.1 363 3) ∧ (H27.1 363 3) ≤ 1080 := kn (x := kx_363) hI28 rfl 3
    exact ⟨rfl, hI28, hf32, ⟨by unfold lenC; rw [← hx6, ← hx13]; (repeat (first | rw [if_pos (by omega)] | rw [if_neg (by omega)])); omega, (show PF [363, 364] _ _ from PF_fw hp30 (by simp))⟩⟩
  · refine h_tin (k := 0) (t := 36) rfl (by omega) (show z14 = 1 + ((0 : Nat) : Int) by omega) (by decide) rfl rfl ?_
    refine k_run 6 (pc' := 49) (l' := [(0, .inr (.inr 363)), (1, .inl a), (2, .inr (.inl b)), (4, .inl z7)]) (st' := [.inl (H.1 13 4), .inl z7, .inr (.inr 363)]) rfl ?_
    have g34 : 0 ≤ (H.1 13 4) ∧ (H.1 13 4) ≤ 16 := kn (x := kx_13) hI rfl 4
    refine h_ige (off := 19) (t := 68) rfl rfl (by omega) (by omega) (fun c35 => ?_) (fun c35 => ?_)
    · refine k_run 0 (pc' := 68) (l' := [(0, .inr (.inr 363)), (1, .inl a), (2, .inr (.inl b)), (4, .inl z7)]) (st' := [.inr (.inr 363)]) rfl ?_
      refine k_run 1 (pc' := 69) (l' := [(0, .inr (.inr 363)), (1, .inl a), (2, .inr (.inl b)), (4, .inl z7)]) (st' := [.inr (.inl 0), .inr (.inr 363)]) rfl ?_
      have g36 : 0 ≤ (H.1 363 3) ∧ (H.1 363 3) ≤ 1080 := kn (x := kx_363) hI rfl 3
      refine h_cv (i := 67) (j := 91) (b := 363) (M' := mt_91) (xs := [.inr (.inl 0)]) (rest := []) rfl rfl rfl rfl (zs_K (x := kx_363) rfl (by decide)) rfl (Nat.le_of_ble_eq_true rfl) (Nat.le_of_ble_eq_true rfl) (by omega) (q_Printer_putName (by omega) hI (by omega) (by omega)) ?_
      rintro _ H38 ⟨rfl, hI39, hq40, hx42⟩
      have hf43 : fq [(363, 3)] [364] false H H38 := fq_t (fq_rf _ _ _ _) hq40 rfl rfl rfl
      refine k_run 0 (pc' := 72) (l' := [(0, .inr (.inr 363)), (1, .inl a), (2, .inr (.inl b)), (4, .inl z7)]) (st' := []) rfl ?_
      refine k_run 1 (pc' := 176) (l' := [(0, .inr (.inr 363)), (1, .inl a), (2, .inr (.inl b)), (4, .inl z7)]) (st' := []) rfl ?_
      refine h_ret rfl rfl ?_
      have g44 : 0 ≤ (H38.1 363 3) ∧ (H38.1 363 3) ≤ 1080 := kn (x := kx_363) hI39 rfl 3
      exact ⟨rfl, hI39, hf43, ⟨by unfold lenC; rw [← hx6, ← hx13]; (repeat (first | rw [if_pos (by omega)] | rw [if_neg (by omega)])); exact hx42.1, hx42.2⟩⟩
    · refine k_run 0 (pc' := 52) (l' := [(0, .inr (.inr 363)), (1, .inl a), (2, .inr (.inl b)), (4, .inl z7)]) (st' := [.inr (.inr 363)]) rfl ?_
      refine k_run 5 (pc' := 64) (l' := [(0, .inr (.inr 363)), (1, .inl a), (2, .inr (.inl b)), (4, .inl z7)]) (st' := [.inl z7, .inr (.inr 14), .inr (.inr 363)]) rfl ?_
      refine k_lld (c := 14) (j := (z7).toNat) (i := z7) (x := kx_14) rfl rfl (by decide) rfl (by decide) (by omega) (by omega) ?_
      have g45 : -9223372036854775808 ≤ (H.1 14 (z7).toNat) ∧ (H.1 14 (z7).toNat) ≤ 9223372036854775807 := kn (x := kx_14) hI rfl (z7).toNat
      refine k_run 0 (pc' := 65) (l' := [(0, .inr (.inr 363)), (1, .inl a), (2, .inr (.inl b)), (4, .inl z7)]) (st' := [.inr (.inl (H.1 14 (z7).toNat)), .inr (.inr 363)]) rfl ?_
      refine k_run 1 (pc' := 69) (l' := [(0, .inr (.inr 363)), (1, .inl a), (2, .inr (.inl b)), (4, .inl z7)]) (st' := [.inr (.inl (H.1 14 (z7).toNat)), .inr (.inr 363)]) rfl ?_
      have g46 : 0 ≤ (H.1 363 3) ∧ (H.1 363 3) ≤ 1080 := kn (x := kx_363) hI rfl 3
      refine h_cv (i := 67) (j := 91) (b := 363) (M' := mt_91) (xs := [.inr (.inl (H.1 14 (z7).toNat))]) (rest := []) rfl rfl rfl rfl (zs_K (x := kx_363) rfl (by decide)) rfl (Nat.le_of_ble_eq_true rfl) (Nat.le_of_ble_eq_true rfl) (by omega) (q_Printer_putName (by omega) hI (by omega) (by omega)) ?_
      rintro _ H48 ⟨rfl, hI49, hq50, hx52⟩
      have hf53 : fq [(363, 3)] [364] false H H48 := fq_t (fq_rf _ _ _ _) hq50 rfl rfl rfl
      refine k_run 0 (pc' := 72) (l' := [(0, .inr (.inr 363)), (1, .inl a), (2, .inr (.inl b)), (4, .inl z7)]) (st' := []) rfl ?_
      refine k_run 1 (pc' := 176) (l' := [(0, .inr (.inr 363)), (1, .inl a), (2, .inr (.inl b)), (4, .inl z7)]) (st' := []) rfl ?_
      refine h_ret rfl rfl ?_
      have g54 : 0 ≤ (H48.1 363 3) ∧ (H48.1 363 3) ≤ 1080 := kn (x := kx_363) hI49 rfl 3
      exact ⟨rfl, hI49, hf53, ⟨by unfold lenC; rw [← hx6, ← hx13]; (repeat (first | rw [if_pos (by omega)] | rw [if_neg (by omega)])); exact hx52.1, hx52.2⟩⟩
  · refine h_tin (k := 1) (t := 75) rfl (by omega) (show z14 = 1 + ((1 : Nat) : Int) by omega) (by decide) rfl rfl ?_
    refine k_run 6 (pc' := 88) (l' := [(0, .inr (.inr 363)), (1, .inl a), (2, .inr (.inl b)), (4, .inl z7)]) (st' := [.inl (H.1 18 4), .inl z7, .inr (.inr 363)]) rfl ?_
    have g55 : 0 ≤ (H.1 18 4) ∧ (H.1 18 4) ≤ 16 := kn (x := kx_18) hI rfl 4
    refine h_ige (off := 19) (t := 107) rfl rfl (by omega) (by omega) (fun c56 => ?_) (fun c56 => ?_)
    · refine k_run 0 (pc' := 107) (l' := [(0, .inr (.inr 363)), (1, .inl a), (2, .inr (.inl b)), (4, .inl z7)]) (st' := [.inr (.inr 363)]) rfl ?_
      refine k_run 1 (pc' := 108) (l' := [(0, .inr (.inr 363)), (1, .inl a), (2, .inr (.inl b)), (4, .inl z7)]) (st' := [.inr (.inl 0), .inr (.inr 363)]) rfl ?_
      have g57 : 0 ≤ (H.1 363 3) ∧ (H.1 363 3) ≤ 1080 := kn (x := kx_363) hI rfl 3
      refine h_cv (i := 67) (j := 91) (b := 363) (M' := mt_91) (xs := [.inr (.inl 0)]) (rest := []) rfl rfl rfl rfl (zs_K (x := kx_363) rfl (by decide)) rfl (Nat.le_of_ble_eq_true rfl) (Nat.le_of_ble_eq_true rfl) (by omega) (q_Printer_putName (by omega) hI (by omega) (by omega)) ?_
      rintro _ H59 ⟨rfl, hI60, hq61, hx63⟩
      have hf64 : fq [(363, 3)] [364] false H H59 := fq_t (fq_rf _ _ _ _) hq61 rfl rfl rfl
      refine k_run 0 (pc' := 111) (l' := [(0, .inr (.inr 363)), (1, .inl a), (2, .inr (.inl b)), (4, .inl z7)]) (st' := []) rfl ?_
      refine k_run 1 (pc' := 176) (l' := [(0, .inr (.inr 363)), (1, .inl a), (2, .inr (.inl b)), (4, .inl z7)]) (st' := []) rfl ?_
      refine h_ret rfl rfl ?_
      have g65 : 0 ≤ (H59.1 363 3) ∧ (H59.1 363 3) ≤ 1080 := kn (x := kx_363) hI60 rfl 3
      exact ⟨rfl, hI60, hf64, ⟨by unfold lenC; rw [← hx6, ← hx13]; (repeat (first | rw [if_pos (by omega)] | rw [if_neg (by omega)])); exact hx63.1, hx63.2⟩⟩
    · refine k_run 0 (pc' := 91) (l' := [(0, .inr (.inr 363)), (1, .inl a), (2, .inr (.inl b)), (4, .inl z7)]) (st' := [.inr (.inr 363)]) rfl ?_
      refine k_run 5 (pc' := 103) (l' := [(0, .inr (.inr 363)), (1, .inl a), (2, .inr (.inl b)), (4, .inl z7)]) (st' := [.inl z7, .inr (.inr 19), .inr (.inr 363)]) rfl ?_
      refine k_lld (c := 19) (j := (z7).toNat) (i := z7) (x := kx_19) rfl rfl (by decide) rfl (by decide) (by omega) (by omega) ?_
      have g66 : -9223372036854775808 ≤ (H.1 19 (z7).toNat) ∧ (H.1 19 (z7).toNat) ≤ 9223372036854775807 := kn (x := kx_19) hI rfl (z7).toNat
      refine k_run 0 (pc' := 104) (l' := [(0, .inr (.inr 363)), (1, .inl a), (2, .inr (.inl b)), (4, .inl z7)]) (st' := [.inr (.inl (H.1 19 (z7).toNat)), .inr (.inr 363)]) rfl ?_
      refine k_run 1 (pc' := 108) (l' := [(0, .inr (.inr 363)), (1, .inl a), (2, .inr (.inl b)), (4, .inl z7)]) (st' := [.inr (.inl (H.1 19 (z7).toNat)), .inr (.inr 363)]) rfl ?_
      have g67 : 0 ≤ (H.1 363 3) ∧ (H.1 363 3) ≤ 1080 := kn (x := kx_363) hI rfl 3
      refine h_cv (i := 67) (j := 91) (b := 363) (M' := mt_91) (xs := [.inr (.inl (H.1 19 (z7).toNat))]) (rest := []) rfl rfl rfl rfl (zs_K (x := kx_363) rfl (by decide)) rfl (Nat.le_of_ble_eq_true rfl) (Nat.le_of_ble_eq_true rfl) (by omega) (q_Printer_putName (by omega) hI (by omega) (by omega)) ?_
      rintro _ H69 ⟨rfl, hI70, hq71, hx73⟩
      have hf74 : fq [(363, 3)] [364] false H H69 := fq_t (fq_rf _ _ _ _) hq71 rfl rfl rfl
      refine k_run 0 (pc' := 111) (l' := [(0, .inr (.inr 363)), (1, .inl a), (2, .inr (.inl b)), (4, .inl z7)]) (st' := []) rfl ?_
      refine k_run 1 (pc' := 176) (l' := [(0, .inr (.inr 363)), (1, .inl a), (2, .inr (.inl b)), (4, .inl z7)]) (st' := []) rfl ?_
      refine h_ret rfl rfl ?_
      have g75 : 0 ≤ (H69.1 363 3) ∧ (H69.1 363 3) ≤ 1080 := kn (x := kx_363) hI70 rfl 3
      exact ⟨rfl, hI70, hf74, ⟨by unfold lenC; rw [← hx6, ← hx13]; (repeat (first | rw [if_pos (by omega)] | rw [if_neg (by omega)])); exact hx73.1, hx73.2⟩⟩
  · refine h_tin (k := 2) (t := 114) rfl (by omega) (show z14 = 1 + ((2 : Nat) : Int) by omega) (by decide) rfl rfl ?_
    refine k_run 4 (pc' := 119) (l' := [(0, .inr (.inr 363)), (1, .inl a), (2, .inr (.inl b)), (4, .inl z7)]) (st' := [.inr (.inl (z_lshr b z7)), .inr (.inr 363)]) rfl ?_
    refine k_nrmj (fun y76 hy76 => ?_)
    refine k_run 2 (pc' := 121) (l' := [(0, .inr (.inr 363)), (1, .inl a), (2, .inr (.inl b)), (4, .inl z7)]) (st' := [.inr (.inl (z_land y76 1)), .inr (.inr 363)]) rfl ?_
    refine k_nrmj (fun y77 hy77 => ?_)
    refine k_run 2 (pc' := 123) (l' := [(0, .inr (.inr 363)), (1, .inl a), (2, .inr (.inl b)), (4, .inl z7)]) (st' := [.inl (z_cmp y77 1), .inr (.inr 363)]) rfl ?_
    refine k_nrm (fun y78 hy78 => ?_)
    refine k_run 0 (pc' := 123) (l' := [(0, .inr (.inr 363)), (1, .inl a), (2, .inr (.inl b)), (4, .inl z7)]) (st' := [.inl y78, .inr (.inr 363)]) rfl ?_
    refine h_zne (off := 8) (t := 131) rfl rfl (by omega) (fun c79 => ?_) (fun c79 => ?_)
    · refine k_run 0 (pc' := 131) (l' := [(0, .inr (.inr 363)), (1, .inl a), (2, .inr (.inl b)), (4, .inl z7)]) (st' := [.inr (.inr 363)]) rfl ?_
      refine k_run 1 (pc' := 133) (l' := [(0, .inr (.inr 363)), (1, .inl a), (2, .inr (.inl b)), (4, .inl z7)]) (st' := [.inl 118, .inr (.inr 363)]) rfl ?_
      have g80 : 0 ≤ (H.1 363 3) ∧ (H.1 363 3) ≤ 1080 := kn (x := kx_363) hI rfl 3
      refine h_cv (i := 34) (j := 92) (b := 363) (M' := mt_92) (xs := [.inl 118]) (rest := []) rfl rfl rfl rfl (zs_K (x := kx_363) rfl (by decide)) rfl (Nat.le_of_ble_eq_true rfl) (Nat.le_of_ble_eq_true rfl) (by omega) (q_Printer_putByte (by omega) hI (by decide) (by omega)) ?_
      rintro _ H82 ⟨rfl, g81, hI83, hq84, hp85⟩
      have hf87 : fq [(363, 3)] [364] false H H82 := fq_t (fq_rf _ _ _ _) hq84 rfl rfl rfl
      refine k_run 0 (pc' := 136) (l' := [(0, .inr (.inr 363)), (1, .inl a), (2, .inr (.inl b)), (4, .inl z7)]) (st' := []) rfl ?_
      refine k_run 2 (pc' := 140) (l' := [(0, .inr (.inr 363)), (1, .inl a), (2, .inr (.inl b)), (4, .inl z7)]) (st' := [.inl 10, .inl z7]) rfl ?_
      refine h_ilt (off := 15) (t := 155) rfl rfl (by omega) (by decide) (fun c88 => ?_) (fun c88 => ?_)
      · refine k_run 0 (pc' := 155) (l' := [(0, .inr (.inr 363)), (1, .inl a), (2, .inr (.inl b)), (4, .inl z7)]) (st' := []) rfl ?_
        refine k_run 4 (pc' := 162) (l' := [(0, .inr (.inr 363)), (1, .inl a), (2, .inr (.inl b)), (4, .inl z7)]) (st' := [.inl 10, .inl z7, .inl 48, .inr (.inr 363)]) rfl ?_
        refine h_irem (x := z7) (y := 10) rfl (by omega) (by decide) (by omega : (10 : Int) ≠ 0) ?_
        refine k_nrm (fun y89 hy89 => ?_)
        refine k_run 0 (pc' := 163) (l' := [(0, .inr (.inr 363)), (1, .inl a), (2, .inr (.inl b)), (4, .inl z7)]) (st' := [.inl y89, .inl 48, .inr (.inr 363)]) rfl ?_
        refine k_run 1 (pc' := 164) (l' := [(0, .inr (.inr 363)), (1, .inl a), (2, .inr (.inl b)), (4, .inl z7)]) (st' := [.inl (48 + y89), .inr (.inr 363)]) rfl ?_
        refine k_nrm (fun y90 hy90 => ?_)
        refine k_run 0 (pc' := 164) (l' := [(0, .inr (.inr 363)), (1, .inl a), (2, .inr (.inl b)), (4, .inl z7)]) (st' := [.inl y90, .inr (.inr 363)]) rfl ?_
        have g91 : 0 ≤ (H82.1 363 3) ∧ (H82.1 363 3) ≤ 1080 := kn (x := kx_363) hI83 rfl 3
        refine h_cv (i := 34) (j := 92) (b := 363) (M' := mt_92) (xs := [.inl y90]) (rest := []) rfl rfl rfl rfl (zs_K (x := kx_363) rfl (by decide)) rfl (Nat.le_of_ble_eq_true rfl) (Nat.le_of_ble_eq_true rfl) (by omega) (q_Printer_putByte (by omega) hI83 (by omega) (by omega)) ?_
        rintro _ H93 ⟨rfl, g92, hI94, hq95, hp96⟩
        have hf98 : fq [(363, 3)] [364] false H H93 := fq_t hf87 hq95 rfl rfl rfl
        refine k_run 0 (pc' := 167) (l' := [(0, .inr (.inr 363)), (1, .inl a), (2, .inr (.inl b)), (4, .inl z7)]) (st' := []) rfl ?_
        refine k_run 1 (pc' := 176) (l' := [(0, .inr (.inr 363)), (1, .inl a), (2, .inr (.inl b)), (4, .inl z7)]) (st' := []) rfl ?_
        refine h_ret rfl rfl ?_
        have g99 : 0 ≤ (H93.1 363 3) ∧ (H93.1 363 3) ≤ 1080 := kn (x := kx_363) hI94 rfl 3
        exact ⟨rfl, hI94, hf98, ⟨by unfold lenC; rw [← hx6, ← hx13]; (repeat (first | rw [if_pos (by omega)] | rw [if_neg (by omega)])); omega, (PF_tr (show PF [363, 364] _ _ from PF_fw hp85 (by simp)) (show PF [363, 364] _ _ from PF_fw hp96 (by simp)))⟩⟩
      · refine k_run 0 (pc' := 143) (l' := [(0, .inr (.inr 363)), (1, .inl a), (2, .inr (.inl b)), (4, .inl z7)]) (st' := []) rfl ?_
        refine k_run 4 (pc' := 150) (l' := [(0, .inr (.inr 363)), (1, .inl a), (2, .inr (.inl b)), (4, .inl z7)]) (st' := [.inl 10, .inl z7, .inl 48, .inr (.inr 363)]) rfl ?_
        refine h_idiv (x := z7) (y := 10) rfl (by omega) (by decide) (by omega : (10 : Int) ≠ 0) ?_
        refine k_nrm (fun y100 hy100 => ?_)
        refine k_run 0 (pc' := 151) (l' := [(0, .inr (.inr 363)), (1, .inl a), (2, .inr (.inl b)), (4, .inl z7)]) (st' := [.inl y100, .inl 48, .inr (.inr 363)]) rfl ?_
        refine k_run 1 (pc' := 152) (l' := [(0, .inr (.inr 363)), (1, .inl a), (2, .inr (.inl b)), (4, .inl z7)]) (st' := [.inl (48 + y100), .inr (.inr 363)]) rfl ?_
        refine k_nrm (fun y101 hy101 => ?_)
        refine k_run 0 (pc' := 152) (l' := [(0, .inr (.inr 363)), (1, .inl a), (2, .inr (.inl b)), (4, .inl z7)]) (st' := [.inl y101, .inr (.inr 363)]) rfl ?_
        have g102 : 0 ≤ (H82.1 363 3) ∧ (H82.1 363 3) ≤ 1080 := kn (x := kx_363) hI83 rfl 3
        refine h_cv (i := 34) (j := 92) (b := 363) (M' := mt_92) (xs := [.inl y101]) (rest := []) rfl rfl rfl rfl (zs_K (x := kx_363) rfl (by decide)) rfl (Nat.le_of_ble_eq_true rfl) (Nat.le_of_ble_eq_true rfl) (by omega) (q_Printer_putByte (by omega) hI83 (by omega) (by omega)) ?_
        rintro _ H104 ⟨rfl, g103, hI105, hq106, hp107⟩
        have hf109 : fq [(363, 3)] [364] false H H104 := fq_t hf87 hq106 rfl rfl rfl
        refine k_run 0 (pc' := 155) (l' := [(0, .inr (.inr 363)), (1, .inl a), (2, .inr (.inl b)), (4, .inl z7)]) (st' := []) rfl ?_
        refine k_run 4 (pc' := 162) (l' := [(0, .inr (.inr 363)), (1, .inl a), (2, .inr (.inl b)), (4, .inl z7)]) (st' := [.inl 10, .inl z7, .inl 48, .inr (.inr 363)]) rfl ?_
        refine h_irem (x := z7) (y := 10) rfl (by omega) (by decide) (by omega : (10 : Int) ≠ 0) ?_
        refine k_nrm (fun y110 hy110 => ?_)
        refine k_run 0 (pc' := 163) (l' := [(0, .inr (.inr 363)), (1, .inl a), (2, .inr (.inl b)), (4, .inl z7)]) (st' := [.inl y110, .inl 48, .inr (.inr 363)]) rfl ?_
        refine k_run 1 (pc' := 164) (l' := [(0, .inr (.inr 363)), (1, .inl a), (2, .inr (.inl b)), (4, .inl z7)]) (st' := [.inl (48 + y110), .inr (.inr 363)]) rfl ?_
        refine k_nrm (fun y111 hy111 => ?_)
        refine k_run 0 (pc' := 164) (l' := [(0, .inr (.inr 363)), (1, .inl a), (2, .inr (.inl b)), (4, .inl z7)]) (st' := [.inl y111, .inr (.inr 363)]) rfl ?_
        have g112 : 0 ≤ (H104.1 363 3) ∧ (H104.1 363 3) ≤ 1080 := kn (x := kx_363) hI105 rfl 3
        refine h_cv (i := 34) (j := 92) (b := 363) (M' := mt_92) (xs := [.inl y111]) (rest := []) rfl rfl rfl rfl (zs_K (x := kx_363) rfl (by decide)) rfl (Nat.le_of_ble_eq_true rfl) (Nat.le_of_ble_eq_true rfl) (by omega) (q_Printer_putByte (by omega) hI105 (by omega) (by omega)) ?_
        rintro _ H114 ⟨rfl, g113, hI115, hq116, hp117⟩
        have hf119 : fq [(363, 3)] [364] false H H114 := fq_t hf109 hq116 rfl rfl rfl
        refine k_run 0 (pc' := 167) (l' := [(0, .inr (.inr 363)), (1, .inl a), (2, .inr (.inl b)), (4, .inl z7)]) (st' := []) rfl ?_
        refine k_run 1 (pc' := 176) (l' := [(0, .inr (.inr 363)), (1, .inl a), (2, .inr (.inl b)), (4, .inl z7)]) (st' := []) rfl ?_
        refine h_ret rfl rfl ?_
        have g120 : 0 ≤ (H114.1 363 3) ∧ (H114.1 363 3) ≤ 1080 := kn (x := kx_363) hI115 rfl 3
        exact ⟨rfl, hI115, hf119, ⟨by unfold lenC; rw [← hx6, ← hx13]; (repeat (first | rw [if_pos (by omega)] | rw [if_neg (by omega)])); omega, (PF_tr (PF_tr (show PF [363, 364] _ _ from PF_fw hp85 (by simp)) (show PF [363, 364] _ _ from PF_fw hp107 (by simp))) (show PF [363, 364] _ _ from PF_fw hp117 (by simp)))⟩⟩
    · refine k_run 0 (pc' := 126) (l' := [(0, .inr (.inr 363)), (1, .inl a), (2, .inr (.inl b)), (4, .inl z7)]) (st' := [.inr (.inr 363)]) rfl ?_
      refine k_run 2 (pc' := 133) (l' := [(0, .inr (.inr 363)), (1, .inl a), (2, .inr (.inl b)), (4, .inl z7)]) (st' := [.inl 102, .inr (.inr 363)]) rfl ?_
      have g121 : 0 ≤ (H.1 363 3) ∧ (H.1 363 3) ≤ 1080 := kn (x := kx_363) hI rfl 3
      refine h_cv (i := 34) (j := 92) (b := 363) (M' := mt_92) (xs := [.inl 102]) (rest := []) rfl rfl rfl rfl (zs_K (x := kx_363) rfl (by decide)) rfl (Nat.le_of_ble_eq_true rfl) (Nat.le_of_ble_eq_true rfl) (by omega) (q_Printer_putByte (by omega) hI (by decide) (by omega)) ?_
      rintro _ H123 ⟨rfl, g122, hI124, hq125, hp126⟩
      have hf128 : fq [(363, 3)] [364] false H H123 := fq_t (fq_rf _ _ _ _) hq125 rfl rfl rfl
      refine k_run 0 (pc' := 136) (l' := [(0, .inr (.inr 363)), (1, .inl a), (2, .inr (.inl b)), (4, .inl z7)]) (st' := []) rfl ?_
      refine k_run 2 (pc' := 140) (l' := [(0, .inr (.inr 363)), (1, .inl a), (2, .inr (.inl b)), (4, .inl z7)]) (st' := [.inl 10, .inl z7]) rfl ?_
      refine h_ilt (off := 15) (t := 155) rfl rfl (by omega) (by decide) (fun c129 => ?_) (fun c129 => ?_)
      · refine k_run 0 (pc' := 155) (l' := [(0, .inr (.inr 363)), (1, .inl a), (2, .inr (.inl b)), (4, .inl z7)]) (st' := []) rfl ?_
        refine k_run 4 (pc' := 162) (l' := [(0, .inr (.inr 363)), (1, .inl a), (2, .inr (.inl b)), (4, .inl z7)]) (st' := [.inl 10, .inl z7, .inl 48, .inr (.inr 363)]) rfl ?_
        refine h_irem (x := z7) (y := 10) rfl (by omega) (by decide) (by omega : (10 : Int) ≠ 0) ?_
        refine k_nrm (fun y130 hy130 => ?_)
        refine k_run 0 (pc' := 163) (l' := [(0, .inr (.inr 363)), (1, .inl a), (2, .inr (.inl b)), (4, .inl z7)]) (st' := [.inl y130, .inl 48, .inr (.inr 363)]) rfl ?_
        refine k_run 1 (pc' := 164) (l' := [(0, .inr (.inr 363)), (1, .inl a), (2, .inr (.inl b)), (4, .inl z7)]) (st' := [.inl (48 + y130), .inr (.inr 363)]) rfl ?_
        refine k_nrm (fun y131 hy131 => ?_)
        refine k_run 0 (pc' := 164) (l' := [(0, .inr (.inr 363)), (1, .inl a), (2, .inr (.inl b)), (4, .inl z7)]) (st' := [.inl y131, .inr (.inr 363)]) rfl ?_
        have g132 : 0 ≤ (H123.1 363 3) ∧ (H123.1 363 3) ≤ 1080 := kn (x := kx_363) hI124 rfl 3
        refine h_cv (i := 34) (j := 92) (b := 363) (M' := mt_92) (xs := [.inl y131]) (rest := []) rfl rfl rfl rfl (zs_K (x := kx_363) rfl (by decide)) rfl (Nat.le_of_ble_eq_true rfl) (Nat.le_of_ble_eq_true rfl) (by omega) (q_Printer_putByte (by omega) hI124 (by omega) (by omega)) ?_
        rintro _ H134 ⟨rfl, g133, hI135, hq136, hp137⟩
        have hf139 : fq [(363, 3)] [364] false H H134 := fq_t hf128 hq136 rfl rfl rfl
        refine k_run 0 (pc' := 167) (l' := [(0, .inr (.inr 363)), (1, .inl a), (2, .inr (.inl b)), (4, .inl z7)]) (st' := []) rfl ?_
        refine k_run 1 (pc' := 176) (l' := [(0, .inr (.inr 363)), (1, .inl a), (2, .inr (.inl b)), (4, .inl z7)]) (st' := []) rfl ?_
        refine h_ret rfl rfl ?_
        have g140 : 0 ≤ (H134.1 363 3) ∧ (H134.1 363 3) ≤ 1080 := kn (x := kx_363) hI135 rfl 3
        exact ⟨rfl, hI135, hf139, ⟨by unfold lenC; rw [← hx6, ← hx13]; (repeat (first | rw [if_pos (by omega)] | rw [if_neg (by omega)])); omega, (PF_tr (show PF [363, 364] _ _ from PF_fw hp126 (by simp)) (show PF [363, 364] _ _ from PF_fw hp137 (by simp)))⟩⟩
      · refine k_run 0 (pc' := 143) (l' := [(0, .inr (.inr 363)), (1, .inl a), (2, .inr (.inl b)), (4, .inl z7)]) (st' := []) rfl ?_
        refine k_run 4 (pc' := 150) (l' := [(0, .inr (.inr 363)), (1, .inl a), (2, .inr (.inl b)), (4, .inl z7)]) (st' := [.inl 10, .inl z7, .inl 48, .inr (.inr 363)]) rfl ?_
        refine h_idiv (x := z7) (y := 10) rfl (by omega) (by decide) (by omega : (10 : Int) ≠ 0) ?_
        refine k_nrm (fun y141 hy141 => ?_)
        refine k_run 0 (pc' := 151) (l' := [(0, .inr (.inr 363)), (1, .inl a), (2, .inr (.inl b)), (4, .inl z7)]) (st' := [.inl y141, .inl 48, .inr (.inr 363)]) rfl ?_
        refine k_run 1 (pc' := 152) (l' := [(0, .inr (.inr 363)), (1, .inl a), (2, .inr (.inl b)), (4, .inl z7)]) (st' := [.inl (48 + y141), .inr (.inr 363)]) rfl ?_
        refine k_nrm (fun y142 hy142 => ?_)
        refine k_run 0 (pc' := 152) (l' := [(0, .inr (.inr 363)), (1, .inl a), (2, .inr (.inl b)), (4, .inl z7)]) (st' := [.inl y142, .inr (.inr 363)]) rfl ?_
        have g143 : 0 ≤ (H123.1 363 3) ∧ (H123.1 363 3) ≤ 1080 := kn (x := kx_363) hI124 rfl 3
        refine h_cv (i := 34) (j := 92) (b := 363) (M' := mt_92) (xs := [.inl y142]) (rest := []) rfl rfl rfl rfl (zs_K (x := kx_363) rfl (by decide)) rfl (Nat.le_of_ble_eq_true rfl) (Nat.le_of_ble_eq_true rfl) (by omega) (q_Printer_putByte (by omega) hI124 (by omega) (by omega)) ?_
        rintro _ H145 ⟨rfl, g144, hI146, hq147, hp148⟩
        have hf150 : fq [(363, 3)] [364] false H H145 := fq_t hf128 hq147 rfl rfl rfl
        refine k_run 0 (pc' := 155) (l' := [(0, .inr (.inr 363)), (1, .inl a), (2, .inr (.inl b)), (4, .inl z7)]) (st' := []) rfl ?_
        refine k_run 4 (pc' := 162) (l' := [(0, .inr (.inr 363)), (1, .inl a), (2, .inr (.inl b)), (4, .inl z7)]) (st' := [.inl 10, .inl z7, .inl 48, .inr (.inr 363)]) rfl ?_
        refine h_irem (x := z7) (y := 10) rfl (by omega) (by decide) (by omega : (10 : Int) ≠ 0) ?_
        refine k_nrm (fun y151 hy151 => ?_)
        refine k_run 0 (pc' := 163) (l' := [(0, .inr (.inr 363)), (1, .inl a), (2, .inr (.inl b)), (4, .inl z7)]) (st' := [.inl y151, .inl 48, .inr (.inr 363)]) rfl ?_
        refine k_run 1 (pc' := 164) (l' := [(0, .inr (.inr 363)), (1, .inl a), (2, .inr (.inl b)), (4, .inl z7)]) (st' := [.inl (48 + y151), .inr (.inr 363)]) rfl ?_
        refine k_nrm (fun y152 hy152 => ?_)
        refine k_run 0 (pc' := 164) (l' := [(0, .inr (.inr 363)), (1, .inl a), (2, .inr (.inl b)), (4, .inl z7)]) (st' := [.inl y152, .inr (.inr 363)]) rfl ?_
        have g153 : 0 ≤ (H145.1 363 3) ∧ (H145.1 363 3) ≤ 1080 := kn (x := kx_363) hI146 rfl 3
        refine h_cv (i := 34) (j := 92) (b := 363) (M' := mt_92) (xs := [.inl y152]) (rest := []) rfl rfl rfl rfl (zs_K (x := kx_363) rfl (by decide)) rfl (Nat.le_of_ble_eq_true rfl) (Nat.le_of_ble_eq_true rfl) (by omega) (q_Printer_putByte (by omega) hI146 (by omega) (by omega)) ?_
        rintro _ H155 ⟨rfl, g154, hI156, hq157, hp158⟩
        have hf160 : fq [(363, 3)] [364] false H H155 := fq_t hf150 hq157 rfl rfl rfl
        refine k_run 0 (pc' := 167) (l' := [(0, .inr (.inr 363)), (1, .inl a), (2, .inr (.inl b)), (4, .inl z7)]) (st' := []) rfl ?_
        refine k_run 1 (pc' := 176) (l' := [(0, .inr (.inr 363)), (1, .inl a), (2, .inr (.inl b)), (4, .inl z7)]) (st' := []) rfl ?_
        refine h_ret rfl rfl ?_
        have g161 : 0 ≤ (H155.1 363 3) ∧ (H155.1 363 3) ≤ 1080 := kn (x := kx_363) hI156 rfl 3
        exact ⟨rfl, hI156, hf160, ⟨by unfold lenC; rw [← hx6, ← hx13]; (repeat (first | rw [if_pos (by omega)] | rw [if_neg (by omega)])); omega, (PF_tr (PF_tr (show PF [363, 364] _ _ from PF_fw hp126 (by simp)) (show PF [363, 364] _ _ from PF_fw hp148 (by simp))) (show PF [363, 364] _ _ from PF_fw hp158 (by simp)))⟩⟩

/-! Printer.closeAll -/
set_option maxRecDepth 100000 in
theorem q_Printer_closeAll_cut {d : Nat} (hd : 2 ≤ d) {H : hp} (hI : Inv H) {a : Int} (ha : -2147483648 ≤ a ∧ a ≤ 2147483647) (hp0 : 0 ≤ a ∧ a ≤ 120) (hp1 : 0 ≤ H.1 363 3 ∧ H.1 363 3 ≤ 900) (hM9 : ∀ k : Nat, (k : Int) < a → 1 ≤ H.1 365 k ∧ H.1 365 k ≤ 7) : ∀ w : Nat, (∀ (H1 : hp), Inv H1 → fq [(363, 3)] [364, 365] false H H1 → ∀ (x2 : Int) , (-2147483648 ≤ x2 ∧ x2 ≤ 2147483647) → (0 ≤ x2 ∧ x2 ≤ a) → (CA H H1 a x2) → ((x2.toNat) < w) → hG (zs zK) d mt_89 2 [(0, .inr (.inr 363)), (1, .inl a), (2, .inl x2)] [] H1 (fun r9 H9 => ∃ z : Int, r9 = some (.inl z) ∧ ((-2147483648 ≤ z ∧ z ≤ 2147483647)) ∧ Inv H9 ∧ fq [(363, 3)] [364, 365] false H H9 ∧ (CP H H9 a z))) := by
  intro w
  induction w with
  | zero => exact fun _ _ _ _ _ _ _ h => absurd h (Nat.not_lt_zero _)
  | succ w ih =>
    intro H1 hI1 hf1 x2 hx2 hi0 hi1 hw
    have hpd1 := pd_or x2
    have hpd2 := pd_or a
    have hca3 := hi1.2.2.1
    have hcm : 1 ≤ x2 → H1.1 365 (x2 - 1).toNat = H.1 365 (x2 - 1).toNat := fun q9 => hi1.1 _ (by omega)
    have hcn : 1 ≤ x2 → 1 ≤ H.1 365 (x2 - 1).toNat ∧ H.1 365 (x2 - 1).toNat ≤ 7 := fun q9 => hM9 _ (by omega)
    have g2 : 0 ≤ (H1.1 363 3) ∧ (H1.1 363 3) ≤ 1080 := kn (x := kx_363) hI1 rfl 3
    refine k_run 1 (pc' := 3) (l' := [(0, .inr (.inr 363)), (1, .inl a), (2, .inl x2)]) (st' := [.inl x2]) rfl ?_
    refine h_zle (off := 44) (t := 47) rfl rfl (by omega) (fun c3 => ?_) (fun c3 => ?_)
    · refine k_run 0 (pc' := 47) (l' := [(0, .inr (.inr 363)), (1, .inl a), (2, .inl x2)]) (st' := []) rfl ?_
      refine k_run 1 (pc' := 48) (l' := [(0, .inr (.inr 363)), (1, .inl a), (2, .inl x2)]) (st' := [.inl x2]) rfl ?_
      refine h_reti (x := x2) rfl rfl ?_
      exact ⟨_, rfl, (by omega), hI1, hf1, (by have e9 : x2 = 0 := (by omega); rw [e9] at hi1 ⊢; exact CA_end hi1 (by omega))⟩
    · refine k_run 0 (pc' := 6) (l' := [(0, .inr (.inr 363)), (1, .inl a), (2, .inl x2)]) (st' := []) rfl ?_
      refine k_run 6 (pc' := 14) (l' := [(0, .inr (.inr 363)), (1, .inl a), (2, .inl x2)]) (st' := [.inl (x2 - 1), .inr (.inr 365), .inl (x2 - 1), .inr (.inr 365)]) rfl ?_
      refine k_ild (c := 365) (j := ((x2 - 1)).toNat) (i := (x2 - 1)) (x := kx_365) rfl rfl (by decide) rfl (by decide) (by omega) (by omega) ?_
      have g4 : -2147483648 ≤ (H1.1 365 ((x2 - 1)).toNat) ∧ (H1.1 365 ((x2 - 1)).toNat) ≤ 2147483647 := kn (x := kx_365) hI1 rfl ((x2 - 1)).toNat
      refine k_run 0 (pc' := 15) (l' := [(0, .inr (.inr 363)), (1, .inl a), (2, .inl x2)]) (st' := [.inl (H1.1 365 ((x2 - 1)).toNat), .inl (x2 - 1), .inr (.inr 365)]) rfl ?_
      refine k_run 2 (pc' := 17) (l' := [(0, .inr (.inr 363)), (1, .inl a), (2, .inl x2)]) (st' := [.inl ((H1.1 365 ((x2 - 1)).toNat) - 1), .inl (x2 - 1), .inr (.inr 365)]) rfl ?_
      refine k_ist (z := ((H1.1 365 ((x2 - 1)).toNat) - 1)) (c := 365) (j := ((x2 - 1)).toNat) (i := (x2 - 1)) (x := kx_365) rfl rfl (by decide) (by decide) rfl (by decide) (by omega) (by omega) hI1 (by omega) (show -2147483648 ≤ ((H1.1 365 ((x2 - 1)).toNat) - 1) ∧ ((H1.1 365 ((x2 - 1)).toNat) - 1) ≤ 2147483647 by omega) (fun H5 hI6 hw7 hv8 => ?_)
      have hf9 : fq [(363, 3)] [364, 365] false H H5 := fq_w hf1 hw7 (fpa (by decide) rfl)
      refine k_run 0 (pc' := 18) (l' := [(0, .inr (.inr 363)), (1, .inl a), (2, .inl x2)]) (st' := []) rfl ?_
      refine k_run 5 (pc' := 25) (l' := [(0, .inr (.inr 363)), (1, .inl a), (2, .inl x2)]) (st' := [.inl (x2 - 1), .inr (.inr 365)]) rfl ?_
      refine k_ild (c := 365) (j := ((x2 - 1)).toNat) (i := (x2 - 1)) (x := kx_365) rfl rfl (by decide) rfl (by decide) (by omega) (by omega) ?_
      have g10 : -2147483648 ≤ (H5.1 365 ((x2 - 1)).toNat) ∧ (H5.1 365 ((x2 - 1)).toNat) ≤ 2147483647 := kn (x := kx_365) hI6 rfl ((x2 - 1)).toNat
      refine k_run 0 (pc' := 26) (l' := [(0, .inr (.inr 363)), (1, .inl a), (2, .inl x2)]) (st' := [.inl (H5.1 365 ((x2 - 1)).toNat)]) rfl ?_
      refine h_zle (off := 5) (t := 31) rfl rfl (by omega) (fun c11 => ?_) (fun c11 => ?_)
      · refine k_run 0 (pc' := 31) (l' := [(0, .inr (.inr 363)), (1, .inl a), (2, .inl x2)]) (st' := []) rfl ?_
        refine k_run 2 (pc' := 35) (l' := [(0, .inr (.inr 363)), (1, .inl a), (2, .inl (x2 + (-1)))]) (st' := [.inl (x2 + (-1))]) rfl ?_
        refine h_zle (off := -33) (t := 2) rfl rfl (by omega) (fun c12 => ?_) (fun c12 => ?_)
        · refine k_run 0 (pc' := 2) (l' := [(0, .inr (.inr 363)), (1, .inl a), (2, .inl (x2 + (-1)))]) (st' := []) rfl ?_
          have g13 : 0 ≤ (H5.1 363 3) ∧ (H5.1 363 3) ≤ 1080 := kn (x := kx_363) hI6 rfl 3
          have e14 : (H5.1 363 3) = (H1.1 363 3) := hw7.2 _ _ (fun q => absurd q.1 (by decide))
          exact ih H5 hI6 hf9 (x2 + (-1)) (by omega) (by omega) (CA_pop hi1 (by omega) hM9 hw7 (by have q9 := hv8; omega) (by omega) (PF_rf _ _) (Or.inr ⟨by omega, rfl⟩)) (by omega)
        · refine k_run 0 (pc' := 38) (l' := [(0, .inr (.inr 363)), (1, .inl a), (2, .inl (x2 + (-1)))]) (st' := []) rfl ?_
          refine k_run 2 (pc' := 41) (l' := [(0, .inr (.inr 363)), (1, .inl a), (2, .inl (x2 + (-1)))]) (st' := [.inl 41, .inr (.inr 363)]) rfl ?_
          have g15 : 0 ≤ (H5.1 363 3) ∧ (H5.1 363 3) ≤ 1080 := kn (x := kx_363) hI6 rfl 3
          have e16 : (H5.1 363 3) = (H1.1 363 3) := hw7.2 _ _ (fun q => absurd q.1 (by decide))
          refine h_cv (i := 34) (j := 92) (b := 363) (M' := mt_92) (xs := [.inl 41]) (rest := []) rfl rfl rfl rfl (zs_K (x := kx_363) rfl (by decide)) rfl (Nat.le_of_ble_eq_true rfl) (Nat.le_of_ble_eq_true rfl) (by omega) (q_Printer_putByte (by omega) hI6 (by decide) (by omega)) ?_
          rintro _ H18 ⟨rfl, g17, hI19, hq20, hp21⟩
          have hf23 : fq [(363, 3)] [364, 365] false H H18 := fq_t hf9 hq20 rfl rfl rfl
          refine k_run 0 (pc' := 44) (l' := [(0, .inr (.inr 363)), (1, .inl a), (2, .inl (x2 + (-1)))]) (st' := []) rfl ?_
          refine k_run 1 (pc' := 2) (l' := [(0, .inr (.inr 363)), (1, .inl a), (2, .inl (x2 + (-1)))]) (st' := []) rfl ?_
          have g24 : 0 ≤ (H18.1 363 3) ∧ (H18.1 363 3) ≤ 1080 := kn (x := kx_363) hI19 rfl 3
          exact ih H18 hI19 hf23 (x2 + (-1)) (by omega) (by omega) (CA_pop hi1 (by omega) hM9 hw7 (by have q9 := hv8; omega) (by omega) (show PF [363, 364] _ _ from PF_fw hp21 (by simp)) (Or.inl ⟨by omega, by omega⟩)) (by omega)
      · refine k_run 0 (pc' := 29) (l' := [(0, .inr (.inr 363)), (1, .inl a), (2, .inl x2)]) (st' := []) rfl ?_
        refine k_run 1 (pc' := 30) (l' := [(0, .inr (.inr 363)), (1, .inl a), (2, .inl x2)]) (st' := [.inl x2]) rfl ?_
        refine h_reti (x := x2) rfl rfl ?_
        have g25 : 0 ≤ (H5.1 363 3) ∧ (H5.1 363 3) ≤ 1080 := kn (x := kx_363) hI6 rfl 3
        have e26 : (H5.1 363 3) = (H1.1 363 3) := hw7.2 _ _ (fun q => absurd q.1 (by decide))
        exact ⟨_, rfl, (by omega), hI6, hf9, (CA_ret hi1 (by omega) hM9 hw7 (by have q9 := hv8; omega) (by omega))⟩
set_option maxRecDepth 100000 in
theorem q_Printer_closeAll {d : Nat} (hd : 2 ≤ d) {H : hp} (hI : Inv H) {a : Int} (ha : -2147483648 ≤ a ∧ a ≤ 2147483647) (hp0 : 0 ≤ a ∧ a ≤ 120) (hp1 : 0 ≤ H.1 363 3 ∧ H.1 363 3 ≤ 900) (hM9 : ∀ k : Nat, (k : Int) < a → 1 ≤ H.1 365 k ∧ H.1 365 k ≤ 7) : hG (zs zK) d mt_89 0 (zargs 0 [.inr (.inr 363), .inl a]) [] H (fun r9 H9 => ∃ z : Int, r9 = some (.inl z) ∧ ((-2147483648 ≤ z ∧ z ≤ 2147483647)) ∧ Inv H9 ∧ fq [(363, 3)] [364, 365] false H H9 ∧ (CP H H9 a z)) := by
  refine k_run 0 (pc' := 0) (l' := [(0, .inr (.inr 363)), (1, .inl a)]) (st' := []) rfl ?_
  refine k_run 2 (pc' := 2) (l' := [(0, .inr (.inr 363)), (1, .inl a), (2, .inl a)]) (st' := []) rfl ?_
  have g1 : 0 ≤ (H.1 363 3) ∧ (H.1 363 3) ≤ 1080 := kn (x := kx_363) hI rfl 3
  exact (q_Printer_closeAll_cut hd hI ha hp0 hp1 hM9 _) H hI (fq_rf _ _ _ _) a (by omega) (by omega) CA_0 (Nat.lt_succ_self _)

/-! Printer.print -/
set_option maxRecDepth 100000 in
theorem q_Printer_print_cut {d : Nat} (hd : 4 ≤ d) {H : hp} (hI : Inv H) {t n : Nat} {b : Int} (ht : isT t n) (ht9 : (25 ≤ t ∧ t + 1 < 361) ∨ 366 < t) (hsz : 1 ≤ H.1 t 1 ∧ H.1 t 1 ≤ 40) (hw9 : ∀ i : Nat, (i : Int) < H.1 t 1 → 1 ≤ wn aC (H.1 (t + 1)) i) (hw0 : wn aC (H.1 (t + 1)) (H.1 t 1).toNat = 0) : ∀ w : Nat, (∀ (H1 : hp), Inv H1 → fq [(363, 3)] [364, 365] false H H1 → ∀ (x4 : Int) (x5 : Int) , (-2147483648 ≤ x4 ∧ x4 ≤ 2147483647) → (-2147483648 ≤ x5 ∧ x5 ≤ 2147483647) → (0 ≤ x4 ∧ x4 ≤ x5) → (0 ≤ x5 ∧ x5 ≤ H.1 t 1) → (PI9 H H1 t x4 x5) → (((1000 - x5).toNat) < w) → hG (zs zK) d mt_88 11 [(0, .inr (.inr 363)), (1, .inr (.inr t)), (2, .inr (.inl b)), (4, .inl x4), (5, .inl x5)] [] H1 (fun r9 H9 => ∃ z : Int, r9 = some (.inl z) ∧ ((-2147483648 ≤ z ∧ z ≤ 2147483647)) ∧ Inv H9 ∧ fq [(363, 3)] [364, 365] false H H9 ∧ (z = bs aC (lenC H) (H.1 (t + 1)) (H.1 t 1).toNat ∧ PF [363, 364, 365] H H9))) := by
  intro w
  induction w with
  | zero => exact fun _ _ _ _ _ _ _ _ _ _ h => absurd h (Nat.not_lt_zero _)
  | succ w ih =>
    intro H1 hI1 hf1 x4 x5 hx4 hx5 hi0 hi1 hi2 hw
    have htb := ht.2.2.2.2
    have eS : H1.1 t 1 = H.1 t 1 := hi2.1.2 t 1 (by simp; omega)
    have hw1 : x5 < H.1 t 1 → 1 ≤ wn aC (H.1 (t + 1)) x5.toNat := fun q9 => hw9 _ (by omega)
    have hpd := pd_or x4
    have hbb := bs_b (ar := aC) (len := lenC H) (a := H.1 (t + 1)) (fun c => by have q9 := lenC_b H c; omega) x5.toNat
    have hb3 := hi2.2.2.1
    have g7 : 0 ≤ (H1.1 363 3) ∧ (H1.1 363 3) ≤ 1080 := kn (x := kx_363) hI1 rfl 3
    refine k_run 2 (pc' := 14) (l' := [(0, .inr (.inr 363)), (1, .inr (.inr t)), (2, .inr (.inl b)), (4, .inl x4), (5, .inl x5)]) (st' := [.inr (.inr t), .inl x5]) rfl ?_
    refine k_get (a := t) (x := (kTo t n)) (v := .inl (H1.1 t 1)) rfl rfl ht.1 (iT0 ht) rfl rfl rfl ?_
    have g8 : 0 ≤ (H1.1 t 1) ∧ (H1.1 t 1) ≤ n := kn hI1 ht.1 1
    refine k_run 0 (pc' := 17) (l' := [(0, .inr (.inr 363)), (1, .inr (.inr t)), (2, .inr (.inl b)), (4, .inl x4), (5, .inl x5)]) (st' := [.inl (H1.1 t 1), .inl x5]) rfl ?_
    refine h_ige (off := 97) (t := 114) rfl rfl (by omega) (by omega) (fun c9 => ?_) (fun c9 => ?_)
    · refine k_run 0 (pc' := 114) (l' := [(0, .inr (.inr 363)), (1, .inr (.inr t)), (2, .inr (.inl b)), (4, .inl x4), (5, .inl x5)]) (st' := []) rfl ?_
      refine k_run 2 (pc' := 118) (l' := [(0, .inr (.inr 363)), (1, .inr (.inr t)), (2, .inr (.inl b)), (4, .inl x4), (5, .inl x5)]) (st' := [.inl (H1.1 363 3)]) rfl ?_
      refine h_reti (x := (H1.1 363 3)) rfl rfl ?_
      exact ⟨_, rfl, (by omega), hI1, hf1, (by have q9 := PI_end hi2 (by omega) (by rw [show x5 = H.1 t 1 by omega]; exact hw0); rw [show x5 = H.1 t 1 by omega] at q9; exact ⟨q9, hi2.1⟩)⟩
    · refine k_run 0 (pc' := 20) (l' := [(0, .inr (.inr 363)), (1, .inr (.inr t)), (2, .inr (.inl b)), (4, .inl x4), (5, .inl x5)]) (st' := []) rfl ?_
      refine k_run 1 (pc' := 21) (l' := [(0, .inr (.inr 363)), (1, .inr (.inr t)), (2, .inr (.inl b)), (4, .inl x4), (5, .inl x5)]) (st' := [.inr (.inr t)]) rfl ?_
      refine k_get (a := t) (x := (kTo t n)) (v := .inr (.inr (t + 1))) rfl rfl ht.1 (iT0 ht) rfl rfl rfl ?_
      refine k_run 0 (pc' := 24) (l' := [(0, .inr (.inr 363)), (1, .inr (.inr t)), (2, .inr (.inl b)), (4, .inl x4), (5, .inl x5)]) (st' := [.inr (.inr (t + 1))]) rfl ?_
      refine k_run 1 (pc' := 26) (l' := [(0, .inr (.inr 363)), (1, .inr (.inr t)), (2, .inr (.inl b)), (4, .inl x4), (5, .inl x5)]) (st' := [.inl x5, .inr (.inr (t + 1))]) rfl ?_
      refine k_ild (c := (t + 1)) (j := (x5).toNat) (i := x5) (x := (kTc n)) rfl ht.2.1 (iT1 ht) rfl (by omega) (by omega) (by omega) ?_
      have g10 : -2147483648 ≤ (H1.1 (t + 1) (x5).toNat) ∧ (H1.1 (t + 1) (x5).toNat) ≤ 2147483647 := kn hI1 ht.2.1 (x5).toNat
      refine k_run 0 (pc' := 27) (l' := [(0, .inr (.inr 363)), (1, .inr (.inr t)), (2, .inr (.inl b)), (4, .inl x4), (5, .inl x5)]) (st' := [.inl (H1.1 (t + 1) (x5).toNat)]) rfl ?_
      refine k_run 1 (pc' := 29) (l' := [(0, .inr (.inr 363)), (1, .inr (.inr t)), (2, .inr (.inl b)), (4, .inl x4), (5, .inl x5), (6, .inl (H1.1 (t + 1) (x5).toNat))]) (st' := []) rfl ?_
      have eC : (H1.1 (t + 1) (x5).toNat) = H.1 (t + 1) x5.toNat := hi2.1.2 _ _ (by simp; omega)
      replace hw1 := hw1 (by omega)
      refine k_run 3 (pc' := 34) (l' := [(0, .inr (.inr 363)), (1, .inr (.inr t)), (2, .inr (.inl b)), (4, .inl x4), (5, .inl x5), (6, .inl (H1.1 (t + 1) (x5).toNat))]) (st' := [.inl (z_and (H1.1 (t + 1) (x5).toNat) 7)]) rfl ?_
      have g11 : 0 ≤ (z_and (H1.1 (t + 1) (x5).toNat) 7) ∧ (z_and (H1.1 (t + 1) (x5).toNat) 7) ≤ 7 := z_and_le _ 7 (by decide)
      refine k_run 2 (pc' := 38) (l' := [(0, .inr (.inr 363)), (1, .inr (.inr t)), (2, .inr (.inl b)), (4, .inl x4), (5, .inl x5), (6, .inl (H1.1 (t + 1) (x5).toNat)), (7, .inl (z_and (H1.1 (t + 1) (x5).toNat) 7))]) (st' := [.inl x5]) rfl ?_
      refine h_zle (off := 9) (t := 47) rfl rfl (by omega) (fun c12 => ?_) (fun c12 => ?_)
      · refine k_run 0 (pc' := 47) (l' := [(0, .inr (.inr 363)), (1, .inr (.inr t)), (2, .inr (.inl b)), (4, .inl x4), (5, .inl x5), (6, .inl (H1.1 (t + 1) (x5).toNat)), (7, .inl (z_and (H1.1 (t + 1) (x5).toNat) 7))]) (st' := []) rfl ?_
        refine k_run 1 (pc' := 49) (l' := [(0, .inr (.inr 363)), (1, .inr (.inr t)), (2, .inr (.inl b)), (4, .inl x4), (5, .inl x5), (6, .inl (H1.1 (t + 1) (x5).toNat)), (7, .inl (z_and (H1.1 (t + 1) (x5).toNat) 7))]) (st' := [.inl x5]) rfl ?_
        refine h_zle (off := 14) (t := 63) rfl rfl (by omega) (fun c13 => ?_) (fun c13 => ?_)
        · refine k_run 0 (pc' := 63) (l' := [(0, .inr (.inr 363)), (1, .inr (.inr t)), (2, .inr (.inl b)), (4, .inl x4), (5, .inl x5), (6, .inl (H1.1 (t + 1) (x5).toNat)), (7, .inl (z_and (H1.1 (t + 1) (x5).toNat) 7))]) (st' := []) rfl ?_
          refine k_run 3 (pc' := 67) (l' := [(0, .inr (.inr 363)), (1, .inr (.inr t)), (2, .inr (.inl b)), (4, .inl x4), (5, .inl x5), (6, .inl (H1.1 (t + 1) (x5).toNat)), (7, .inl (z_and (H1.1 (t + 1) (x5).toNat) 7))]) (st' := [.inr (.inl b), .inl (H1.1 (t + 1) (x5).toNat), .inr (.inr 363)]) rfl ?_
          refine h_cv (i := 38) (j := 90) (b := 363) (M' := mt_90) (xs := [.inr (.inl b), .inl (H1.1 (t + 1) (x5).toNat)]) (rest := []) rfl rfl rfl rfl (zs_K (x := kx_363) rfl (by decide)) rfl (Nat.le_of_ble_eq_true rfl) (Nat.le_of_ble_eq_true rfl) (by omega) (q_Printer_putNameOf (by omega) hI1 (by omega) (by omega)) ?_
          rintro _ H15 ⟨rfl, hI16, hq17, hx19⟩
          have hf20 : fq [(363, 3)] [364, 365] false H H15 := fq_t hf1 hq17 rfl rfl rfl
          refine k_run 0 (pc' := 70) (l' := [(0, .inr (.inr 363)), (1, .inr (.inr t)), (2, .inr (.inl b)), (4, .inl x4), (5, .inl x5), (6, .inl (H1.1 (t + 1) (x5).toNat)), (7, .inl (z_and (H1.1 (t + 1) (x5).toNat) 7))]) (st' := []) rfl ?_
          have hln9 := hx19.1
          have hlb9 := lenC_b H1 (H1.1 (t + 1) (x5).toNat)
          refine k_run 1 (pc' := 72) (l' := [(0, .inr (.inr 363)), (1, .inr (.inr t)), (2, .inr (.inl b)), (4, .inl x4), (5, .inl x5), (6, .inl (H1.1 (t + 1) (x5).toNat)), (7, .inl (z_and (H1.1 (t + 1) (x5).toNat) 7))]) (st' := [.inl (z_and (H1.1 (t + 1) (x5).toNat) 7)]) rfl ?_
          refine h_zle (off := 28) (t := 100) rfl rfl (z_int _) (fun c21 => ?_) (fun c21 => ?_)
          · refine k_run 0 (pc' := 100) (l' := [(0, .inr (.inr 363)), (1, .inr (.inr t)), (2, .inr (.inl b)), (4, .inl x4), (5, .inl x5), (6, .inl (H1.1 (t + 1) (x5).toNat)), (7, .inl (z_and (H1.1 (t + 1) (x5).toNat) 7))]) (st' := []) rfl ?_
            refine k_run 2 (pc' := 103) (l' := [(0, .inr (.inr 363)), (1, .inr (.inr t)), (2, .inr (.inl b)), (4, .inl x4), (5, .inl x5), (6, .inl (H1.1 (t + 1) (x5).toNat)), (7, .inl (z_and (H1.1 (t + 1) (x5).toNat) 7))]) (st' := [.inl x4, .inr (.inr 363)]) rfl ?_
            have g22 : 0 ≤ (H15.1 363 3) ∧ (H15.1 363 3) ≤ 1080 := kn (x := kx_363) hI16 rfl 3
            refine h_cv (i := 42) (j := 89) (b := 363) (M' := mt_89) (xs := [.inl x4]) (rest := []) rfl rfl rfl rfl (zs_K (x := kx_363) rfl (by decide)) rfl (Nat.le_of_ble_eq_true rfl) (Nat.le_of_ble_eq_true rfl) (by omega) (q_Printer_closeAll (by omega) hI16 (by omega) (by omega) (by omega) (fun k hk => by rw [(hx19.2).2 365 k (by simp)]; exact hi2.2.1 k hk)) ?_
            rintro _ H24 ⟨z29, rfl, g23, hI25, hq26, hx28⟩
            have hf30 : fq [(363, 3)] [364, 365] false H H24 := fq_t hf20 hq26 rfl rfl rfl
            refine k_run 0 (pc' := 106) (l' := [(0, .inr (.inr 363)), (1, .inr (.inr t)), (2, .inr (.inl b)), (4, .inl x4), (5, .inl x5), (6, .inl (H1.1 (t + 1) (x5).toNat)), (7, .inl (z_and (H1.1 (t + 1) (x5).toNat) 7))]) (st' := [.inl z29]) rfl ?_
            have hcp9 := hx28.1
            refine k_run 3 (pc' := 11) (l' := [(0, .inr (.inr 363)), (1, .inr (.inr t)), (2, .inr (.inl b)), (4, .inl z29), (5, .inl (x5 + 1)), (6, .inl (H1.1 (t + 1) (x5).toNat)), (7, .inl (z_and (H1.1 (t + 1) (x5).toNat) 7))]) (st' := []) rfl ?_
            have g31 : 0 ≤ (H24.1 363 3) ∧ (H24.1 363 3) ≤ 1080 := kn (x := kx_363) hI25 rfl 3
            refine h_loc [0, 1, 2, 4, 5] rfl ?_
            exact ih H24 hI25 hf30 z29 (x5 + 1) (by omega) (by omega) (by omega) (by omega) (PI_close hi2 (by omega) hw1 (by unfold aC; rw [← eC]; omega) hx19.2 (by have q9 := hx19.1; rw [lenC_cg hi2.1 (by simp), show (H1.1 (t + 1) (x5).toNat) = H.1 (t + 1) x5.toNat from eC] at q9; rw [if_pos (by omega)]; omega) hx28) (by omega)
          · refine k_run 0 (pc' := 75) (l' := [(0, .inr (.inr 363)), (1, .inr (.inr t)), (2, .inr (.inl b)), (4, .inl x4), (5, .inl x5), (6, .inl (H1.1 (t + 1) (x5).toNat)), (7, .inl (z_and (H1.1 (t + 1) (x5).toNat) 7))]) (st' := []) rfl ?_
            refine k_run 3 (pc' := 81) (l' := [(0, .inr (.inr 363)), (1, .inr (.inr t)), (2, .inr (.inl b)), (4, .inl x4), (5, .inl x5), (6, .inl (H1.1 (t + 1) (x5).toNat)), (7, .inl (z_and (H1.1 (t + 1) (x5).toNat) 7))]) (st' := [.inr (.inr 365), .inl x4]) rfl ?_
            refine k_alen (c := 365) (x := kx_365) rfl rfl (by decide) rfl ?_
            refine k_run 0 (pc' := 82) (l' := [(0, .inr (.inr 363)), (1, .inr (.inr t)), (2, .inr (.inl b)), (4, .inl x4), (5, .inl x5), (6, .inl (H1.1 (t + 1) (x5).toNat)), (7, .inl (z_and (H1.1 (t + 1) (x5).toNat) 7))]) (st' := [.inl 120, .inl x4]) rfl ?_
            refine h_ige (off := 18) (t := 100) rfl rfl (by omega) (by decide) (fun c32 => ?_) (fun c32 => ?_)
            · refine k_run 0 (pc' := 100) (l' := [(0, .inr (.inr 363)), (1, .inr (.inr t)), (2, .inr (.inl b)), (4, .inl x4), (5, .inl x5), (6, .inl (H1.1 (t + 1) (x5).toNat)), (7, .inl (z_and (H1.1 (t + 1) (x5).toNat) 7))]) (st' := []) rfl ?_
              refine k_run 2 (pc' := 103) (l' := [(0, .inr (.inr 363)), (1, .inr (.inr t)), (2, .inr (.inl b)), (4, .inl x4), (5, .inl x5), (6, .inl (H1.1 (t + 1) (x5).toNat)), (7, .inl (z_and (H1.1 (t + 1) (x5).toNat) 7))]) (st' := [.inl x4, .inr (.inr 363)]) rfl ?_
              have g33 : 0 ≤ (H15.1 363 3) ∧ (H15.1 363 3) ≤ 1080 := kn (x := kx_363) hI16 rfl 3
              refine h_cv (i := 42) (j := 89) (b := 363) (M' := mt_89) (xs := [.inl x4]) (rest := []) rfl rfl rfl rfl (zs_K (x := kx_363) rfl (by decide)) rfl (Nat.le_of_ble_eq_true rfl) (Nat.le_of_ble_eq_true rfl) (by omega) (q_Printer_closeAll (by omega) hI16 (by omega) (by omega) (by omega) (fun k hk => by rw [(hx19.2).2 365 k (by simp)]; exact hi2.2.1 k hk)) ?_
              rintro _ H35 ⟨z40, rfl, g34, hI36, hq37, hx39⟩
              have hf41 : fq [(363, 3)] [364, 365] false H H35 := fq_t hf20 hq37 rfl rfl rfl
              refine k_run 0 (pc' := 106) (l' := [(0, .inr (.inr 363)), (1, .inr (.inr t)), (2, .inr (.inl b)), (4, .inl x4), (5, .inl x5), (6, .inl (H1.1 (t + 1) (x5).toNat)), (7, .inl (z_and (H1.1 (t + 1) (x5).toNat) 7))]) (st' := [.inl z40]) rfl ?_
              have hcp9 := hx39.1
              refine k_run 3 (pc' := 11) (l' := [(0, .inr (.inr 363)), (1, .inr (.inr t)), (2, .inr (.inl b)), (4, .inl z40), (5, .inl (x5 + 1)), (6, .inl (H1.1 (t + 1) (x5).toNat)), (7, .inl (z_and (H1.1 (t + 1) (x5).toNat) 7))]) (st' := []) rfl ?_
              have g42 : 0 ≤ (H35.1 363 3) ∧ (H35.1 363 3) ≤ 1080 := kn (x := kx_363) hI36 rfl 3
              refine h_loc [0, 1, 2, 4, 5] rfl ?_
              exact ih H35 hI36 hf41 z40 (x5 + 1) (by omega) (by omega) (by omega) (by omega) (PI_close hi2 (by omega) hw1 (by unfold aC; rw [← eC]; omega) hx19.2 (by have q9 := hx19.1; rw [lenC_cg hi2.1 (by simp), show (H1.1 (t + 1) (x5).toNat) = H.1 (t + 1) x5.toNat from eC] at q9; rw [if_pos (by omega)]; omega) hx39) (by omega)
            · refine k_run 0 (pc' := 85) (l' := [(0, .inr (.inr 363)), (1, .inr (.inr t)), (2, .inr (.inl b)), (4, .inl x4), (5, .inl x5), (6, .inl (H1.1 (t + 1) (x5).toNat)), (7, .inl (z_and (H1.1 (t + 1) (x5).toNat) 7))]) (st' := []) rfl ?_
              refine k_run 4 (pc' := 93) (l' := [(0, .inr (.inr 363)), (1, .inr (.inr t)), (2, .inr (.inl b)), (4, .inl x4), (5, .inl x5), (6, .inl (H1.1 (t + 1) (x5).toNat)), (7, .inl (z_and (H1.1 (t + 1) (x5).toNat) 7))]) (st' := [.inl (z_and (H1.1 (t + 1) (x5).toNat) 7), .inl x4, .inr (.inr 365)]) rfl ?_
              refine k_ist (z := (z_and (H1.1 (t + 1) (x5).toNat) 7)) (c := 365) (j := (x4).toNat) (i := x4) (x := kx_365) rfl rfl (by decide) (by decide) rfl (by decide) (by omega) (by omega) hI16 (z_int _) (show -2147483648 ≤ (z_and (H1.1 (t + 1) (x5).toNat) 7) ∧ (z_and (H1.1 (t + 1) (x5).toNat) 7) ≤ 2147483647 by omega) (fun H43 hI44 hw45 hv46 => ?_)
              have hf47 : fq [(363, 3)] [364, 365] false H H43 := fq_w hf20 hw45 (fpa (by decide) rfl)
              refine k_run 0 (pc' := 94) (l' := [(0, .inr (.inr 363)), (1, .inr (.inr t)), (2, .inr (.inl b)), (4, .inl x4), (5, .inl x5), (6, .inl (H1.1 (t + 1) (x5).toNat)), (7, .inl (z_and (H1.1 (t + 1) (x5).toNat) 7))]) (st' := []) rfl ?_
              refine k_run 4 (pc' := 11) (l' := [(0, .inr (.inr 363)), (1, .inr (.inr t)), (2, .inr (.inl b)), (4, .inl (x4 + 1)), (5, .inl (x5 + 1)), (6, .inl (H1.1 (t + 1) (x5).toNat)), (7, .inl (z_and (H1.1 (t + 1) (x5).toNat) 7))]) (st' := []) rfl ?_
              have g48 : 0 ≤ (H43.1 363 3) ∧ (H43.1 363 3) ≤ 1080 := kn (x := kx_363) hI44 rfl 3
              have e49 : (H43.1 363 3) = (H15.1 363 3) := hw45.2 _ _ (fun q => absurd q.1 (by decide))
              refine h_loc [0, 1, 2, 4, 5] rfl ?_
              exact ih H43 hI44 hf47 (x4 + 1) (x5 + 1) (by omega) (by omega) (by omega) (by omega) (PI_push hi2 (by omega) hw1 (by unfold aC; rw [← eC]; omega) hx19.2 (by have q9 := hx19.1; rw [lenC_cg hi2.1 (by simp), show (H1.1 (t + 1) (x5).toNat) = H.1 (t + 1) x5.toNat from eC] at q9; rw [if_pos (by omega)]; omega) hw45 (by rw [hv46]; unfold aC; rw [← eC])) (by omega)
        · exfalso
          omega
      · refine k_run 0 (pc' := 41) (l' := [(0, .inr (.inr 363)), (1, .inr (.inr t)), (2, .inr (.inl b)), (4, .inl x4), (5, .inl x5), (6, .inl (H1.1 (t + 1) (x5).toNat)), (7, .inl (z_and (H1.1 (t + 1) (x5).toNat) 7))]) (st' := []) rfl ?_
        refine k_run 2 (pc' := 44) (l' := [(0, .inr (.inr 363)), (1, .inr (.inr t)), (2, .inr (.inl b)), (4, .inl x4), (5, .inl x5), (6, .inl (H1.1 (t + 1) (x5).toNat)), (7, .inl (z_and (H1.1 (t + 1) (x5).toNat) 7))]) (st' := [.inl 32, .inr (.inr 363)]) rfl ?_
        refine h_cv (i := 34) (j := 92) (b := 363) (M' := mt_92) (xs := [.inl 32]) (rest := []) rfl rfl rfl rfl (zs_K (x := kx_363) rfl (by decide)) rfl (Nat.le_of_ble_eq_true rfl) (Nat.le_of_ble_eq_true rfl) (by omega) (q_Printer_putByte (by omega) hI1 (by decide) (by omega)) ?_
        rintro _ H51 ⟨rfl, g50, hI52, hq53, hp54⟩
        have hf56 : fq [(363, 3)] [364, 365] false H H51 := fq_t hf1 hq53 rfl rfl rfl
        refine k_run 0 (pc' := 47) (l' := [(0, .inr (.inr 363)), (1, .inr (.inr t)), (2, .inr (.inl b)), (4, .inl x4), (5, .inl x5), (6, .inl (H1.1 (t + 1) (x5).toNat)), (7, .inl (z_and (H1.1 (t + 1) (x5).toNat) 7))]) (st' := []) rfl ?_
        refine k_run 1 (pc' := 49) (l' := [(0, .inr (.inr 363)), (1, .inr (.inr t)), (2, .inr (.inl b)), (4, .inl x4), (5, .inl x5), (6, .inl (H1.1 (t + 1) (x5).toNat)), (7, .inl (z_and (H1.1 (t + 1) (x5).toNat) 7))]) (st' := [.inl x5]) rfl ?_
        refine h_zle (off := 14) (t := 63) rfl rfl (by omega) (fun c57 => ?_) (fun c57 => ?_)
        · exfalso
          omega
        · refine k_run 0 (pc' := 52) (l' := [(0, .inr (.inr 363)), (1, .inr (.inr t)), (2, .inr (.inl b)), (4, .inl x4), (5, .inl x5), (6, .inl (H1.1 (t + 1) (x5).toNat)), (7, .inl (z_and (H1.1 (t + 1) (x5).toNat) 7))]) (st' := []) rfl ?_
          refine k_run 1 (pc' := 54) (l' := [(0, .inr (.inr 363)), (1, .inr (.inr t)), (2, .inr (.inl b)), (4, .inl x4), (5, .inl x5), (6, .inl (H1.1 (t + 1) (x5).toNat)), (7, .inl (z_and (H1.1 (t + 1) (x5).toNat) 7))]) (st' := [.inl (z_and (H1.1 (t + 1) (x5).toNat) 7)]) rfl ?_
          refine h_zle (off := 9) (t := 63) rfl rfl (z_int _) (fun c58 => ?_) (fun c58 => ?_)
          · refine k_run 0 (pc' := 63) (l' := [(0, .inr (.inr 363)), (1, .inr (.inr t)), (2, .inr (.inl b)), (4, .inl x4), (5, .inl x5), (6, .inl (H1.1 (t + 1) (x5).toNat)), (7, .inl (z_and (H1.1 (t + 1) (x5).toNat) 7))]) (st' := []) rfl ?_
            refine k_run 3 (pc' := 67) (l' := [(0, .inr (.inr 363)), (1, .inr (.inr t)), (2, .inr (.inl b)), (4, .inl x4), (5, .inl x5), (6, .inl (H1.1 (t + 1) (x5).toNat)), (7, .inl (z_and (H1.1 (t + 1) (x5).toNat) 7))]) (st' := [.inr (.inl b), .inl (H1.1 (t + 1) (x5).toNat), .inr (.inr 363)]) rfl ?_
            have g59 : 0 ≤ (H51.1 363 3) ∧ (H51.1 363 3) ≤ 1080 := kn (x := kx_363) hI52 rfl 3
            refine h_cv (i := 38) (j := 90) (b := 363) (M' := mt_90) (xs := [.inr (.inl b), .inl (H1.1 (t + 1) (x5).toNat)]) (rest := []) rfl rfl rfl rfl (zs_K (x := kx_363) rfl (by decide)) rfl (Nat.le_of_ble_eq_true rfl) (Nat.le_of_ble_eq_true rfl) (by omega) (q_Printer_putNameOf (by omega) hI52 (by omega) (by omega)) ?_
            rintro _ H61 ⟨rfl, hI62, hq63, hx65⟩
            have hf66 : fq [(363, 3)] [364, 365] false H H61 := fq_t hf56 hq63 rfl rfl rfl
            refine k_run 0 (pc' := 70) (l' := [(0, .inr (.inr 363)), (1, .inr (.inr t)), (2, .inr (.inl b)), (4, .inl x4), (5, .inl x5), (6, .inl (H1.1 (t + 1) (x5).toNat)), (7, .inl (z_and (H1.1 (t + 1) (x5).toNat) 7))]) (st' := []) rfl ?_
            have hln9 := hx65.1
            have hlb9 := lenC_b H51 (H1.1 (t + 1) (x5).toNat)
            refine k_run 1 (pc' := 72) (l' := [(0, .inr (.inr 363)), (1, .inr (.inr t)), (2, .inr (.inl b)), (4, .inl x4), (5, .inl x5), (6, .inl (H1.1 (t + 1) (x5).toNat)), (7, .inl (z_and (H1.1 (t + 1) (x5).toNat) 7))]) (st' := [.inl (z_and (H1.1 (t + 1) (x5).toNat) 7)]) rfl ?_
            refine h_zle (off := 28) (t := 100) rfl rfl (z_int _) (fun c67 => ?_) (fun c67 => ?_)
            · refine k_run 0 (pc' := 100) (l' := [(0, .inr (.inr 363)), (1, .inr (.inr t)), (2, .inr (.inl b)), (4, .inl x4), (5, .inl x5), (6, .inl (H1.1 (t + 1) (x5).toNat)), (7, .inl (z_and (H1.1 (t + 1) (x5).toNat) 7))]) (st' := []) rfl ?_
              refine k_run 2 (pc' := 103) (l' := [(0, .inr (.inr 363)), (1, .inr (.inr t)), (2, .inr (.inl b)), (4, .inl x4), (5, .inl x5), (6, .inl (H1.1 (t + 1) (x5).toNat)), (7, .inl (z_and (H1.1 (t + 1) (x5).toNat) 7))]) (st' := [.inl x4, .inr (.inr 363)]) rfl ?_
              have g68 : 0 ≤ (H61.1 363 3) ∧ (H61.1 363 3) ≤ 1080 := kn (x := kx_363) hI62 rfl 3
              refine h_cv (i := 42) (j := 89) (b := 363) (M' := mt_89) (xs := [.inl x4]) (rest := []) rfl rfl rfl rfl (zs_K (x := kx_363) rfl (by decide)) rfl (Nat.le_of_ble_eq_true rfl) (Nat.le_of_ble_eq_true rfl) (by omega) (q_Printer_closeAll (by omega) hI62 (by omega) (by omega) (by omega) (fun k hk => by rw [((PF_tr (show PF [363, 364] _ _ from PF_fw hp54 (by simp)) hx65.2)).2 365 k (by simp)]; exact hi2.2.1 k hk)) ?_
              rintro _ H70 ⟨z75, rfl, g69, hI71, hq72, hx74⟩
              have hf76 : fq [(363, 3)] [364, 365] false H H70 := fq_t hf66 hq72 rfl rfl rfl
              refine k_run 0 (pc' := 106) (l' := [(0, .inr (.inr 363)), (1, .inr (.inr t)), (2, .inr (.inl b)), (4, .inl x4), (5, .inl x5), (6, .inl (H1.1 (t + 1) (x5).toNat)), (7, .inl (z_and (H1.1 (t + 1) (x5).toNat) 7))]) (st' := [.inl z75]) rfl ?_
              have hcp9 := hx74.1
              refine k_run 3 (pc' := 11) (l' := [(0, .inr (.inr 363)), (1, .inr (.inr t)), (2, .inr (.inl b)), (4, .inl z75), (5, .inl (x5 + 1)), (6, .inl (H1.1 (t + 1) (x5).toNat)), (7, .inl (z_and (H1.1 (t + 1) (x5).toNat) 7))]) (st' := []) rfl ?_
              have g77 : 0 ≤ (H70.1 363 3) ∧ (H70.1 363 3) ≤ 1080 := kn (x := kx_363) hI71 rfl 3
              refine h_loc [0, 1, 2, 4, 5] rfl ?_
              exact ih H70 hI71 hf76 z75 (x5 + 1) (by omega) (by omega) (by omega) (by omega) (PI_close hi2 (by omega) hw1 (by unfold aC; rw [← eC]; omega) (PF_tr (show PF [363, 364] _ _ from PF_fw hp54 (by simp)) hx65.2) (by have q9 := hx65.1; rw [lenC_cg (PF_tr hi2.1 (PF_le (show PF [363, 364] _ _ from PF_fw hp54 (by simp)) (by simp))) (by simp), show (H1.1 (t + 1) (x5).toNat) = H.1 (t + 1) x5.toNat from eC] at q9; rw [if_neg (by omega)]; omega) hx74) (by omega)
            · exfalso
              omega
          · refine k_run 0 (pc' := 57) (l' := [(0, .inr (.inr 363)), (1, .inr (.inr t)), (2, .inr (.inl b)), (4, .inl x4), (5, .inl x5), (6, .inl (H1.1 (t + 1) (x5).toNat)), (7, .inl (z_and (H1.1 (t + 1) (x5).toNat) 7))]) (st' := []) rfl ?_
            refine k_run 2 (pc' := 60) (l' := [(0, .inr (.inr 363)), (1, .inr (.inr t)), (2, .inr (.inl b)), (4, .inl x4), (5, .inl x5), (6, .inl (H1.1 (t + 1) (x5).toNat)), (7, .inl (z_and (H1.1 (t + 1) (x5).toNat) 7))]) (st' := [.inl 40, .inr (.inr 363)]) rfl ?_
            have g78 : 0 ≤ (H51.1 363 3) ∧ (H51.1 363 3) ≤ 1080 := kn (x := kx_363) hI52 rfl 3
            refine h_cv (i := 34) (j := 92) (b := 363) (M' := mt_92) (xs := [.inl 40]) (rest := []) rfl rfl rfl rfl (zs_K (x := kx_363) rfl (by decide)) rfl (Nat.le_of_ble_eq_true rfl) (Nat.le_of_ble_eq_true rfl) (by omega) (q_Printer_putByte (by omega) hI52 (by decide) (by omega)) ?_
            rintro _ H80 ⟨rfl, g79, hI81, hq82, hp83⟩
            have hf85 : fq [(363, 3)] [364, 365] false H H80 := fq_t hf56 hq82 rfl rfl rfl
            refine k_run 0 (pc' := 63) (l' := [(0, .inr (.inr 363)), (1, .inr (.inr t)), (2, .inr (.inl b)), (4, .inl x4), (5, .inl x5), (6, .inl (H1.1 (t + 1) (x5).toNat)), (7, .inl (z_and (H1.1 (t + 1) (x5).toNat) 7))]) (st' := []) rfl ?_
            refine k_run 3 (pc' := 67) (l' := [(0, .inr (.inr 363)), (1, .inr (.inr t)), (2, .inr (.inl b)), (4, .inl x4), (5, .inl x5), (6, .inl (H1.1 (t + 1) (x5).toNat)), (7, .inl (z_and (H1.1 (t + 1) (x5).toNat) 7))]) (st' := [.inr (.inl b), .inl (H1.1 (t + 1) (x5).toNat), .inr (.inr 363)]) rfl ?_
            have g86 : 0 ≤ (H80.1 363 3) ∧ (H80.1 363 3) ≤ 1080 := kn (x := kx_363) hI81 rfl 3
            refine h_cv (i := 38) (j := 90) (b := 363) (M' := mt_90) (xs := [.inr (.inl b), .inl (H1.1 (t + 1) (x5).toNat)]) (rest := []) rfl rfl rfl rfl (zs_K (x := kx_363) rfl (by decide)) rfl (Nat.le_of_ble_eq_true rfl) (Nat.le_of_ble_eq_true rfl) (by omega) (q_Printer_putNameOf (by omega) hI81 (by omega) (by omega)) ?_
            rintro _ H88 ⟨rfl, hI89, hq90, hx92⟩
            have hf93 : fq [(363, 3)] [364, 365] false H H88 := fq_t hf85 hq90 rfl rfl rfl
            refine k_run 0 (pc' := 70) (l' := [(0, .inr (.inr 363)), (1, .inr (.inr t)), (2, .inr (.inl b)), (4, .inl x4), (5, .inl x5), (6, .inl (H1.1 (t + 1) (x5).toNat)), (7, .inl (z_and (H1.1 (t + 1) (x5).toNat) 7))]) (st' := []) rfl ?_
            have hln9 := hx92.1
            have hlb9 := lenC_b H80 (H1.1 (t + 1) (x5).toNat)
            refine k_run 1 (pc' := 72) (l' := [(0, .inr (.inr 363)), (1, .inr (.inr t)), (2, .inr (.inl b)), (4, .inl x4), (5, .inl x5), (6, .inl (H1.1 (t + 1) (x5).toNat)), (7, .inl (z_and (H1.1 (t + 1) (x5).toNat) 7))]) (st' := [.inl (z_and (H1.1 (t + 1) (x5).toNat) 7)]) rfl ?_
            refine h_zle (off := 28) (t := 100) rfl rfl (z_int _) (fun c94 => ?_) (fun c94 => ?_)
            · exfalso
              omega
            · refine k_run 0 (pc' := 75) (l' := [(0, .inr (.inr 363)), (1, .inr (.inr t)), (2, .inr (.inl b)), (4, .inl x4), (5, .inl x5), (6, .inl (H1.1 (t + 1) (x5).toNat)), (7, .inl (z_and (H1.1 (t + 1) (x5).toNat) 7))]) (st' := []) rfl ?_
              refine k_run 3 (pc' := 81) (l' := [(0, .inr (.inr 363)), (1, .inr (.inr t)), (2, .inr (.inl b)), (4, .inl x4), (5, .inl x5), (6, .inl (H1.1 (t + 1) (x5).toNat)), (7, .inl (z_and (H1.1 (t + 1) (x5).toNat) 7))]) (st' := [.inr (.inr 365), .inl x4]) rfl ?_
              refine k_alen (c := 365) (x := kx_365) rfl rfl (by decide) rfl ?_
              refine k_run 0 (pc' := 82) (l' := [(0, .inr (.inr 363)), (1, .inr (.inr t)), (2, .inr (.inl b)), (4, .inl x4), (5, .inl x5), (6, .inl (H1.1 (t + 1) (x5).toNat)), (7, .inl (z_and (H1.1 (t + 1) (x5).toNat) 7))]) (st' := [.inl 120, .inl x4]) rfl ?_
              refine h_ige (off := 18) (t := 100) rfl rfl (by omega) (by decide) (fun c95 => ?_) (fun c95 => ?_)
              · refine k_run 0 (pc' := 100) (l' := [(0, .inr (.inr 363)), (1, .inr (.inr t)), (2, .inr (.inl b)), (4, .inl x4), (5, .inl x5), (6, .inl (H1.1 (t + 1) (x5).toNat)), (7, .inl (z_and (H1.1 (t + 1) (x5).toNat) 7))]) (st' := []) rfl ?_
                refine k_run 2 (pc' := 103) (l' := [(0, .inr (.inr 363)), (1, .inr (.inr t)), (2, .inr (.inl b)), (4, .inl x4), (5, .inl x5), (6, .inl (H1.1 (t + 1) (x5).toNat)), (7, .inl (z_and (H1.1 (t + 1) (x5).toNat) 7))]) (st' := [.inl x4, .inr (.inr 363)]) rfl ?_
                have g96 : 0 ≤ (H88.1 363 3) ∧ (H88.1 363 3) ≤ 1080 := kn (x := kx_363) hI89 rfl 3
                refine h_cv (i := 42) (j := 89) (b := 363) (M' := mt_89) (xs := [.inl x4]) (rest := []) rfl rfl rfl rfl (zs_K (x := kx_363) rfl (by decide)) rfl (Nat.le_of_ble_eq_true rfl) (Nat.le_of_ble_eq_true rfl) (by omega) (q_Printer_closeAll (by omega) hI89 (by omega) (by omega) (by omega) (fun k hk => by rw [((PF_tr (PF_tr (show PF [363, 364] _ _ from PF_fw hp54 (by simp)) (show PF [363, 364] _ _ from PF_fw hp83 (by simp))) hx92.2)).2 365 k (by simp)]; exact hi2.2.1 k hk)) ?_
                rintro _ H98 ⟨z103, rfl, g97, hI99, hq100, hx102⟩
                have hf104 : fq [(363, 3)] [364, 365] false H H98 := fq_t hf93 hq100 rfl rfl rfl
                refine k_run 0 (pc' := 106) (l' := [(0, .inr (.inr 363)), (1, .inr (.inr t)), (2, .inr (.inl b)), (4, .inl x4), (5, .inl x5), (6, .inl (H1.1 (t + 1) (x5).toNat)), (7, .inl (z_and (H1.1 (t + 1) (x5).toNat) 7))]) (st' := [.inl z103]) rfl ?_
                have hcp9 := hx102.1
                refine k_run 3 (pc' := 11) (l' := [(0, .inr (.inr 363)), (1, .inr (.inr t)), (2, .inr (.inl b)), (4, .inl z103), (5, .inl (x5 + 1)), (6, .inl (H1.1 (t + 1) (x5).toNat)), (7, .inl (z_and (H1.1 (t + 1) (x5).toNat) 7))]) (st' := []) rfl ?_
                have g105 : 0 ≤ (H98.1 363 3) ∧ (H98.1 363 3) ≤ 1080 := kn (x := kx_363) hI99 rfl 3
                refine h_loc [0, 1, 2, 4, 5] rfl ?_
                exact ih H98 hI99 hf104 z103 (x5 + 1) (by omega) (by omega) (by omega) (by omega) (PI_close hi2 (by omega) hw1 (by unfold aC; rw [← eC]; omega) (PF_tr (PF_tr (show PF [363, 364] _ _ from PF_fw hp54 (by simp)) (show PF [363, 364] _ _ from PF_fw hp83 (by simp))) hx92.2) (by have q9 := hx92.1; rw [lenC_cg (PF_tr hi2.1 (PF_le (PF_tr (show PF [363, 364] _ _ from PF_fw hp54 (by simp)) (show PF [363, 364] _ _ from PF_fw hp83 (by simp))) (by simp))) (by simp), show (H1.1 (t + 1) (x5).toNat) = H.1 (t + 1) x5.toNat from eC] at q9; rw [if_neg (by omega)]; omega) hx102) (by omega)
              · refine k_run 0 (pc' := 85) (l' := [(0, .inr (.inr 363)), (1, .inr (.inr t)), (2, .inr (.inl b)), (4, .inl x4), (5, .inl x5), (6, .inl (H1.1 (t + 1) (x5).toNat)), (7, .inl (z_and (H1.1 (t + 1) (x5).toNat) 7))]) (st' := []) rfl ?_
                refine k_run 4 (pc' := 93) (l' := [(0, .inr (.inr 363)), (1, .inr (.inr t)), (2, .inr (.inl b)), (4, .inl x4), (5, .inl x5), (6, .inl (H1.1 (t + 1) (x5).toNat)), (7, .inl (z_and (H1.1 (t + 1) (x5).toNat) 7))]) (st' := [.inl (z_and (H1.1 (t + 1) (x5).toNat) 7), .inl x4, .inr (.inr 365)]) rfl ?_
                refine k_ist (z := (z_and (H1.1 (t + 1) (x5).toNat) 7)) (c := 365) (j := (x4).toNat) (i := x4) (x := kx_365) rfl rfl (by decide) (by decide) rfl (by decide) (by omega) (by omega) hI89 (z_int _) (show -2147483648 ≤ (z_and (H1.1 (t + 1) (x5).toNat) 7) ∧ (z_and (H1.1 (t + 1) (x5).toNat) 7) ≤ 2147483647 by omega) (fun H106 hI107 hw108 hv109 => ?_)
                have hf110 : fq [(363, 3)] [364, 365] false H H106 := fq_w hf93 hw108 (fpa (by decide) rfl)
                refine k_run 0 (pc' := 94) (l' := [(0, .inr (.inr 363)), (1, .inr (.inr t)), (2, .inr (.inl b)), (4, .inl x4), (5, .inl x5), (6, .inl (H1.1 (t + 1) (x5).toNat)), (7, .inl (z_and (H1.1 (t + 1) (x5).toNat) 7))]) (st' := []) rfl ?_
                refine k_run 4 (pc' := 11) (l' := [(0, .inr (.inr 363)), (1, .inr (.inr t)), (2, .inr (.inl b)), (4, .inl (x4 + 1)), (5, .inl (x5 + 1)), (6, .inl (H1.1 (t + 1) (x5).toNat)), (7, .inl (z_and (H1.1 (t + 1) (x5).toNat) 7))]) (st' := []) rfl ?_
                have g111 : 0 ≤ (H106.1 363 3) ∧ (H106.1 363 3) ≤ 1080 := kn (x := kx_363) hI107 rfl 3
                have e112 : (H106.1 363 3) = (H88.1 363 3) := hw108.2 _ _ (fun q => absurd q.1 (by decide))
                refine h_loc [0, 1, 2, 4, 5] rfl ?_
                exact ih H106 hI107 hf110 (x4 + 1) (x5 + 1) (by omega) (by omega) (by omega) (by omega) (PI_push hi2 (by omega) hw1 (by unfold aC; rw [← eC]; omega) (PF_tr (PF_tr (show PF [363, 364] _ _ from PF_fw hp54 (by simp)) (show PF [363, 364] _ _ from PF_fw hp83 (by simp))) hx92.2) (by have q9 := hx92.1; rw [lenC_cg (PF_tr hi2.1 (PF_le (PF_tr (show PF [363, 364] _ _ from PF_fw hp54 (by simp)) (show PF [363, 364] _ _ from PF_fw hp83 (by simp))) (by simp))) (by simp), show (H1.1 (t + 1) (x5).toNat) = H.1 (t + 1) x5.toNat from eC] at q9; rw [if_neg (by omega)]; omega) hw108 (by rw [hv109]; unfold aC; rw [← eC])) (by omega)
set_option maxRecDepth 100000 in
theorem q_Printer_print {d : Nat} (hd : 4 ≤ d) {H : hp} (hI : Inv H) {t n : Nat} {b : Int} (ht : isT t n) (ht9 : (25 ≤ t ∧ t + 1 < 361) ∨ 366 < t) (hsz : 1 ≤ H.1 t 1 ∧ H.1 t 1 ≤ 40) (hw9 : ∀ i : Nat, (i : Int) < H.1 t 1 → 1 ≤ wn aC (H.1 (t + 1)) i) (hw0 : wn aC (H.1 (t + 1)) (H.1 t 1).toNat = 0) : hG (zs zK) d mt_88 0 (zargs 0 [.inr (.inr 363), .inr (.inr t), .inr (.inl b)]) [] H (fun r9 H9 => ∃ z : Int, r9 = some (.inl z) ∧ ((-2147483648 ≤ z ∧ z ≤ 2147483647)) ∧ Inv H9 ∧ fq [(363, 3)] [364, 365] false H H9 ∧ (z = bs aC (lenC H) (H.1 (t + 1)) (H.1 t 1).toNat ∧ PF [363, 364, 365] H H9)) := by
  have htb := ht.2.2.2.2
  refine k_run 0 (pc' := 0) (l' := [(0, .inr (.inr 363)), (1, .inr (.inr t)), (2, .inr (.inl b))]) (st' := []) rfl ?_
  refine k_run 2 (pc' := 2) (l' := [(0, .inr (.inr 363)), (1, .inr (.inr t)), (2, .inr (.inl b))]) (st' := [.inl 0, .inr (.inr 363)]) rfl ?_
  refine k_puti (z := 0) (a := 363) (x := kx_363) rfl rfl rfl (by decide) (by decide) rfl rfl rfl rfl hI (by decide) (show 0 ≤ (0 : Int) ∧ (0 : Int) ≤ 1080 by omega) (fun H1 hI2 hw3 hv4 => ?_)
  have hf5 : fq [(363, 3)] [364, 365] false H H1 := fq_w (fq_rf _ _ _ _) hw3 (fpo (by decide) rfl)
  refine k_run 0 (pc' := 5) (l' := [(0, .inr (.inr 363)), (1, .inr (.inr t)), (2, .inr (.inl b))]) (st' := []) rfl ?_
  refine k_run 4 (pc' := 11) (l' := [(0, .inr (.inr 363)), (1, .inr (.inr t)), (2, .inr (.inl b)), (4, .inl 0), (5, .inl 0)]) (st' := []) rfl ?_
  have g6 : 0 ≤ (H1.1 363 3) ∧ (H1.1 363 3) ≤ 1080 := kn (x := kx_363) hI2 rfl 3
  exact (q_Printer_print_cut hd hI ht ht9 hsz hw9 hw0 _) H1 hI2 hf5 (0 : Int) (0 : Int) (by decide) (by decide) (by omega) (by omega) (PI_0 hw3 hv4) (Nat.lt_succ_self _)
