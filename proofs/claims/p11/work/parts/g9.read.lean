/-! the class's reader: terms, as the machine reads them -/
theorem RT_adv {Y : yx} {q : Nat} {H H1 : hp} {X : rx} {ps : List (Nat × Nat)} (h : RT Y q H X) (f : fw ps H H1) (hp : ∀ p ∈ ps, p.1 = 361 ∧ (p.2 = 3 ∨ p.2 = 4 ∨ p.2 = 5)) (ha : H1.1 361 3 = H.1 361 3 + 1) (hl : X 0 0 < q) : RT Y q H1 (adv X) := by
  obtain ⟨hB, ⟨v1, ⟨k, hk, ek⟩, v3⟩, s1, s2, s3⟩ := h
  have e2 : H1.2 = H.2 := f.1
  have g : ∀ c j, c ≠ 361 → H1.1 c j = H.1 c j := fun c j hc => f.2 c j (fun m => hc (hp _ m).1)
  have g6 : ∀ j, 5 < j → H1.1 361 j = H.1 361 j := fun j hj => f.2 361 j (fun m => by have := (hp _ m).2; simp only at this; omega)
  obtain ⟨-, -, n1, n2, -, -, -⟩ := TQ_nB s1 0
  have e : ∀ c, c ≠ 0 → adv X c = X c := fun c hc => xu_ne _ _ _ hc
  have e0 : ∀ j, j ≠ 0 → adv X 0 j = X 0 j := fun j hj => xu_0 _ _ (fun q => hj q.2)
  refine ⟨RB_adv hB f (fun p m => by have := (hp p m).1; unfold nB nT; omega) ha hl, ⟨?_, ?_, fun hm => ?_⟩, ?_, ?_, fun j hj => ?_⟩
  · rw [e0 8 (by decide), g6 6 (by decide)]
    exact v1
  · rw [e2]
    exact ⟨k, hk, ek⟩
  · rw [e0 8 (by decide)] at hm
    rw [e0 1 (by decide), e 10 (by decide), e 11 (by decide), e2, g6 9 (by decide)]
    obtain ⟨w1, w2⟩ := v3 hm
    refine ⟨w1, fun v hv => ?_⟩
    rw [g 362 v (by decide), g _ v (by omega)]
    exact w2 v hv
  · rw [e2]
    exact s1
  · rw [e2, e0 2 (by decide), g _ _ n1]
    exact s2
  · rw [e0 2 (by decide)] at hj
    rw [e2, e 13 (by decide), kcd_cg (X := X) (e 4 (by decide)) (e 8 (by decide)), g _ _ n2]
    exact s3 j hj
theorem n3 : ∀ p ∈ [(361, 3)], p.1 = 361 ∧ (p.2 = 3 ∨ p.2 = 4 ∨ p.2 = 5) := by
  intro p hp
  simp only [List.mem_cons, List.not_mem_nil, or_false] at hp
  subst hp
  simp
theorem n345 : ∀ p ∈ [(361, 3), (361, 4), (361, 5)], p.1 = 361 ∧ (p.2 = 3 ∨ p.2 = 4 ∨ p.2 = 5) := by
  intro p hp
  simp only [List.mem_cons, List.not_mem_nil, or_false] at hp
  rcases hp with rfl | rfl | rfl <;> simp
theorem nT345 : ∀ p ∈ [(361, 3), (361, 4), (361, 5)], nT p := by
  intro p hp
  have := (n345 p hp).1
  unfold nT
  omega
theorem nX345 (H : hp) : ∀ p ∈ [(361, 3), (361, 4), (361, 5)], nX H p := by
  intro p hp
  simp only [List.mem_cons, List.not_mem_nil, or_false] at hp
  rcases hp with rfl | rfl | rfl <;> exact nX_no (by omega) (by omega)
theorem RB_f {Y : yx} {q : Nat} {H : hp} {X : rx} {x : Int} (h : RB Y q H X) (h0 : 0 ≤ x) (hx : x < H.1 18 4) : ar X (100 + x) = H.1 21 x.toNat ∧ X 8 x.toNat = H.1 21 x.toNat ∧ X 7 x.toNat = H.1 20 x.toNat ∧ ∀ k : Int, 0 ≤ k → k < H.1 21 x.toNat → aty9 X (100 + x) k = H.1 22 (4 * x + k).toNat := by
  have hc := h.2.1.1.2.2.1
  obtain ⟨-, h1, h2, h3⟩ := h.2.1.2.2.2.1 x.toNat (by omega)
  refine ⟨?_, h2.symm, h1.symm, fun k k0 k1 => ?_⟩
  · unfold ar
    rw [if_pos (by omega), show 100 + x - 100 = x by omega, h2]
  · unfold aty9
    rw [if_pos (by omega), show 4 * (100 + x - 100) + k = 4 * x + k by omega]
    have h4 := h3 k.toNat (by omega)
    rw [show 4 * x.toNat + k.toNat = (4 * x + k).toNat by omega] at h4
    exact h4.symm
theorem RB_c {Y : yx} {q : Nat} {H : hp} {X : rx} {x : Int} (h : RB Y q H X) (h0 : 0 ≤ x ∧ x < 90) (hx : x < H.1 13 4) : ar X (1 + x) = H.1 16 x.toNat ∧ X 4 x.toNat = H.1 16 x.toNat ∧ X 3 x.toNat = H.1 15 x.toNat ∧ ∀ k : Int, 0 ≤ k → k < H.1 16 x.toNat → aty9 X (1 + x) k = H.1 17 (4 * x + k).toNat := by
  have hc := h.2.1.1.2.1
  obtain ⟨-, h1, h2, h3⟩ := h.2.1.2.2.1 x.toNat (by omega)
  refine ⟨?_, h2.symm, h1.symm, fun k k0 k1 => ?_⟩
  · unfold ar
    rw [if_neg (by omega), show 1 + x - 1 = x by omega, h2]
  · unfold aty9
    rw [if_neg (by omega), show 4 * (1 + x - 1) + k = 4 * x + k by omega]
    have h4 := h3 k.toNat (by omega)
    rw [show 4 * x.toNat + k.toNat = (4 * x + k).toNat by omega] at h4
    exact h4.symm
theorem ffd_b (Y : yx) (X : rx) : -1 ≤ ffd Y X ∧ (ffd Y X < 0 ∨ (0 ≤ ffd Y X ∧ ffd Y X < X 0 5)) := by
  have h := fnd_b (X 6) (X 0 5) (tn Y (xi X))
  exact ⟨h.1, h.2.imp id (fun q => ⟨q.1, q.2.1⟩)⟩
theorem cfd_b (Y : yx) (X : rx) : -1 ≤ cfd Y X ∧ (cfd Y X < 0 ∨ (0 ≤ cfd Y X ∧ cfd Y X < X 0 4)) := by
  have h := fnd_b (X 2) (X 0 4) (tn Y (xi X))
  exact ⟨h.1, h.2.imp id (fun q => ⟨q.1, q.2.1⟩)⟩

/-- a term is read at depth b with 10 - b ≤ m, as the machine reads it -/
def RTf (m : Nat) : Prop := ∀ {Y : yx} {q : Nat} {c0 : cf} {K : List tq} {X : rx} {d : Nat} (_ : 3 * m + 10 ≤ d) {H : hp} (_ : Inv H) {a b c : Int} (_ : -2147483648 ≤ a ∧ a ≤ 2147483647) (_ : -2147483648 ≤ b ∧ b ≤ 2147483647) (_ : 0 ≤ c ∧ c ≤ 1) (_ : -2 ≤ a ∧ a ≤ 100 ∧ 0 ≤ b ∧ b ≤ 10 ∧ 10 ≤ b + (m : Int)) (_ : RT Y q H X) (_ : rch Y c0 ((2, a, b, c) :: K, X)), hG (zs zK) d mt_73 0 (zargs 0 [.inr (.inr 361), .inl a, .inl b, .inl c]) [] H (fun r9 H9 => ∃ z : Int, r9 = some (.inl z) ∧ ((0 ≤ z ∧ z ≤ 1)) ∧ Inv H9 ∧ fq [(361, 3), (361, 4), (361, 5), (361, 9)] [362] true H H9 ∧ ((OT Y q c0 K (PW9 a X) z H9) ∧ NL H H9))
def RT1f (m : Nat) : Prop := ∀ {Y : yx} {q : Nat} {c0 : cf} {K : List tq} {X : rx} {d : Nat} (_ : 3 * m + 8 ≤ d) {H : hp} (_ : Inv H) {a b : Int} (_ : -2147483648 ≤ a ∧ a ≤ 2147483647) (_ : -2147483648 ≤ b ∧ b ≤ 2147483647) (_ : -2 ≤ a ∧ a ≤ 100 ∧ 0 ≤ b ∧ b ≤ 10 ∧ 10 ≤ b + (m : Int)) (_ : RT Y q H X) (_ : rch Y c0 ((2, a, b, 1) :: K, X)), hG (zs zK) d mt_73 0 (zargs 0 [.inr (.inr 361), .inl a, .inl b, .inl 1]) [] H (fun r9 H9 => ∃ z : Int, r9 = some (.inl z) ∧ ((0 ≤ z ∧ z ≤ 1)) ∧ Inv H9 ∧ fq [(361, 3), (361, 4), (361, 5), (361, 9)] [362] true H H9 ∧ ((OT Y q c0 K (PW9 a X) z H9) ∧ NL H H9))
def RA2f (m : Nat) : Prop := ∀ {Y : yx} {q : Nat} {c0 : cf} {K : List tq} {X : rx} {d : Nat} (_ : 3 * m + 9 ≤ d) {H : hp} (_ : Inv H) {x a b c : Int} (_ : -2147483648 ≤ x ∧ x ≤ 2147483647) (_ : -2147483648 ≤ a ∧ a ≤ 2147483647) (_ : -2147483648 ≤ b ∧ b ≤ 2147483647) (_ : 0 ≤ c ∧ c ≤ 1) (_ : 0 ≤ x ∧ x < 16) (_ : -2 ≤ a ∧ a ≤ 100 ∧ 0 ≤ b ∧ b ≤ 10 ∧ 10 ≤ b + (m : Int)) (_ : RT Y q H X) (_ : rch Y c0 ((2, a, b, c) :: K, X)) (_ : tk Y (xi X) = 2) (_ : ffd Y X = x), hG (zs zK) d mt_74 0 (zargs 0 [.inr (.inr 361), .inl 2, .inl x, .inl a, .inl b, .inl c]) [] H (fun r9 H9 => ∃ z : Int, r9 = some (.inl z) ∧ ((0 ≤ z ∧ z ≤ 1)) ∧ Inv H9 ∧ fq [(361, 3), (361, 4), (361, 5), (361, 9)] [362] true H H9 ∧ ((OT Y q c0 K (PW9 a X) z H9) ∧ NL H H9))
def RA1f (m : Nat) : Prop := ∀ {Y : yx} {q : Nat} {c0 : cf} {K : List tq} {X : rx} {d : Nat} (_ : 3 * m + 9 ≤ d) {H : hp} (_ : Inv H) {x a b c : Int} (_ : -2147483648 ≤ x ∧ x ≤ 2147483647) (_ : -2147483648 ≤ a ∧ a ≤ 2147483647) (_ : -2147483648 ≤ b ∧ b ≤ 2147483647) (_ : 0 ≤ c ∧ c ≤ 1) (_ : 0 ≤ x ∧ x < 16) (_ : -2 ≤ a ∧ a ≤ 100 ∧ 0 ≤ b ∧ b ≤ 10 ∧ 10 ≤ b + (m : Int)) (_ : RT Y q H X) (_ : rch Y c0 ((2, a, b, c) :: K, X)) (_ : tk Y (xi X) = 3) (_ : cfd Y X = x), hG (zs zK) d mt_74 0 (zargs 0 [.inr (.inr 361), .inl 1, .inl x, .inl a, .inl b, .inl c]) [] H (fun r9 H9 => ∃ z : Int, r9 = some (.inl z) ∧ ((0 ≤ z ∧ z ≤ 1)) ∧ Inv H9 ∧ fq [(361, 3), (361, 4), (361, 5), (361, 9)] [362] true H H9 ∧ ((OT Y q c0 K (PW9 a X) z H9) ∧ NL H H9))

/-! Reader.readApplied -/
set_option maxRecDepth 100000 in
theorem q_readApplied_a2_cut {Y : yx} {q : Nat} {c0 : cf} {K : List tq} {X : rx} {d : Nat} (hd : 3 ≤ d) {H : hp} (hI : Inv H) {x : Int} {a : Int} {b : Int} (hx : -2147483648 ≤ x ∧ x ≤ 2147483647) (ha : -2147483648 ≤ a ∧ a ≤ 2147483647) (hb : -2147483648 ≤ b ∧ b ≤ 2147483647) (hp0 : 0 ≤ x ∧ x < 16) (hp1 : -2 ≤ a ∧ a ≤ 100 ∧ 0 ≤ b ∧ b ≤ 10) (hR : RT Y q H X) (hX : rch Y c0 ((2, a, b, 1) :: K, X)) (h2 : tk Y (xi X) = 2) (hf9 : ffd Y X = x) : ∀ w : Nat, (∀ (H1 : hp), Inv H1 → fq [(361, 3), (361, 4), (361, 5), (361, 9)] [362] true H H1 → ∀ (x7 : Int) (x8 : Int) (x9 : Int) , (-2147483648 ≤ x7 ∧ x7 ≤ 2147483647) → (-2147483648 ≤ x8 ∧ x8 ≤ 2147483647) → (-2147483648 ≤ x9 ∧ x9 ≤ 2147483647) → (x7 = H.1 21 x.toNat) → (0 ≤ x9) → (x7 ≤ 4) → (0 ≤ x8 ∧ x8 ≤ 1) → ((x8 = 1 ∧ x9 ≤ x7 ∧ ∃ X1 : rx, rch Y c0 ((3, (100 + x), x9, b) :: K, X1) ∧ RT Y q H1 X1 ∧ PW9 a X X1) ∨ (x8 = 0 ∧ FB Y c0 H1)) → (NL H H1) → (x7 ≤ 0) → (((100 - x9).toNat) < w) → hG (zs zK) d mt_74 86 [(0, .inr (.inr 361)), (1, .inl 2), (2, .inl x), (3, .inl a), (4, .inl b), (5, .inl 1), (6, .inr (.inr 18)), (7, .inl x7), (8, .inl x8), (9, .inl x9)] [] H1 (fun r9 H9 => ∃ z : Int, r9 = some (.inl z) ∧ ((0 ≤ z ∧ z ≤ 1)) ∧ Inv H9 ∧ fq [(361, 3), (361, 4), (361, 5), (361, 9)] [362] true H H9 ∧ ((OT Y q c0 K (PW9 a X) z H9) ∧ NL H H9))) := by
  intro w
  induction w with
  | zero => exact fun _ _ _ _ _ _ _ _ _ _ _ _ _ _ _ _ h => absurd h (Nat.not_lt_zero _)
  | succ w ih =>
    intro H1 hI1 hf1 x7 x8 x9 hx7 hx8 hx9 hi0 hi1 hi2 hi3 hi4 hi5 hi6 hw
    obtain ⟨Q9, hQ9⟩ : ∃ Q9 : Option zv → hp → Prop, Q9 = (fun r9 H9 => ∃ z : Int, r9 = some (.inl z) ∧ ((0 ≤ z ∧ z ≤ 1)) ∧ Inv H9 ∧ fq [(361, 3), (361, 4), (361, 5), (361, 9)] [362] true H H9 ∧ ((OT Y q c0 K (PW9 a X) z H9) ∧ NL H H9)) := ⟨_, rfl⟩
    rw [← hQ9]
    obtain ⟨hB, hV, hS⟩ := id hR
    have hpa := RB_pa hB
    have htk := RB_tk hB
    obtain ⟨kE, hkE, hEE⟩ := hV.2.1
    have hmo := hV.1
    have hsz := hS.2.1
    have hb9 := ffd_b Y X
    have hcn := hB.2.1.1.2.2.1
    have hlt : x < H.1 18 4 := by omega
    obtain ⟨ha1, ha2, ha3, ha4⟩ := RB_f hB (by omega) hlt
    have f18 : H1.1 18 4 = H.1 18 4 := (hf1.1 18 4 rfl (by decide) (by decide)).1
    have f21 : H1.1 21 x.toNat = H.1 21 x.toNat := (hf1.1 21 _ rfl (by decide) (fun q => by simp at q)).1
    refine k_run 1 (pc' := 88) (l' := [(0, .inr (.inr 361)), (1, .inl 2), (2, .inl x), (3, .inl a), (4, .inl b), (5, .inl 1), (6, .inr (.inr 18)), (7, .inl x7), (8, .inl x8), (9, .inl x9)]) (st' := [.inl x8]) rfl ?_
    refine h_zeq (off := 33) (t := 121) rfl rfl (by omega) (fun c60 => ?_) (fun c60 => ?_)
    · refine k_run 0 (pc' := 121) (l' := [(0, .inr (.inr 361)), (1, .inl 2), (2, .inl x), (3, .inl a), (4, .inl b), (5, .inl 1), (6, .inr (.inr 18)), (7, .inl x7), (8, .inl x8), (9, .inl x9)]) (st' := []) rfl ?_
      refine k_run 1 (pc' := 123) (l' := [(0, .inr (.inr 361)), (1, .inl 2), (2, .inl x), (3, .inl a), (4, .inl b), (5, .inl 1), (6, .inr (.inr 18)), (7, .inl x7), (8, .inl x8), (9, .inl x9)]) (st' := [.inl x8]) rfl ?_
      refine h_retz (x := x8) rfl rfl (by omega) ?_
      rw [hQ9]
      exact ⟨_, rfl, (by omega), hI1, hf1, (by first | (exfalso; omega) | exact ⟨hi4.elim (fun e => Or.inl ⟨e.1, e.2.2.imp (fun X1 g => ⟨rch_st g.1 (by show (if x9 < ar X1 (100 + x) then _ else _) = _; rw [if_neg (by rw [(RB_f (x := x) g.2.1.1 (by omega) (by omega)).1]; omega)]), g.2.1, g.2.2⟩)⟩) (fun e => Or.inr e), hi5⟩)⟩
    · refine k_run 0 (pc' := 91) (l' := [(0, .inr (.inr 361)), (1, .inl 2), (2, .inl x), (3, .inl a), (4, .inl b), (5, .inl 1), (6, .inr (.inr 18)), (7, .inl x7), (8, .inl x8), (9, .inl x9)]) (st' := []) rfl ?_
      refine k_run 2 (pc' := 95) (l' := [(0, .inr (.inr 361)), (1, .inl 2), (2, .inl x), (3, .inl a), (4, .inl b), (5, .inl 1), (6, .inr (.inr 18)), (7, .inl x7), (8, .inl x8), (9, .inl x9)]) (st' := [.inl x7, .inl x9]) rfl ?_
      refine h_ige (off := 26) (t := 121) rfl rfl (by omega) (by omega) (fun c61 => ?_) (fun c61 => ?_)
      · refine k_run 0 (pc' := 121) (l' := [(0, .inr (.inr 361)), (1, .inl 2), (2, .inl x), (3, .inl a), (4, .inl b), (5, .inl 1), (6, .inr (.inr 18)), (7, .inl x7), (8, .inl x8), (9, .inl x9)]) (st' := []) rfl ?_
        refine k_run 1 (pc' := 123) (l' := [(0, .inr (.inr 361)), (1, .inl 2), (2, .inl x), (3, .inl a), (4, .inl b), (5, .inl 1), (6, .inr (.inr 18)), (7, .inl x7), (8, .inl x8), (9, .inl x9)]) (st' := [.inl x8]) rfl ?_
        refine h_retz (x := x8) rfl rfl (by omega) ?_
        rw [hQ9]
        exact ⟨_, rfl, (by omega), hI1, hf1, (by first | (exfalso; omega) | exact ⟨hi4.elim (fun e => Or.inl ⟨e.1, e.2.2.imp (fun X1 g => ⟨rch_st g.1 (by show (if x9 < ar X1 (100 + x) then _ else _) = _; rw [if_neg (by rw [(RB_f (x := x) g.2.1.1 (by omega) (by omega)).1]; omega)]), g.2.1, g.2.2⟩)⟩) (fun e => Or.inr e), hi5⟩)⟩
      · refine k_run 0 (pc' := 98) (l' := [(0, .inr (.inr 361)), (1, .inl 2), (2, .inl x), (3, .inl a), (4, .inl b), (5, .inl 1), (6, .inr (.inr 18)), (7, .inl x7), (8, .inl x8), (9, .inl x9)]) (st' := []) rfl ?_
        exfalso
        omega
set_option maxRecDepth 100000 in
theorem q_readApplied_a2 {Y : yx} {q : Nat} {c0 : cf} {K : List tq} {X : rx} {d : Nat} (hd : 3 ≤ d) {H : hp} (hI : Inv H) {x : Int} {a : Int} {b : Int} (hx : -2147483648 ≤ x ∧ x ≤ 2147483647) (ha : -2147483648 ≤ a ∧ a ≤ 2147483647) (hb : -2147483648 ≤ b ∧ b ≤ 2147483647) (hp0 : 0 ≤ x ∧ x < 16) (hp1 : -2 ≤ a ∧ a ≤ 100 ∧ 0 ≤ b ∧ b ≤ 10) (hR : RT Y q H X) (hX : rch Y c0 ((2, a, b, 1) :: K, X)) (h2 : tk Y (xi X) = 2) (hf9 : ffd Y X = x) : hG (zs zK) d mt_74 0 (zargs 0 [.inr (.inr 361), .inl 2, .inl x, .inl a, .inl b, .inl 1]) [] H (fun r9 H9 => ∃ z : Int, r9 = some (.inl z) ∧ ((0 ≤ z ∧ z ≤ 1)) ∧ Inv H9 ∧ fq [(361, 3), (361, 4), (361, 5), (361, 9)] [362] true H H9 ∧ ((OT Y q c0 K (PW9 a X) z H9) ∧ NL H H9)) := by
  obtain ⟨hB, hV, hS⟩ := id hR
  have hpa := RB_pa hB
  have htk := RB_tk hB
  obtain ⟨kE, hkE, hEE⟩ := hV.2.1
  have hmo := hV.1
  have hsz := hS.2.1
  have hb9 := ffd_b Y X
  have hcn := hB.2.1.1.2.2.1
  have hlt : x < H.1 18 4 := by omega
  obtain ⟨ha1, ha2, ha3, ha4⟩ := RB_f hB (by omega) hlt
  obtain ⟨Q9, hQ9⟩ : ∃ Q9 : Option zv → hp → Prop, Q9 = (fun r9 H9 => ∃ z : Int, r9 = some (.inl z) ∧ ((0 ≤ z ∧ z ≤ 1)) ∧ Inv H9 ∧ fq [(361, 3), (361, 4), (361, 5), (361, 9)] [362] true H H9 ∧ ((OT Y q c0 K (PW9 a X) z H9) ∧ NL H H9)) := ⟨_, rfl⟩
  rw [← hQ9]
  refine k_run 0 (pc' := 0) (l' := [(0, .inr (.inr 361)), (1, .inl 2), (2, .inl x), (3, .inl a), (4, .inl b), (5, .inl 1)]) (st' := []) rfl ?_
  refine k_run 2 (pc' := 2) (l' := [(0, .inr (.inr 361)), (1, .inl 2), (2, .inl x), (3, .inl a), (4, .inl b), (5, .inl 1)]) (st' := [.inl 2, .inl 2]) rfl ?_
  refine h_ine (off := 13) (t := 15) rfl rfl (by decide) (by decide) (fun c => absurd c (by decide)) (fun _ => ?_)
  refine k_run 0 (pc' := 5) (l' := [(0, .inr (.inr 361)), (1, .inl 2), (2, .inl x), (3, .inl a), (4, .inl b), (5, .inl 1)]) (st' := []) rfl ?_
  refine k_run 8 (pc' := 30) (l' := [(0, .inr (.inr 361)), (1, .inl 2), (2, .inl x), (3, .inl a), (4, .inl b), (5, .inl 1), (6, .inr (.inr 18))]) (st' := [.inl x, .inr (.inr 21)]) rfl ?_
  refine k_ild (c := 21) (j := (x).toNat) (i := x) (x := kx_21) rfl rfl (by decide) rfl (by decide) (by omega) (by omega) ?_
  have g1 : 0 ≤ (H.1 21 (x).toNat) ∧ (H.1 21 (x).toNat) ≤ 4 := kn (x := kx_21) hI rfl (x).toNat
  refine k_run 0 (pc' := 31) (l' := [(0, .inr (.inr 361)), (1, .inl 2), (2, .inl x), (3, .inl a), (4, .inl b), (5, .inl 1), (6, .inr (.inr 18))]) (st' := [.inl (H.1 21 (x).toNat)]) rfl ?_
  refine k_run 2 (pc' := 35) (l' := [(0, .inr (.inr 361)), (1, .inl 2), (2, .inl x), (3, .inl a), (4, .inl b), (5, .inl 1), (6, .inr (.inr 18)), (7, .inl (H.1 21 (x).toNat))]) (st' := [.inl 1]) rfl ?_
  refine h_zeq (off := 14) (t := 49) rfl rfl (by decide) (fun c => absurd c (by decide)) (fun _ => ?_)
  refine k_run 0 (pc' := 38) (l' := [(0, .inr (.inr 361)), (1, .inl 2), (2, .inl x), (3, .inl a), (4, .inl b), (5, .inl 1), (6, .inr (.inr 18)), (7, .inl (H.1 21 (x).toNat))]) (st' := []) rfl ?_
  refine k_run 1 (pc' := 40) (l' := [(0, .inr (.inr 361)), (1, .inl 2), (2, .inl x), (3, .inl a), (4, .inl b), (5, .inl 1), (6, .inr (.inr 18)), (7, .inl (H.1 21 (x).toNat))]) (st' := [.inl (H.1 21 (x).toNat)]) rfl ?_
  refine h_zle (off := 9) (t := 49) rfl rfl (by omega) (fun c2 => ?_) (fun c2 => ?_)
  · refine k_run 0 (pc' := 49) (l' := [(0, .inr (.inr 361)), (1, .inl 2), (2, .inl x), (3, .inl a), (4, .inl b), (5, .inl 1), (6, .inr (.inr 18)), (7, .inl (H.1 21 (x).toNat))]) (st' := []) rfl ?_
    refine k_run 1 (pc' := 50) (l' := [(0, .inr (.inr 361)), (1, .inl 2), (2, .inl x), (3, .inl a), (4, .inl b), (5, .inl 1), (6, .inr (.inr 18)), (7, .inl (H.1 21 (x).toNat))]) (st' := [.inl a]) rfl ?_
    refine h_zlt (off := 20) (t := 70) rfl rfl (by omega) (fun c3 => ?_) (fun c3 => ?_)
    · refine k_run 0 (pc' := 70) (l' := [(0, .inr (.inr 361)), (1, .inl 2), (2, .inl x), (3, .inl a), (4, .inl b), (5, .inl 1), (6, .inr (.inr 18)), (7, .inl (H.1 21 (x).toNat))]) (st' := []) rfl ?_
      refine k_run 4 (pc' := 75) (l' := [(0, .inr (.inr 361)), (1, .inl 2), (2, .inl x), (3, .inl a), (4, .inl b), (5, .inl 1), (6, .inr (.inr 18)), (7, .inl (H.1 21 (x).toNat))]) (st' := [.inl (H.1 21 (x).toNat), .inl x, .inl 2, .inr (.inr 361)]) rfl ?_
      refine h_cs (i := 153) (j := 48) (M' := mt_48) (xs := [.inl (H.1 21 (x).toNat), .inl x, .inl 2]) (rest := [.inr (.inr 361)]) rfl rfl rfl rfl rfl (Nat.le_of_ble_eq_true rfl) (Nat.le_of_ble_eq_true rfl) (by omega) (q_Term_codeOf (by omega)  (by decide) (by omega) (by omega)) ?_
      rintro _ _ ⟨z10, rfl, g4, hx9, rfl⟩
      refine k_run 0 (pc' := 78) (l' := [(0, .inr (.inr 361)), (1, .inl 2), (2, .inl x), (3, .inl a), (4, .inl b), (5, .inl 1), (6, .inr (.inr 18)), (7, .inl (H.1 21 (x).toNat))]) (st' := [.inl z10, .inr (.inr 361)]) rfl ?_
      have g11 : -2147483648 ≤ (H.1 361 3) ∧ (H.1 361 3) ≤ 2147483647 := kn (x := kx_361) hI rfl 3
      have g12 : 0 ≤ (H.1 2 5) ∧ (H.1 2 5) ≤ 1001 := kn (x := kx_2) hI rfl 5
      refine h_cv (i := 157) (j := 77) (b := 361) (M' := mt_77) (xs := [.inl z10]) (rest := []) rfl rfl rfl rfl (zs_K (x := kx_361) rfl (by decide)) rfl (Nat.le_of_ble_eq_true rfl) (Nat.le_of_ble_eq_true rfl) (by omega) (q_Reader_addName (by omega) hI (by omega) (by omega) (RT_TQ hR)) ?_
      rintro _ H14 ⟨z19, rfl, g13, hI15, hq16, hp17, hx18⟩
      have hf20 : fq [(361, 3), (361, 4), (361, 5), (361, 9)] [362] true H H14 := fq_t (fq_rf _ _ _ _) hq16 rfl rfl rfl
      refine k_run 0 (pc' := 81) (l' := [(0, .inr (.inr 361)), (1, .inl 2), (2, .inl x), (3, .inl a), (4, .inl b), (5, .inl 1), (6, .inr (.inr 18)), (7, .inl (H.1 21 (x).toNat))]) (st' := [.inl z19]) rfl ?_
      refine k_run 3 (pc' := 86) (l' := [(0, .inr (.inr 361)), (1, .inl 2), (2, .inl x), (3, .inl a), (4, .inl b), (5, .inl 1), (6, .inr (.inr 18)), (7, .inl (H.1 21 (x).toNat)), (8, .inl z19), (9, .inl 0)]) (st' := []) rfl ?_
      rw [hQ9]
      exact (q_readApplied_a2_cut hd hI hx ha hb hp0 hp1 hR hX h2 hf9 _) H14 hI15 hf20 (H.1 21 (x).toNat) z19 (0 : Int) (by omega) (by omega) (by decide) (by omega) (by omega) (by omega) (by omega) (hx18.elim (fun e => Or.inl ⟨e.1, by omega, xput X (100 + x), (rch_st hX (by show stTerm Y a b 1 K X = _; unfold stTerm stApp; rw [hf9]; (repeat (first | rw [if_pos (by omega)] | rw [if_neg (by omega)])); try rfl)), RT_put hR hp17 (e.2.2.1.trans (hx9.trans (by rw [← ha2]; exact (kcd_f X ⟨by omega, by omega⟩).symm))) e.2.2.2.1 e.2.2.2.2 (by omega) (RB_lt hB (by omega) (by omega)), PW9_put hsz.2.1 (fun _ => Or.inr ⟨by omega, by omega, by omega⟩)⟩) (fun e => Or.inr ⟨e.1, FB_mk hB e.2.2.1 nF45 (rch_st hX (by show stTerm Y a b 1 K X = _; unfold stTerm stApp; rw [hf9]; (repeat (first | rw [if_pos (by omega)] | rw [if_neg (by omega)])); try rfl)) e.2.2.2.1 e.2.2.2.2⟩)) (NL_fw hp17 (nX_put (by first | exact RT_TQ hR1 | exact RT_TQ hR2 | exact RT_TQ hR3 | exact RT_TQ hR))) (by omega) (Nat.lt_succ_self _)
    · refine k_run 0 (pc' := 53) (l' := [(0, .inr (.inr 361)), (1, .inl 2), (2, .inl x), (3, .inl a), (4, .inl b), (5, .inl 1), (6, .inr (.inr 18)), (7, .inl (H.1 21 (x).toNat))]) (st' := []) rfl ?_
      refine k_run 3 (pc' := 59) (l' := [(0, .inr (.inr 361)), (1, .inl 2), (2, .inl x), (3, .inl a), (4, .inl b), (5, .inl 1), (6, .inr (.inr 18)), (7, .inl (H.1 21 (x).toNat))]) (st' := [.inl x, .inr (.inr 20)]) rfl ?_
      refine k_ild (c := 20) (j := (x).toNat) (i := x) (x := kx_20) rfl rfl (by decide) rfl (by decide) (by omega) (by omega) ?_
      have g21 : -2 ≤ (H.1 20 (x).toNat) ∧ (H.1 20 (x).toNat) ≤ 100 := kn (x := kx_20) hI rfl (x).toNat
      refine k_run 0 (pc' := 60) (l' := [(0, .inr (.inr 361)), (1, .inl 2), (2, .inl x), (3, .inl a), (4, .inl b), (5, .inl 1), (6, .inr (.inr 18)), (7, .inl (H.1 21 (x).toNat))]) (st' := [.inl (H.1 20 (x).toNat)]) rfl ?_
      refine k_run 1 (pc' := 61) (l' := [(0, .inr (.inr 361)), (1, .inl 2), (2, .inl x), (3, .inl a), (4, .inl b), (5, .inl 1), (6, .inr (.inr 18)), (7, .inl (H.1 21 (x).toNat))]) (st' := [.inl a, .inl (H.1 20 (x).toNat)]) rfl ?_
      refine h_ieq (off := 9) (t := 70) rfl rfl (by omega) (by omega) (fun c22 => ?_) (fun c22 => ?_)
      · refine k_run 0 (pc' := 70) (l' := [(0, .inr (.inr 361)), (1, .inl 2), (2, .inl x), (3, .inl a), (4, .inl b), (5, .inl 1), (6, .inr (.inr 18)), (7, .inl (H.1 21 (x).toNat))]) (st' := []) rfl ?_
        refine k_run 4 (pc' := 75) (l' := [(0, .inr (.inr 361)), (1, .inl 2), (2, .inl x), (3, .inl a), (4, .inl b), (5, .inl 1), (6, .inr (.inr 18)), (7, .inl (H.1 21 (x).toNat))]) (st' := [.inl (H.1 21 (x).toNat), .inl x, .inl 2, .inr (.inr 361)]) rfl ?_
        refine h_cs (i := 153) (j := 48) (M' := mt_48) (xs := [.inl (H.1 21 (x).toNat), .inl x, .inl 2]) (rest := [.inr (.inr 361)]) rfl rfl rfl rfl rfl (Nat.le_of_ble_eq_true rfl) (Nat.le_of_ble_eq_true rfl) (by omega) (q_Term_codeOf (by omega)  (by decide) (by omega) (by omega)) ?_
        rintro _ _ ⟨z29, rfl, g23, hx28, rfl⟩
        refine k_run 0 (pc' := 78) (l' := [(0, .inr (.inr 361)), (1, .inl 2), (2, .inl x), (3, .inl a), (4, .inl b), (5, .inl 1), (6, .inr (.inr 18)), (7, .inl (H.1 21 (x).toNat))]) (st' := [.inl z29, .inr (.inr 361)]) rfl ?_
        have g30 : -2147483648 ≤ (H.1 361 3) ∧ (H.1 361 3) ≤ 2147483647 := kn (x := kx_361) hI rfl 3
        have g31 : 0 ≤ (H.1 2 5) ∧ (H.1 2 5) ≤ 1001 := kn (x := kx_2) hI rfl 5
        refine h_cv (i := 157) (j := 77) (b := 361) (M' := mt_77) (xs := [.inl z29]) (rest := []) rfl rfl rfl rfl (zs_K (x := kx_361) rfl (by decide)) rfl (Nat.le_of_ble_eq_true rfl) (Nat.le_of_ble_eq_true rfl) (by omega) (q_Reader_addName (by omega) hI (by omega) (by omega) (RT_TQ hR)) ?_
        rintro _ H33 ⟨z38, rfl, g32, hI34, hq35, hp36, hx37⟩
        have hf39 : fq [(361, 3), (361, 4), (361, 5), (361, 9)] [362] true H H33 := fq_t (fq_rf _ _ _ _) hq35 rfl rfl rfl
        refine k_run 0 (pc' := 81) (l' := [(0, .inr (.inr 361)), (1, .inl 2), (2, .inl x), (3, .inl a), (4, .inl b), (5, .inl 1), (6, .inr (.inr 18)), (7, .inl (H.1 21 (x).toNat))]) (st' := [.inl z38]) rfl ?_
        refine k_run 3 (pc' := 86) (l' := [(0, .inr (.inr 361)), (1, .inl 2), (2, .inl x), (3, .inl a), (4, .inl b), (5, .inl 1), (6, .inr (.inr 18)), (7, .inl (H.1 21 (x).toNat)), (8, .inl z38), (9, .inl 0)]) (st' := []) rfl ?_
        rw [hQ9]
        exact (q_readApplied_a2_cut hd hI hx ha hb hp0 hp1 hR hX h2 hf9 _) H33 hI34 hf39 (H.1 21 (x).toNat) z38 (0 : Int) (by omega) (by omega) (by decide) (by omega) (by omega) (by omega) (by omega) (hx37.elim (fun e => Or.inl ⟨e.1, by omega, xput X (100 + x), (rch_st hX (by show stTerm Y a b 1 K X = _; unfold stTerm stApp; rw [hf9]; (repeat (first | rw [if_pos (by omega)] | rw [if_neg (by omega)])); try rfl)), RT_put hR hp36 (e.2.2.1.trans (hx28.trans (by rw [← ha2]; exact (kcd_f X ⟨by omega, by omega⟩).symm))) e.2.2.2.1 e.2.2.2.2 (by omega) (RB_lt hB (by omega) (by omega)), PW9_put hsz.2.1 (fun _ => Or.inr ⟨by omega, by omega, by omega⟩)⟩) (fun e => Or.inr ⟨e.1, FB_mk hB e.2.2.1 nF45 (rch_st hX (by show stTerm Y a b 1 K X = _; unfold stTerm stApp; rw [hf9]; (repeat (first | rw [if_pos (by omega)] | rw [if_neg (by omega)])); try rfl)) e.2.2.2.1 e.2.2.2.2⟩)) (NL_fw hp36 (nX_put (by first | exact RT_TQ hR1 | exact RT_TQ hR2 | exact RT_TQ hR3 | exact RT_TQ hR))) (by omega) (Nat.lt_succ_self _)
      · refine k_run 0 (pc' := 64) (l' := [(0, .inr (.inr 361)), (1, .inl 2), (2, .inl x), (3, .inl a), (4, .inl b), (5, .inl 1), (6, .inr (.inr 18)), (7, .inl (H.1 21 (x).toNat))]) (st' := []) rfl ?_
        refine k_run 2 (pc' := 66) (l' := [(0, .inr (.inr 361)), (1, .inl 2), (2, .inl x), (3, .inl a), (4, .inl b), (5, .inl 1), (6, .inr (.inr 18)), (7, .inl (H.1 21 (x).toNat))]) (st' := [.inl 4, .inr (.inr 361)]) rfl ?_
        have g40 : -2147483648 ≤ (H.1 361 3) ∧ (H.1 361 3) ≤ 2147483647 := kn (x := kx_361) hI rfl 3
        have g41 : 0 ≤ (H.1 2 5) ∧ (H.1 2 5) ≤ 1001 := kn (x := kx_2) hI rfl 5
        refine h_cv (i := 128) (j := 86) (b := 361) (M' := mt_86) (xs := [.inl 4]) (rest := []) rfl rfl rfl rfl (zs_K (x := kx_361) rfl (by decide)) rfl (Nat.le_of_ble_eq_true rfl) (Nat.le_of_ble_eq_true rfl) (by omega) (q_Reader_fails (by omega) hI (by decide) (by omega)) ?_
        rintro _ H43 ⟨z48, rfl, g42, hI44, hq45, hp46, hx47⟩
        have hf49 : fq [(361, 3), (361, 4), (361, 5), (361, 9)] [362] true H H43 := fq_t (fq_rf _ _ _ _) hq45 rfl rfl rfl
        refine k_run 0 (pc' := 69) (l' := [(0, .inr (.inr 361)), (1, .inl 2), (2, .inl x), (3, .inl a), (4, .inl b), (5, .inl 1), (6, .inr (.inr 18)), (7, .inl (H.1 21 (x).toNat))]) (st' := [.inl z48]) rfl ?_
        refine h_retz (x := z48) rfl rfl (by omega) ?_
        rw [hQ9]
        exact ⟨_, rfl, (by omega), hI44, hf49, (by first | (exfalso; omega) | exact ⟨(Or.inr ⟨by omega, FB_mk hB hp46 nF45 (rch_st hX (by show stTerm Y a b 1 K X = _; unfold stTerm stApp; rw [hf9]; (repeat (first | rw [if_pos (by omega)] | rw [if_neg (by omega)])); try rfl)) hx47.1 hx47.2⟩), NL_fw hp46 (nXF45 _)⟩)⟩
  · refine k_run 0 (pc' := 43) (l' := [(0, .inr (.inr 361)), (1, .inl 2), (2, .inl x), (3, .inl a), (4, .inl b), (5, .inl 1), (6, .inr (.inr 18)), (7, .inl (H.1 21 (x).toNat))]) (st' := []) rfl ?_
    refine k_run 2 (pc' := 45) (l' := [(0, .inr (.inr 361)), (1, .inl 2), (2, .inl x), (3, .inl a), (4, .inl b), (5, .inl 1), (6, .inr (.inr 18)), (7, .inl (H.1 21 (x).toNat))]) (st' := [.inl 2, .inr (.inr 361)]) rfl ?_
    have g50 : -2147483648 ≤ (H.1 361 3) ∧ (H.1 361 3) ≤ 2147483647 := kn (x := kx_361) hI rfl 3
    have g51 : 0 ≤ (H.1 2 5) ∧ (H.1 2 5) ≤ 1001 := kn (x := kx_2) hI rfl 5
    refine h_cv (i := 128) (j := 86) (b := 361) (M' := mt_86) (xs := [.inl 2]) (rest := []) rfl rfl rfl rfl (zs_K (x := kx_361) rfl (by decide)) rfl (Nat.le_of_ble_eq_true rfl) (Nat.le_of_ble_eq_true rfl) (by omega) (q_Reader_fails (by omega) hI (by decide) (by omega)) ?_
    rintro _ H53 ⟨z58, rfl, g52, hI54, hq55, hp56, hx57⟩
    have hf59 : fq [(361, 3), (361, 4), (361, 5), (361, 9)] [362] true H H53 := fq_t (fq_rf _ _ _ _) hq55 rfl rfl rfl
    refine k_run 0 (pc' := 48) (l' := [(0, .inr (.inr 361)), (1, .inl 2), (2, .inl x), (3, .inl a), (4, .inl b), (5, .inl 1), (6, .inr (.inr 18)), (7, .inl (H.1 21 (x).toNat))]) (st' := [.inl z58]) rfl ?_
    refine h_retz (x := z58) rfl rfl (by omega) ?_
    rw [hQ9]
    exact ⟨_, rfl, (by omega), hI54, hf59, (by first | (exfalso; omega) | exact ⟨(Or.inr ⟨by omega, FB_mk hB hp56 nF45 (rch_st hX (by show stTerm Y a b 1 K X = _; unfold stTerm stApp; rw [hf9]; (repeat (first | rw [if_pos (by omega)] | rw [if_neg (by omega)])); try rfl)) hx57.1 hx57.2⟩), NL_fw hp56 (nXF45 _)⟩)⟩

/-! Reader.readApplied -/
set_option maxRecDepth 100000 in
theorem q_readApplied_a1_cut {Y : yx} {q : Nat} {c0 : cf} {K : List tq} {X : rx} {d : Nat} (hd : 3 ≤ d) {H : hp} (hI : Inv H) {x : Int} {a : Int} {b : Int} (hx : -2147483648 ≤ x ∧ x ≤ 2147483647) (ha : -2147483648 ≤ a ∧ a ≤ 2147483647) (hb : -2147483648 ≤ b ∧ b ≤ 2147483647) (hp0 : 0 ≤ x ∧ x < 16) (hp1 : -2 ≤ a ∧ a ≤ 100 ∧ 0 ≤ b ∧ b ≤ 10) (hR : RT Y q H X) (hX : rch Y c0 ((2, a, b, 1) :: K, X)) (h2 : tk Y (xi X) = 3) (hf9 : cfd Y X = x) : ∀ w : Nat, (∀ (H1 : hp), Inv H1 → fq [(361, 3), (361, 4), (361, 5), (361, 9)] [362] true H H1 → ∀ (x7 : Int) (x8 : Int) (x9 : Int) , (-2147483648 ≤ x7 ∧ x7 ≤ 2147483647) → (-2147483648 ≤ x8 ∧ x8 ≤ 2147483647) → (-2147483648 ≤ x9 ∧ x9 ≤ 2147483647) → (x7 = H.1 16 x.toNat) → (0 ≤ x9) → (x7 ≤ 4) → (0 ≤ x8 ∧ x8 ≤ 1) → ((x8 = 1 ∧ x9 ≤ x7 ∧ ∃ X1 : rx, rch Y c0 ((3, (1 + x), x9, b) :: K, X1) ∧ RT Y q H1 X1 ∧ PW9 a X X1) ∨ (x8 = 0 ∧ FB Y c0 H1)) → (NL H H1) → (x7 ≤ 0) → (((100 - x9).toNat) < w) → hG (zs zK) d mt_74 86 [(0, .inr (.inr 361)), (1, .inl 1), (2, .inl x), (3, .inl a), (4, .inl b), (5, .inl 1), (6, .inr (.inr 13)), (7, .inl x7), (8, .inl x8), (9, .inl x9)] [] H1 (fun r9 H9 => ∃ z : Int, r9 = some (.inl z) ∧ ((0 ≤ z ∧ z ≤ 1)) ∧ Inv H9 ∧ fq [(361, 3), (361, 4), (361, 5), (361, 9)] [362] true H H9 ∧ ((OT Y q c0 K (PW9 a X) z H9) ∧ NL H H9))) := by
  intro w
  induction w with
  | zero => exact fun _ _ _ _ _ _ _ _ _ _ _ _ _ _ _ _ h => absurd h (Nat.not_lt_zero _)
  | succ w ih =>
    intro H1 hI1 hf1 x7 x8 x9 hx7 hx8 hx9 hi0 hi1 hi2 hi3 hi4 hi5 hi6 hw
    obtain ⟨Q9, hQ9⟩ : ∃ Q9 : Option zv → hp → Prop, Q9 = (fun r9 H9 => ∃ z : Int, r9 = some (.inl z) ∧ ((0 ≤ z ∧ z ≤ 1)) ∧ Inv H9 ∧ fq [(361, 3), (361, 4), (361, 5), (361, 9)] [362] true H H9 ∧ ((OT Y q c0 K (PW9 a X) z H9) ∧ NL H H9)) := ⟨_, rfl⟩
    rw [← hQ9]
    obtain ⟨hB, hV, hS⟩ := id hR
    have hpa := RB_pa hB
    have htk := RB_tk hB
    obtain ⟨kE, hkE, hEE⟩ := hV.2.1
    have hmo := hV.1
    have hsz := hS.2.1
    have hb9 := cfd_b Y X
    have hcn := hB.2.1.1.2.1
    have hlt : x < H.1 13 4 := by omega
    obtain ⟨ha1, ha2, ha3, ha4⟩ := RB_c hB (by omega) hlt
    have f18 : H1.1 13 4 = H.1 13 4 := (hf1.1 13 4 rfl (by decide) (by decide)).1
    have f21 : H1.1 16 x.toNat = H.1 16 x.toNat := (hf1.1 16 _ rfl (by decide) (fun q => by simp at q)).1
    refine k_run 1 (pc' := 88) (l' := [(0, .inr (.inr 361)), (1, .inl 1), (2, .inl x), (3, .inl a), (4, .inl b), (5, .inl 1), (6, .inr (.inr 13)), (7, .inl x7), (8, .inl x8), (9, .inl x9)]) (st' := [.inl x8]) rfl ?_
    refine h_zeq (off := 33) (t := 121) rfl rfl (by omega) (fun c60 => ?_) (fun c60 => ?_)
    · refine k_run 0 (pc' := 121) (l' := [(0, .inr (.inr 361)), (1, .inl 1), (2, .inl x), (3, .inl a), (4, .inl b), (5, .inl 1), (6, .inr (.inr 13)), (7, .inl x7), (8, .inl x8), (9, .inl x9)]) (st' := []) rfl ?_
      refine k_run 1 (pc' := 123) (l' := [(0, .inr (.inr 361)), (1, .inl 1), (2, .inl x), (3, .inl a), (4, .inl b), (5, .inl 1), (6, .inr (.inr 13)), (7, .inl x7), (8, .inl x8), (9, .inl x9)]) (st' := [.inl x8]) rfl ?_
      refine h_retz (x := x8) rfl rfl (by omega) ?_
      rw [hQ9]
      exact ⟨_, rfl, (by omega), hI1, hf1, (by first | (exfalso; omega) | exact ⟨hi4.elim (fun e => Or.inl ⟨e.1, e.2.2.imp (fun X1 g => ⟨rch_st g.1 (by show (if x9 < ar X1 (1 + x) then _ else _) = _; rw [if_neg (by rw [(RB_c (x := x) g.2.1.1 (by omega) (by omega)).1]; omega)]), g.2.1, g.2.2⟩)⟩) (fun e => Or.inr e), hi5⟩)⟩
    · refine k_run 0 (pc' := 91) (l' := [(0, .inr (.inr 361)), (1, .inl 1), (2, .inl x), (3, .inl a), (4, .inl b), (5, .inl 1), (6, .inr (.inr 13)), (7, .inl x7), (8, .inl x8), (9, .inl x9)]) (st' := []) rfl ?_
      refine k_run 2 (pc' := 95) (l' := [(0, .inr (.inr 361)), (1, .inl 1), (2, .inl x), (3, .inl a), (4, .inl b), (5, .inl 1), (6, .inr (.inr 13)), (7, .inl x7), (8, .inl x8), (9, .inl x9)]) (st' := [.inl x7, .inl x9]) rfl ?_
      refine h_ige (off := 26) (t := 121) rfl rfl (by omega) (by omega) (fun c61 => ?_) (fun c61 => ?_)
      · refine k_run 0 (pc' := 121) (l' := [(0, .inr (.inr 361)), (1, .inl 1), (2, .inl x), (3, .inl a), (4, .inl b), (5, .inl 1), (6, .inr (.inr 13)), (7, .inl x7), (8, .inl x8), (9, .inl x9)]) (st' := []) rfl ?_
        refine k_run 1 (pc' := 123) (l' := [(0, .inr (.inr 361)), (1, .inl 1), (2, .inl x), (3, .inl a), (4, .inl b), (5, .inl 1), (6, .inr (.inr 13)), (7, .inl x7), (8, .inl x8), (9, .inl x9)]) (st' := [.inl x8]) rfl ?_
        refine h_retz (x := x8) rfl rfl (by omega) ?_
        rw [hQ9]
        exact ⟨_, rfl, (by omega), hI1, hf1, (by first | (exfalso; omega) | exact ⟨hi4.elim (fun e => Or.inl ⟨e.1, e.2.2.imp (fun X1 g => ⟨rch_st g.1 (by show (if x9 < ar X1 (1 + x) then _ else _) = _; rw [if_neg (by rw [(RB_c (x := x) g.2.1.1 (by omega) (by omega)).1]; omega)]), g.2.1, g.2.2⟩)⟩) (fun e => Or.inr e), hi5⟩)⟩
      · refine k_run 0 (pc' := 98) (l' := [(0, .inr (.inr 361)), (1, .inl 1), (2, .inl x), (3, .inl a), (4, .inl b), (5, .inl 1), (6, .inr (.inr 13)), (7, .inl x7), (8, .inl x8), (9, .inl x9)]) (st' := []) rfl ?_
        exfalso
        omega
set_option maxRecDepth 100000 in
theorem q_readApplied_a1 {Y : yx} {q : Nat} {c0 : cf} {K : List tq} {X : rx} {d : Nat} (hd : 3 ≤ d) {H : hp} (hI : Inv H) {x : Int} {a : Int} {b : Int} (hx : -2147483648 ≤ x ∧ x ≤ 2147483647) (ha : -2147483648 ≤ a ∧ a ≤ 2147483647) (hb : -2147483648 ≤ b ∧ b ≤ 2147483647) (hp0 : 0 ≤ x ∧ x < 16) (hp1 : -2 ≤ a ∧ a ≤ 100 ∧ 0 ≤ b ∧ b ≤ 10) (hR : RT Y q H X) (hX : rch Y c0 ((2, a, b, 1) :: K, X)) (h2 : tk Y (xi X) = 3) (hf9 : cfd Y X = x) : hG (zs zK) d mt_74 0 (zargs 0 [.inr (.inr 361), .inl 1, .inl x, .inl a, .inl b, .inl 1]) [] H (fun r9 H9 => ∃ z : Int, r9 = some (.inl z) ∧ ((0 ≤ z ∧ z ≤ 1)) ∧ Inv H9 ∧ fq [(361, 3), (361, 4), (361, 5), (361, 9)] [362] true H H9 ∧ ((OT Y q c0 K (PW9 a X) z H9) ∧ NL H H9)) := by
  obtain ⟨hB, hV, hS⟩ := id hR
  have hpa := RB_pa hB
  have htk := RB_tk hB
  obtain ⟨kE, hkE, hEE⟩ := hV.2.1
  have hmo := hV.1
  have hsz := hS.2.1
  have hb9 := cfd_b Y X
  have hcn := hB.2.1.1.2.1
  have hlt : x < H.1 13 4 := by omega
  obtain ⟨ha1, ha2, ha3, ha4⟩ := RB_c hB (by omega) hlt
  obtain ⟨Q9, hQ9⟩ : ∃ Q9 : Option zv → hp → Prop, Q9 = (fun r9 H9 => ∃ z : Int, r9 = some (.inl z) ∧ ((0 ≤ z ∧ z ≤ 1)) ∧ Inv H9 ∧ fq [(361, 3), (361, 4), (361, 5), (361, 9)] [362] true H H9 ∧ ((OT Y q c0 K (PW9 a X) z H9) ∧ NL H H9)) := ⟨_, rfl⟩
  rw [← hQ9]
  refine k_run 0 (pc' := 0) (l' := [(0, .inr (.inr 361)), (1, .inl 1), (2, .inl x), (3, .inl a), (4, .inl b), (5, .inl 1)]) (st' := []) rfl ?_
  refine k_run 2 (pc' := 2) (l' := [(0, .inr (.inr 361)), (1, .inl 1), (2, .inl x), (3, .inl a), (4, .inl b), (5, .inl 1)]) (st' := [.inl 2, .inl 1]) rfl ?_
  refine h_ine (off := 13) (t := 15) rfl rfl (by decide) (by decide) (fun _ => ?_) (fun c => absurd c (by decide))
  refine k_run 0 (pc' := 15) (l' := [(0, .inr (.inr 361)), (1, .inl 1), (2, .inl x), (3, .inl a), (4, .inl b), (5, .inl 1)]) (st' := []) rfl ?_
  refine k_run 7 (pc' := 30) (l' := [(0, .inr (.inr 361)), (1, .inl 1), (2, .inl x), (3, .inl a), (4, .inl b), (5, .inl 1), (6, .inr (.inr 13))]) (st' := [.inl x, .inr (.inr 16)]) rfl ?_
  refine k_ild (c := 16) (j := (x).toNat) (i := x) (x := kx_16) rfl rfl (by decide) rfl (by decide) (by omega) (by omega) ?_
  have g1 : 0 ≤ (H.1 16 (x).toNat) ∧ (H.1 16 (x).toNat) ≤ 4 := kn (x := kx_16) hI rfl (x).toNat
  refine k_run 0 (pc' := 31) (l' := [(0, .inr (.inr 361)), (1, .inl 1), (2, .inl x), (3, .inl a), (4, .inl b), (5, .inl 1), (6, .inr (.inr 13))]) (st' := [.inl (H.1 16 (x).toNat)]) rfl ?_
  refine k_run 2 (pc' := 35) (l' := [(0, .inr (.inr 361)), (1, .inl 1), (2, .inl x), (3, .inl a), (4, .inl b), (5, .inl 1), (6, .inr (.inr 13)), (7, .inl (H.1 16 (x).toNat))]) (st' := [.inl 1]) rfl ?_
  refine h_zeq (off := 14) (t := 49) rfl rfl (by decide) (fun c => absurd c (by decide)) (fun _ => ?_)
  refine k_run 0 (pc' := 38) (l' := [(0, .inr (.inr 361)), (1, .inl 1), (2, .inl x), (3, .inl a), (4, .inl b), (5, .inl 1), (6, .inr (.inr 13)), (7, .inl (H.1 16 (x).toNat))]) (st' := []) rfl ?_
  refine k_run 1 (pc' := 40) (l' := [(0, .inr (.inr 361)), (1, .inl 1), (2, .inl x), (3, .inl a), (4, .inl b), (5, .inl 1), (6, .inr (.inr 13)), (7, .inl (H.1 16 (x).toNat))]) (st' := [.inl (H.1 16 (x).toNat)]) rfl ?_
  refine h_zle (off := 9) (t := 49) rfl rfl (by omega) (fun c2 => ?_) (fun c2 => ?_)
  · refine k_run 0 (pc' := 49) (l' := [(0, .inr (.inr 361)), (1, .inl 1), (2, .inl x), (3, .inl a), (4, .inl b), (5, .inl 1), (6, .inr (.inr 13)), (7, .inl (H.1 16 (x).toNat))]) (st' := []) rfl ?_
    refine k_run 1 (pc' := 50) (l' := [(0, .inr (.inr 361)), (1, .inl 1), (2, .inl x), (3, .inl a), (4, .inl b), (5, .inl 1), (6, .inr (.inr 13)), (7, .inl (H.1 16 (x).toNat))]) (st' := [.inl a]) rfl ?_
    refine h_zlt (off := 20) (t := 70) rfl rfl (by omega) (fun c3 => ?_) (fun c3 => ?_)
    · refine k_run 0 (pc' := 70) (l' := [(0, .inr (.inr 361)), (1, .inl 1), (2, .inl x), (3, .inl a), (4, .inl b), (5, .inl 1), (6, .inr (.inr 13)), (7, .inl (H.1 16 (x).toNat))]) (st' := []) rfl ?_
      refine k_run 4 (pc' := 75) (l' := [(0, .inr (.inr 361)), (1, .inl 1), (2, .inl x), (3, .inl a), (4, .inl b), (5, .inl 1), (6, .inr (.inr 13)), (7, .inl (H.1 16 (x).toNat))]) (st' := [.inl (H.1 16 (x).toNat), .inl x, .inl 1, .inr (.inr 361)]) rfl ?_
      refine h_cs (i := 153) (j := 48) (M' := mt_48) (xs := [.inl (H.1 16 (x).toNat), .inl x, .inl 1]) (rest := [.inr (.inr 361)]) rfl rfl rfl rfl rfl (Nat.le_of_ble_eq_true rfl) (Nat.le_of_ble_eq_true rfl) (by omega) (q_Term_codeOf (by omega)  (by decide) (by omega) (by omega)) ?_
      rintro _ _ ⟨z10, rfl, g4, hx9, rfl⟩
      refine k_run 0 (pc' := 78) (l' := [(0, .inr (.inr 361)), (1, .inl 1), (2, .inl x), (3, .inl a), (4, .inl b), (5, .inl 1), (6, .inr (.inr 13)), (7, .inl (H.1 16 (x).toNat))]) (st' := [.inl z10, .inr (.inr 361)]) rfl ?_
      have g11 : -2147483648 ≤ (H.1 361 3) ∧ (H.1 361 3) ≤ 2147483647 := kn (x := kx_361) hI rfl 3
      have g12 : 0 ≤ (H.1 2 5) ∧ (H.1 2 5) ≤ 1001 := kn (x := kx_2) hI rfl 5
      refine h_cv (i := 157) (j := 77) (b := 361) (M' := mt_77) (xs := [.inl z10]) (rest := []) rfl rfl rfl rfl (zs_K (x := kx_361) rfl (by decide)) rfl (Nat.le_of_ble_eq_true rfl) (Nat.le_of_ble_eq_true rfl) (by omega) (q_Reader_addName (by omega) hI (by omega) (by omega) (RT_TQ hR)) ?_
      rintro _ H14 ⟨z19, rfl, g13, hI15, hq16, hp17, hx18⟩
      have hf20 : fq [(361, 3), (361, 4), (361, 5), (361, 9)] [362] true H H14 := fq_t (fq_rf _ _ _ _) hq16 rfl rfl rfl
      refine k_run 0 (pc' := 81) (l' := [(0, .inr (.inr 361)), (1, .inl 1), (2, .inl x), (3, .inl a), (4, .inl b), (5, .inl 1), (6, .inr (.inr 13)), (7, .inl (H.1 16 (x).toNat))]) (st' := [.inl z19]) rfl ?_
      refine k_run 3 (pc' := 86) (l' := [(0, .inr (.inr 361)), (1, .inl 1), (2, .inl x), (3, .inl a), (4, .inl b), (5, .inl 1), (6, .inr (.inr 13)), (7, .inl (H.1 16 (x).toNat)), (8, .inl z19), (9, .inl 0)]) (st' := []) rfl ?_
      rw [hQ9]
      exact (q_readApplied_a1_cut hd hI hx ha hb hp0 hp1 hR hX h2 hf9 _) H14 hI15 hf20 (H.1 16 (x).toNat) z19 (0 : Int) (by omega) (by omega) (by decide) (by omega) (by omega) (by omega) (by omega) (hx18.elim (fun e => Or.inl ⟨e.1, by omega, xput X (1 + x), (rch_st hX (by show stTerm Y a b 1 K X = _; unfold stTerm stApp; rw [hf9]; (repeat (first | rw [if_pos (by omega)] | rw [if_neg (by omega)])); try rfl)), RT_put hR hp17 (e.2.2.1.trans (hx9.trans (by rw [← ha2]; exact (kcd_c X ⟨by omega, by omega⟩).symm))) e.2.2.2.1 e.2.2.2.2 (by omega) (RB_lt hB (by omega) (by omega)), PW9_put hsz.2.1 (fun _ => Or.inl ⟨by omega, by omega, by omega⟩)⟩) (fun e => Or.inr ⟨e.1, FB_mk hB e.2.2.1 nF45 (rch_st hX (by show stTerm Y a b 1 K X = _; unfold stTerm stApp; rw [hf9]; (repeat (first | rw [if_pos (by omega)] | rw [if_neg (by omega)])); try rfl)) e.2.2.2.1 e.2.2.2.2⟩)) (NL_fw hp17 (nX_put (by first | exact RT_TQ hR1 | exact RT_TQ hR2 | exact RT_TQ hR3 | exact RT_TQ hR))) (by omega) (Nat.lt_succ_self _)
    · refine k_run 0 (pc' := 53) (l' := [(0, .inr (.inr 361)), (1, .inl 1), (2, .inl x), (3, .inl a), (4, .inl b), (5, .inl 1), (6, .inr (.inr 13)), (7, .inl (H.1 16 (x).toNat))]) (st' := []) rfl ?_
      refine k_run 3 (pc' := 59) (l' := [(0, .inr (.inr 361)), (1, .inl 1), (2, .inl x), (3, .inl a), (4, .inl b), (5, .inl 1), (6, .inr (.inr 13)), (7, .inl (H.1 16 (x).toNat))]) (st' := [.inl x, .inr (.inr 15)]) rfl ?_
      refine k_ild (c := 15) (j := (x).toNat) (i := x) (x := kx_15) rfl rfl (by decide) rfl (by decide) (by omega) (by omega) ?_
      have g21 : -2 ≤ (H.1 15 (x).toNat) ∧ (H.1 15 (x).toNat) ≤ 100 := kn (x := kx_15) hI rfl (x).toNat
      refine k_run 0 (pc' := 60) (l' := [(0, .inr (.inr 361)), (1, .inl 1), (2, .inl x), (3, .inl a), (4, .inl b), (5, .inl 1), (6, .inr (.inr 13)), (7, .inl (H.1 16 (x).toNat))]) (st' := [.inl (H.1 15 (x).toNat)]) rfl ?_
      refine k_run 1 (pc' := 61) (l' := [(0, .inr (.inr 361)), (1, .inl 1), (2, .inl x), (3, .inl a), (4, .inl b), (5, .inl 1), (6, .inr (.inr 13)), (7, .inl (H.1 16 (x).toNat))]) (st' := [.inl a, .inl (H.1 15 (x).toNat)]) rfl ?_
      refine h_ieq (off := 9) (t := 70) rfl rfl (by omega) (by omega) (fun c22 => ?_) (fun c22 => ?_)
      · refine k_run 0 (pc' := 70) (l' := [(0, .inr (.inr 361)), (1, .inl 1), (2, .inl x), (3, .inl a), (4, .inl b), (5, .inl 1), (6, .inr (.inr 13)), (7, .inl (H.1 16 (x).toNat))]) (st' := []) rfl ?_
        refine k_run 4 (pc' := 75) (l' := [(0, .inr (.inr 361)), (1, .inl 1), (2, .inl x), (3, .inl a), (4, .inl b), (5, .inl 1), (6, .inr (.inr 13)), (7, .inl (H.1 16 (x).toNat))]) (st' := [.inl (H.1 16 (x).toNat), .inl x, .inl 1, .inr (.inr 361)]) rfl ?_
        refine h_cs (i := 153) (j := 48) (M' := mt_48) (xs := [.inl (H.1 16 (x).toNat), .inl x, .inl 1]) (rest := [.inr (.inr 361)]) rfl rfl rfl rfl rfl (Nat.le_of_ble_eq_true rfl) (Nat.le_of_ble_eq_true rfl) (by omega) (q_Term_codeOf (by omega)  (by decide) (by omega) (by omega)) ?_
        rintro _ _ ⟨z29, rfl, g23, hx28, rfl⟩
        refine k_run 0 (pc' := 78) (l' := [(0, .inr (.inr 361)), (1, .inl 1), (2, .inl x), (3, .inl a), (4, .inl b), (5, .inl 1), (6, .inr (.inr 13)), (7, .inl (H.1 16 (x).toNat))]) (st' := [.inl z29, .inr (.inr 361)]) rfl ?_
        have g30 : -2147483648 ≤ (H.1 361 3) ∧ (H.1 361 3) ≤ 2147483647 := kn (x := kx_361) hI rfl 3
        have g31 : 0 ≤ (H.1 2 5) ∧ (H.1 2 5) ≤ 1001 := kn (x := kx_2) hI rfl 5
        refine h_cv (i := 157) (j := 77) (b := 361) (M' := mt_77) (xs := [.inl z29]) (rest := []) rfl rfl rfl rfl (zs_K (x := kx_361) rfl (by decide)) rfl (Nat.le_of_ble_eq_true rfl) (Nat.le_of_ble_eq_true rfl) (by omega) (q_Reader_addName (by omega) hI (by omega) (by omega) (RT_TQ hR)) ?_
        rintro _ H33 ⟨z38, rfl, g32, hI34, hq35, hp36, hx37⟩
        have hf39 : fq [(361, 3), (361, 4), (361, 5), (361, 9)] [362] true H H33 := fq_t (fq_rf _ _ _ _) hq35 rfl rfl rfl
        refine k_run 0 (pc' := 81) (l' := [(0, .inr (.inr 361)), (1, .inl 1), (2, .inl x), (3, .inl a), (4, .inl b), (5, .inl 1), (6, .inr (.inr 13)), (7, .inl (H.1 16 (x).toNat))]) (st' := [.inl z38]) rfl ?_
        refine k_run 3 (pc' := 86) (l' := [(0, .inr (.inr 361)), (1, .inl 1), (2, .inl x), (3, .inl a), (4, .inl b), (5, .inl 1), (6, .inr (.inr 13)), (7, .inl (H.1 16 (x).toNat)), (8, .inl z38), (9, .inl 0)]) (st' := []) rfl ?_
        rw [hQ9]
        exact (q_readApplied_a1_cut hd hI hx ha hb hp0 hp1 hR hX h2 hf9 _) H33 hI34 hf39 (H.1 16 (x).toNat) z38 (0 : Int) (by omega) (by omega) (by decide) (by omega) (by omega) (by omega) (by omega) (hx37.elim (fun e => Or.inl ⟨e.1, by omega, xput X (1 + x), (rch_st hX (by show stTerm Y a b 1 K X = _; unfold stTerm stApp; rw [hf9]; (repeat (first | rw [if_pos (by omega)] | rw [if_neg (by omega)])); try rfl)), RT_put hR hp36 (e.2.2.1.trans (hx28.trans (by rw [← ha2]; exact (kcd_c X ⟨by omega, by omega⟩).symm))) e.2.2.2.1 e.2.2.2.2 (by omega) (RB_lt hB (by omega) (by omega)), PW9_put hsz.2.1 (fun _ => Or.inl ⟨by omega, by omega, by omega⟩)⟩) (fun e => Or.inr ⟨e.1, FB_mk hB e.2.2.1 nF45 (rch_st hX (by show stTerm Y a b 1 K X = _; unfold stTerm stApp; rw [hf9]; (repeat (first | rw [if_pos (by omega)] | rw [if_neg (by omega)])); try rfl)) e.2.2.2.1 e.2.2.2.2⟩)) (NL_fw hp36 (nX_put (by first | exact RT_TQ hR1 | exact RT_TQ hR2 | exact RT_TQ hR3 | exact RT_TQ hR))) (by omega) (Nat.lt_succ_self _)
      · refine k_run 0 (pc' := 64) (l' := [(0, .inr (.inr 361)), (1, .inl 1), (2, .inl x), (3, .inl a), (4, .inl b), (5, .inl 1), (6, .inr (.inr 13)), (7, .inl (H.1 16 (x).toNat))]) (st' := []) rfl ?_
        refine k_run 2 (pc' := 66) (l' := [(0, .inr (.inr 361)), (1, .inl 1), (2, .inl x), (3, .inl a), (4, .inl b), (5, .inl 1), (6, .inr (.inr 13)), (7, .inl (H.1 16 (x).toNat))]) (st' := [.inl 4, .inr (.inr 361)]) rfl ?_
        have g40 : -2147483648 ≤ (H.1 361 3) ∧ (H.1 361 3) ≤ 2147483647 := kn (x := kx_361) hI rfl 3
        have g41 : 0 ≤ (H.1 2 5) ∧ (H.1 2 5) ≤ 1001 := kn (x := kx_2) hI rfl 5
        refine h_cv (i := 128) (j := 86) (b := 361) (M' := mt_86) (xs := [.inl 4]) (rest := []) rfl rfl rfl rfl (zs_K (x := kx_361) rfl (by decide)) rfl (Nat.le_of_ble_eq_true rfl) (Nat.le_of_ble_eq_true rfl) (by omega) (q_Reader_fails (by omega) hI (by decide) (by omega)) ?_
        rintro _ H43 ⟨z48, rfl, g42, hI44, hq45, hp46, hx47⟩
        have hf49 : fq [(361, 3), (361, 4), (361, 5), (361, 9)] [362] true H H43 := fq_t (fq_rf _ _ _ _) hq45 rfl rfl rfl
        refine k_run 0 (pc' := 69) (l' := [(0, .inr (.inr 361)), (1, .inl 1), (2, .inl x), (3, .inl a), (4, .inl b), (5, .inl 1), (6, .inr (.inr 13)), (7, .inl (H.1 16 (x).toNat))]) (st' := [.inl z48]) rfl ?_
        refine h_retz (x := z48) rfl rfl (by omega) ?_
        rw [hQ9]
        exact ⟨_, rfl, (by omega), hI44, hf49, (by first | (exfalso; omega) | exact ⟨(Or.inr ⟨by omega, FB_mk hB hp46 nF45 (rch_st hX (by show stTerm Y a b 1 K X = _; unfold stTerm stApp; rw [hf9]; (repeat (first | rw [if_pos (by omega)] | rw [if_neg (by omega)])); try rfl)) hx47.1 hx47.2⟩), NL_fw hp46 (nXF45 _)⟩)⟩
  · refine k_run 0 (pc' := 43) (l' := [(0, .inr (.inr 361)), (1, .inl 1), (2, .inl x), (3, .inl a), (4, .inl b), (5, .inl 1), (6, .inr (.inr 13)), (7, .inl (H.1 16 (x).toNat))]) (st' := []) rfl ?_
    refine k_run 2 (pc' := 45) (l' := [(0, .inr (.inr 361)), (1, .inl 1), (2, .inl x), (3, .inl a), (4, .inl b), (5, .inl 1), (6, .inr (.inr 13)), (7, .inl (H.1 16 (x).toNat))]) (st' := [.inl 2, .inr (.inr 361)]) rfl ?_
    have g50 : -2147483648 ≤ (H.1 361 3) ∧ (H.1 361 3) ≤ 2147483647 := kn (x := kx_361) hI rfl 3
    have g51 : 0 ≤ (H.1 2 5) ∧ (H.1 2 5) ≤ 1001 := kn (x := kx_2) hI rfl 5
    refine h_cv (i := 128) (j := 86) (b := 361) (M' := mt_86) (xs := [.inl 2]) (rest := []) rfl rfl rfl rfl (zs_K (x := kx_361) rfl (by decide)) rfl (Nat.le_of_ble_eq_true rfl) (Nat.le_of_ble_eq_true rfl) (by omega) (q_Reader_fails (by omega) hI (by decide) (by omega)) ?_
    rintro _ H53 ⟨z58, rfl, g52, hI54, hq55, hp56, hx57⟩
    have hf59 : fq [(361, 3), (361, 4), (361, 5), (361, 9)] [362] true H H53 := fq_t (fq_rf _ _ _ _) hq55 rfl rfl rfl
    refine k_run 0 (pc' := 48) (l' := [(0, .inr (.inr 361)), (1, .inl 1), (2, .inl x), (3, .inl a), (4, .inl b), (5, .inl 1), (6, .inr (.inr 13)), (7, .inl (H.1 16 (x).toNat))]) (st' := [.inl z58]) rfl ?_
    refine h_retz (x := z58) rfl rfl (by omega) ?_
    rw [hQ9]
    exact ⟨_, rfl, (by omega), hI54, hf59, (by first | (exfalso; omega) | exact ⟨(Or.inr ⟨by omega, FB_mk hB hp56 nF45 (rch_st hX (by show stTerm Y a b 1 K X = _; unfold stTerm stApp; rw [hf9]; (repeat (first | rw [if_pos (by omega)] | rw [if_neg (by omega)])); try rfl)) hx57.1 hx57.2⟩), NL_fw hp56 (nXF45 _)⟩)⟩

/-! Reader.readTerm -/
set_option maxRecDepth 100000 in
theorem q_readTerm_1 {Y : yx} {q : Nat} {c0 : cf} {K : List tq} {X : rx} {m : Nat} {d : Nat} (hd : 3 * m + 8 ≤ d) {H : hp} (hI : Inv H) {a : Int} {b : Int} (ha : -2147483648 ≤ a ∧ a ≤ 2147483647) (hb : -2147483648 ≤ b ∧ b ≤ 2147483647) (hp0 : -2 ≤ a ∧ a ≤ 100 ∧ 0 ≤ b ∧ b ≤ 10 ∧ 10 ≤ b + (m : Int)) (hR : RT Y q H X) (hX : rch Y c0 ((2, a, b, 1) :: K, X)) (hRf : ∀ m1, m1 < m → RTf m1) : hG (zs zK) d mt_73 0 (zargs 0 [.inr (.inr 361), .inl a, .inl b, .inl 1]) [] H (fun r9 H9 => ∃ z : Int, r9 = some (.inl z) ∧ ((0 ≤ z ∧ z ≤ 1)) ∧ Inv H9 ∧ fq [(361, 3), (361, 4), (361, 5), (361, 9)] [362] true H H9 ∧ ((OT Y q c0 K (PW9 a X) z H9) ∧ NL H H9)) := by
  obtain ⟨hB, hV, hS⟩ := id hR
  have hpa := RB_pa hB
  have htk := RB_tk hB
  obtain ⟨kE, hkE, hEE⟩ := hV.2.1
  have hmo := hV.1
  have hsz := hS.2.1
  obtain ⟨Q9, hQ9⟩ : ∃ Q9 : Option zv → hp → Prop, Q9 = (fun r9 H9 => ∃ z : Int, r9 = some (.inl z) ∧ ((0 ≤ z ∧ z ≤ 1)) ∧ Inv H9 ∧ fq [(361, 3), (361, 4), (361, 5), (361, 9)] [362] true H H9 ∧ ((OT Y q c0 K (PW9 a X) z H9) ∧ NL H H9)) := ⟨_, rfl⟩
  rw [← hQ9]
  refine k_run 0 (pc' := 0) (l' := [(0, .inr (.inr 361)), (1, .inl a), (2, .inl b), (3, .inl 1)]) (st' := []) rfl ?_
  refine k_run 1 (pc' := 1) (l' := [(0, .inr (.inr 361)), (1, .inl a), (2, .inl b), (3, .inl 1)]) (st' := [.inr (.inr 361)]) rfl ?_
  have g1 : -2147483648 ≤ (H.1 361 3) ∧ (H.1 361 3) ≤ 2147483647 := kn (x := kx_361) hI rfl 3
  have g2 : 0 ≤ (H.1 2 5) ∧ (H.1 2 5) ≤ 1001 := kn (x := kx_2) hI rfl 5
  refine h_cv (i := 72) (j := 83) (b := 361) (M' := mt_83) (xs := []) (rest := []) rfl rfl rfl rfl (zs_K (x := kx_361) rfl (by decide)) rfl (Nat.le_of_ble_eq_true rfl) (Nat.le_of_ble_eq_true rfl) (by omega) (q_Reader_token (by omega) hI (by omega)) ?_
  rintro _ _ ⟨z9, rfl, g3, hx8, rfl⟩
  refine k_run 0 (pc' := 4) (l' := [(0, .inr (.inr 361)), (1, .inl a), (2, .inl b), (3, .inl 1)]) (st' := [.inl z9]) rfl ?_
  rw [htk] at hx8
  rcases (show (z9 ≠ 2 ∧ z9 ≠ 3 ∧ z9 ≠ 40 ∧ z9 ≠ 95) ∨ z9 = 2 ∨ z9 = 3 ∨ z9 = 40 ∨ z9 = 95 by omega) with c10 | c10 | c10 | c10 | c10
  · refine k_lsw (t := 193) rfl (by omega) (by decide) (lsw_no (by intro q9 hq9; simp only [List.mem_cons, List.not_mem_nil, or_false] at hq9; rcases hq9 with rfl | rfl | rfl | rfl <;> (dsimp only; omega))) rfl ?_
    refine k_run 1 (pc' := 194) (l' := [(0, .inr (.inr 361)), (1, .inl a), (2, .inl b), (3, .inl 1)]) (st' := [.inr (.inr 361)]) rfl ?_
    refine h_cv (i := 89) (j := 85) (b := 361) (M' := mt_85) (xs := []) (rest := []) rfl rfl rfl rfl (zs_K (x := kx_361) rfl (by decide)) rfl (Nat.le_of_ble_eq_true rfl) (Nat.le_of_ble_eq_true rfl) (by omega) (q_Reader_misplaced (by omega) hI (by omega)) ?_
    rintro _ H12 ⟨z17, rfl, g11, hI13, hq14, hp15, hx16⟩
    have hf18 : fq [(361, 3), (361, 4), (361, 5), (361, 9)] [362] true H H12 := fq_t (fq_rf _ _ _ _) hq14 rfl rfl rfl
    refine k_run 0 (pc' := 197) (l' := [(0, .inr (.inr 361)), (1, .inl a), (2, .inl b), (3, .inl 1)]) (st' := [.inl z17]) rfl ?_
    refine h_retz (x := z17) rfl rfl (by omega) ?_
    rw [hQ9]
    exact ⟨_, rfl, (by omega), hI13, hf18, (by first | (exfalso; omega) | exact ⟨(Or.inr ⟨by omega, FB_mk (k := if tk Y (xi X) = 1 then 1 else 2) hB hp15 nF45 (rch_st hX (by show stTerm Y a b 1 K X = _; unfold stTerm; (repeat (first | rw [if_pos (by omega)] | rw [if_neg (by omega)])); try rfl)) (hx16.1.trans (by rw [htk])) hx16.2⟩), NL_fw hp15 (nXF45 _)⟩)⟩
  · refine k_lsw (t := 48) rfl (by omega) (by decide) (by rw [c10]) rfl ?_
    refine k_run 4 (pc' := 56) (l' := [(0, .inr (.inr 361)), (1, .inl a), (2, .inl b), (3, .inl 1)]) (st' := [.inr (.inr 361), .inr (.inr 18)]) rfl ?_
    refine h_cv (i := 120) (j := 84) (b := 361) (M' := mt_84) (xs := []) (rest := [.inr (.inr 18)]) rfl rfl rfl rfl (zs_K (x := kx_361) rfl (by decide)) rfl (Nat.le_of_ble_eq_true rfl) (Nat.le_of_ble_eq_true rfl) (by omega) (q_Reader_name (by omega) hI (by omega)) ?_
    rintro _ _ ⟨z25, rfl, g19, hx24, rfl⟩
    refine k_run 0 (pc' := 59) (l' := [(0, .inr (.inr 361)), (1, .inl a), (2, .inl b), (3, .inl 1)]) (st' := [.inr (.inl z25), .inr (.inr 18)]) rfl ?_
    have g26 : 0 ≤ (H.1 18 4) ∧ (H.1 18 4) ≤ 16 := kn (x := kx_18) hI rfl 4
    refine h_cv (i := 124) (j := 41) (b := 18) (M' := mt_41) (xs := [.inr (.inl z25)]) (rest := []) rfl rfl rfl rfl (zs_K (x := kx_18) rfl (by decide)) rfl (Nat.le_of_ble_eq_true rfl) (Nat.le_of_ble_eq_true rfl) (by omega) (q_Symbols_find_18 (by omega) hI (by omega)) ?_
    rintro _ _ ⟨z33, rfl, g27, hx32, rfl⟩
    refine k_run 0 (pc' := 62) (l' := [(0, .inr (.inr 361)), (1, .inl a), (2, .inl b), (3, .inl 1)]) (st' := [.inl z33]) rfl ?_
    have hff : z33 = ffd Y X := by rw [hx32, hx24]; exact RB_ff hB (by omega) (by omega)
    refine k_run 2 (pc' := 66) (l' := [(0, .inr (.inr 361)), (1, .inl a), (2, .inl b), (3, .inl 1), (4, .inl z33)]) (st' := [.inl z33]) rfl ?_
    refine h_zge (off := 9) (t := 75) rfl rfl (by omega) (fun c34 => ?_) (fun c34 => ?_)
    · refine k_run 0 (pc' := 75) (l' := [(0, .inr (.inr 361)), (1, .inl a), (2, .inl b), (3, .inl 1), (4, .inl z33)]) (st' := []) rfl ?_
      refine k_run 6 (pc' := 82) (l' := [(0, .inr (.inr 361)), (1, .inl a), (2, .inl b), (3, .inl 1), (4, .inl z33)]) (st' := [.inl 1, .inl b, .inl a, .inl z33, .inl 2, .inr (.inr 361)]) rfl ?_
      refine h_cv (i := 215) (j := 74) (b := 361) (M' := mt_74) (xs := [.inl 1, .inl b, .inl a, .inl z33, .inl 2]) (rest := []) rfl rfl rfl rfl (zs_K (x := kx_361) rfl (by decide)) rfl (Nat.le_of_ble_eq_true rfl) (Nat.le_of_ble_eq_true rfl) (by omega) (q_readApplied_a2 (by omega) hI (by omega) (by omega) (by omega) (by omega) (by omega) hR hX (by omega) hff.symm) ?_
      rintro _ H36 ⟨z41, rfl, g35, hI37, hq38, hx40⟩
      have hf42 : fq [(361, 3), (361, 4), (361, 5), (361, 9)] [362] true H H36 := fq_t (fq_rf _ _ _ _) hq38 rfl rfl rfl
      refine k_run 0 (pc' := 85) (l' := [(0, .inr (.inr 361)), (1, .inl a), (2, .inl b), (3, .inl 1), (4, .inl z33)]) (st' := [.inl z41]) rfl ?_
      refine h_retz (x := z41) rfl rfl (by omega) ?_
      rw [hQ9]
      exact ⟨_, rfl, (by omega), hI37, hf42, (by first | (exfalso; omega) | exact hx40)⟩
    · refine k_run 0 (pc' := 69) (l' := [(0, .inr (.inr 361)), (1, .inl a), (2, .inl b), (3, .inl 1), (4, .inl z33)]) (st' := []) rfl ?_
      refine k_run 2 (pc' := 71) (l' := [(0, .inr (.inr 361)), (1, .inl a), (2, .inl b), (3, .inl 1), (4, .inl z33)]) (st' := [.inl a, .inr (.inr 361)]) rfl ?_
      refine h_cv (i := 212) (j := 75) (b := 361) (M' := mt_75) (xs := [.inl a]) (rest := []) rfl rfl rfl rfl (zs_K (x := kx_361) rfl (by decide)) rfl (Nat.le_of_ble_eq_true rfl) (Nat.le_of_ble_eq_true rfl) (by omega) (q_Reader_readVariable (by omega) hI (by omega) (by omega) hR hX (by omega) (by omega)) ?_
      rintro _ H44 ⟨z49, rfl, g43, hI45, hq46, hx48⟩
      have hf50 : fq [(361, 3), (361, 4), (361, 5), (361, 9)] [362] true H H44 := fq_t (fq_rf _ _ _ _) hq46 rfl rfl rfl
      refine k_run 0 (pc' := 74) (l' := [(0, .inr (.inr 361)), (1, .inl a), (2, .inl b), (3, .inl 1), (4, .inl z33)]) (st' := [.inl z49]) rfl ?_
      refine h_retz (x := z49) rfl rfl (by omega) ?_
      rw [hQ9]
      exact ⟨_, rfl, (by omega), hI45, hf50, (by first | (exfalso; omega) | exact hx48)⟩
  · refine k_lsw (t := 86) rfl (by omega) (by decide) (by rw [c10]) rfl ?_
    refine k_run 4 (pc' := 94) (l' := [(0, .inr (.inr 361)), (1, .inl a), (2, .inl b), (3, .inl 1)]) (st' := [.inr (.inr 361), .inr (.inr 13)]) rfl ?_
    refine h_cv (i := 120) (j := 84) (b := 361) (M' := mt_84) (xs := []) (rest := [.inr (.inr 13)]) rfl rfl rfl rfl (zs_K (x := kx_361) rfl (by decide)) rfl (Nat.le_of_ble_eq_true rfl) (Nat.le_of_ble_eq_true rfl) (by omega) (q_Reader_name (by omega) hI (by omega)) ?_
    rintro _ _ ⟨z57, rfl, g51, hx56, rfl⟩
    refine k_run 0 (pc' := 97) (l' := [(0, .inr (.inr 361)), (1, .inl a), (2, .inl b), (3, .inl 1)]) (st' := [.inr (.inl z57), .inr (.inr 13)]) rfl ?_
    have g58 : 0 ≤ (H.1 13 4) ∧ (H.1 13 4) ≤ 16 := kn (x := kx_13) hI rfl 4
    refine h_cv (i := 124) (j := 41) (b := 13) (M' := mt_41) (xs := [.inr (.inl z57)]) (rest := []) rfl rfl rfl rfl (zs_K (x := kx_13) rfl (by decide)) rfl (Nat.le_of_ble_eq_true rfl) (Nat.le_of_ble_eq_true rfl) (by omega) (q_Symbols_find_13 (by omega) hI (by omega)) ?_
    rintro _ _ ⟨z65, rfl, g59, hx64, rfl⟩
    refine k_run 0 (pc' := 100) (l' := [(0, .inr (.inr 361)), (1, .inl a), (2, .inl b), (3, .inl 1)]) (st' := [.inl z65]) rfl ?_
    have hcf : z65 = cfd Y X := by rw [hx64, hx56]; exact RB_cf hB (by omega) (by omega)
    refine k_run 2 (pc' := 104) (l' := [(0, .inr (.inr 361)), (1, .inl a), (2, .inl b), (3, .inl 1), (5, .inl z65)]) (st' := [.inl z65]) rfl ?_
    refine h_zge (off := 9) (t := 113) rfl rfl (by omega) (fun c66 => ?_) (fun c66 => ?_)
    · refine k_run 0 (pc' := 113) (l' := [(0, .inr (.inr 361)), (1, .inl a), (2, .inl b), (3, .inl 1), (5, .inl z65)]) (st' := []) rfl ?_
      refine k_run 6 (pc' := 120) (l' := [(0, .inr (.inr 361)), (1, .inl a), (2, .inl b), (3, .inl 1), (5, .inl z65)]) (st' := [.inl 1, .inl b, .inl a, .inl z65, .inl 1, .inr (.inr 361)]) rfl ?_
      refine h_cv (i := 215) (j := 74) (b := 361) (M' := mt_74) (xs := [.inl 1, .inl b, .inl a, .inl z65, .inl 1]) (rest := []) rfl rfl rfl rfl (zs_K (x := kx_361) rfl (by decide)) rfl (Nat.le_of_ble_eq_true rfl) (Nat.le_of_ble_eq_true rfl) (by omega) (q_readApplied_a1 (by omega) hI (by omega) (by omega) (by omega) (by omega) (by omega) hR hX (by omega) hcf.symm) ?_
      rintro _ H68 ⟨z73, rfl, g67, hI69, hq70, hx72⟩
      have hf74 : fq [(361, 3), (361, 4), (361, 5), (361, 9)] [362] true H H68 := fq_t (fq_rf _ _ _ _) hq70 rfl rfl rfl
      refine k_run 0 (pc' := 123) (l' := [(0, .inr (.inr 361)), (1, .inl a), (2, .inl b), (3, .inl 1), (5, .inl z65)]) (st' := [.inl z73]) rfl ?_
      refine h_retz (x := z73) rfl rfl (by omega) ?_
      rw [hQ9]
      exact ⟨_, rfl, (by omega), hI69, hf74, (by first | (exfalso; omega) | exact hx72)⟩
    · refine k_run 0 (pc' := 107) (l' := [(0, .inr (.inr 361)), (1, .inl a), (2, .inl b), (3, .inl 1), (5, .inl z65)]) (st' := []) rfl ?_
      refine k_run 2 (pc' := 109) (l' := [(0, .inr (.inr 361)), (1, .inl a), (2, .inl b), (3, .inl 1), (5, .inl z65)]) (st' := [.inl 3, .inr (.inr 361)]) rfl ?_
      refine h_cv (i := 128) (j := 86) (b := 361) (M' := mt_86) (xs := [.inl 3]) (rest := []) rfl rfl rfl rfl (zs_K (x := kx_361) rfl (by decide)) rfl (Nat.le_of_ble_eq_true rfl) (Nat.le_of_ble_eq_true rfl) (by omega) (q_Reader_fails (by omega) hI (by decide) (by omega)) ?_
      rintro _ H76 ⟨z81, rfl, g75, hI77, hq78, hp79, hx80⟩
      have hf82 : fq [(361, 3), (361, 4), (361, 5), (361, 9)] [362] true H H76 := fq_t (fq_rf _ _ _ _) hq78 rfl rfl rfl
      refine k_run 0 (pc' := 112) (l' := [(0, .inr (.inr 361)), (1, .inl a), (2, .inl b), (3, .inl 1), (5, .inl z65)]) (st' := [.inl z81]) rfl ?_
      refine h_retz (x := z81) rfl rfl (by omega) ?_
      rw [hQ9]
      exact ⟨_, rfl, (by omega), hI77, hf82, (by first | (exfalso; omega) | exact ⟨(Or.inr ⟨by omega, FB_mk hB hp79 nF45 (rch_st hX (by show stTerm Y a b 1 K X = _; unfold stTerm; (repeat (first | rw [if_pos (by omega)] | rw [if_neg (by omega)])); try rfl)) hx80.1 hx80.2⟩), NL_fw hp79 (nXF45 _)⟩)⟩
  · refine k_lsw (t := 144) rfl (by omega) (by decide) (by rw [c10]) rfl ?_
    refine k_run 2 (pc' := 147) (l' := [(0, .inr (.inr 361)), (1, .inl a), (2, .inl b), (3, .inl 1)]) (st' := [.inl 10, .inl b]) rfl ?_
    refine h_ilt (off := 9) (t := 156) rfl rfl (by omega) (by decide) (fun c83 => ?_) (fun c83 => ?_)
    · refine k_run 0 (pc' := 156) (l' := [(0, .inr (.inr 361)), (1, .inl a), (2, .inl b), (3, .inl 1)]) (st' := []) rfl ?_
      refine k_run 5 (pc' := 163) (l' := [(0, .inr (.inr 361)), (1, .inl a), (2, .inl b), (3, .inl 1)]) (st' := [.inl ((H.1 361 3) + 1), .inr (.inr 361)]) rfl ?_
      refine k_puti (z := ((H.1 361 3) + 1)) (a := 361) (x := kx_361) rfl rfl rfl (by decide) (by decide) rfl rfl rfl rfl hI (by omega) (show -2147483648 ≤ ((H.1 361 3) + 1) ∧ ((H.1 361 3) + 1) ≤ 2147483647 by omega) (fun H84 hI85 hw86 hv87 => ?_)
      have hf88 : fq [(361, 3), (361, 4), (361, 5), (361, 9)] [362] true H H84 := fq_w (fq_rf _ _ _ _) hw86 (fpo (by decide) rfl)
      refine k_run 0 (pc' := 166) (l' := [(0, .inr (.inr 361)), (1, .inl a), (2, .inl b), (3, .inl 1)]) (st' := []) rfl ?_
      have hw2 := hw86
      have hR2 : RT Y q H84 (adv X) := RT_adv hR (fw_w (fw_rf [(361, 3)] _) hw86 (by simp)) n3 hv87 (RB_lt hB (by omega) (by omega))
      have hX2 : rch Y c0 ((2, a, b + 1, 0) :: (1, 41, 0, 0) :: K, adv X) := (rch_st hX (by show stTerm Y a b 1 K X = _; unfold stTerm; (repeat (first | rw [if_pos (by omega)] | rw [if_neg (by omega)])); try rfl))
      refine k_run 6 (pc' := 172) (l' := [(0, .inr (.inr 361)), (1, .inl a), (2, .inl b), (3, .inl 1)]) (st' := [.inl 0, .inl (b + 1), .inl a, .inr (.inr 361)]) rfl ?_
      refine h_cv (i := 109) (j := 73) (b := 361) (M' := mt_73) (xs := [.inl 0, .inl (b + 1), .inl a]) (rest := []) rfl rfl rfl rfl (zs_K (x := kx_361) rfl (by decide)) rfl (Nat.le_of_ble_eq_true rfl) (Nat.le_of_ble_eq_true rfl) (by omega) (hRf (m - 1) (by omega) (by omega) hI85 (by omega) (by omega) (by decide) (by omega) hR2 hX2) ?_
      rintro _ H90 ⟨z95, rfl, g89, hI91, hq92, hx94⟩
      have hf96 : fq [(361, 3), (361, 4), (361, 5), (361, 9)] [362] true H H90 := fq_t hf88 hq92 rfl rfl rfl
      refine k_run 0 (pc' := 175) (l' := [(0, .inr (.inr 361)), (1, .inl a), (2, .inl b), (3, .inl 1)]) (st' := [.inl z95]) rfl ?_
      refine h_zeq (off := 16) (t := 191) rfl rfl (by omega) (fun c97 => ?_) (fun c97 => ?_)
      · refine k_run 0 (pc' := 191) (l' := [(0, .inr (.inr 361)), (1, .inl a), (2, .inl b), (3, .inl 1)]) (st' := []) rfl ?_
        refine k_run 1 (pc' := 192) (l' := [(0, .inr (.inr 361)), (1, .inl a), (2, .inl b), (3, .inl 1)]) (st' := [.inl 0]) rfl ?_
        refine h_retz (x := 0) rfl rfl (by decide) ?_
        rw [hQ9]
        exact ⟨_, rfl, (by omega), hI91, hf96, (by first | (exfalso; omega) | exact ⟨(Or.inr ⟨rfl, (Or.resolve_left hx94.1 (fun q9 => by have := q9.1; omega)).2⟩), NL_tr (NL_w hw2) hx94.2⟩)⟩
      · refine k_run 0 (pc' := 178) (l' := [(0, .inr (.inr 361)), (1, .inl a), (2, .inl b), (3, .inl 1)]) (st' := []) rfl ?_
        obtain ⟨X2, k1, k2, k3⟩ := (Or.resolve_right hx94.1 (fun q9 => by have := q9.1; omega)).2
        have hpa2 := RB_pa k2.1
        have htk2 := RB_tk k2.1
        refine k_run 2 (pc' := 181) (l' := [(0, .inr (.inr 361)), (1, .inl a), (2, .inl b), (3, .inl 1)]) (st' := [.inl 41, .inr (.inr 361)]) rfl ?_
        have g98 : -2147483648 ≤ (H90.1 361 3) ∧ (H90.1 361 3) ≤ 2147483647 := kn (x := kx_361) hI91 rfl 3
        have g99 : 0 ≤ (H90.1 2 5) ∧ (H90.1 2 5) ≤ 1001 := kn (x := kx_2) hI91 rfl 5
        have e100 : (H90.1 2 5) = (H84.1 2 5) := (hq92.1 2 5 rfl (by decide) (by decide)).1
        have e101 : (H84.1 2 5) = (H.1 2 5) := hw86.2 _ _ (fun q => absurd q.1 (by decide))
        refine h_cv (i := 92) (j := 82) (b := 361) (M' := mt_82) (xs := [.inl 41]) (rest := []) rfl rfl rfl rfl (zs_K (x := kx_361) rfl (by decide)) rfl (Nat.le_of_ble_eq_true rfl) (Nat.le_of_ble_eq_true rfl) (by omega) (q_Reader_take (by omega) hI91 (by decide) (by omega)) ?_
        rintro _ H103 ⟨z108, rfl, g102, hI104, hq105, hp106, hx107⟩
        have hf109 : fq [(361, 3), (361, 4), (361, 5), (361, 9)] [362] true H H103 := fq_t hf96 hq105 rfl rfl rfl
        refine k_run 0 (pc' := 184) (l' := [(0, .inr (.inr 361)), (1, .inl a), (2, .inl b), (3, .inl 1)]) (st' := [.inl z108]) rfl ?_
        refine h_zeq (off := 7) (t := 191) rfl rfl (by omega) (fun c110 => ?_) (fun c110 => ?_)
        · refine k_run 0 (pc' := 191) (l' := [(0, .inr (.inr 361)), (1, .inl a), (2, .inl b), (3, .inl 1)]) (st' := []) rfl ?_
          refine k_run 1 (pc' := 192) (l' := [(0, .inr (.inr 361)), (1, .inl a), (2, .inl b), (3, .inl 1)]) (st' := [.inl 0]) rfl ?_
          refine h_retz (x := 0) rfl rfl (by decide) ?_
          rw [hQ9]
          rw [htk2] at hx107
          exact ⟨_, rfl, (by omega), hI104, hf109, (by first | (exfalso; omega) | exact ⟨Or.elim hx107 (fun e => absurd e.1 (by omega)) (fun e => Or.inr ⟨rfl, FB_mk k2.1 hp106 nT345 (rch_st k1 (by show (if tk Y (xi X2) = 41 then _ else _) = _; rw [if_neg e.2.1]; rfl)) e.2.2.2.1 e.2.2.2.2⟩), NL_tr (NL_tr (NL_w hw2) hx94.2) (NL_fw hp106 (nX345 _))⟩)⟩
        · refine k_run 0 (pc' := 187) (l' := [(0, .inr (.inr 361)), (1, .inl a), (2, .inl b), (3, .inl 1)]) (st' := []) rfl ?_
          refine k_run 2 (pc' := 192) (l' := [(0, .inr (.inr 361)), (1, .inl a), (2, .inl b), (3, .inl 1)]) (st' := [.inl 1]) rfl ?_
          refine h_retz (x := 1) rfl rfl (by decide) ?_
          rw [hQ9]
          rw [htk2] at hx107
          exact ⟨_, rfl, (by omega), hI104, hf109, (by first | (exfalso; omega) | exact ⟨Or.elim hx107 (fun e => Or.inl ⟨rfl, adv X2, rch_st k1 (by show (if tk Y (xi X2) = 41 then _ else _) = _; rw [if_pos e.2.1]), RT_adv k2 hp106 n345 e.2.2 (RB_lt k2.1 (by omega) (by omega)), PW9_take (PW9_adv k3)⟩) (fun e => absurd e.1 (by omega)), NL_tr (NL_tr (NL_w hw2) hx94.2) (NL_fw hp106 (nX345 _))⟩)⟩
    · refine k_run 0 (pc' := 150) (l' := [(0, .inr (.inr 361)), (1, .inl a), (2, .inl b), (3, .inl 1)]) (st' := []) rfl ?_
      refine k_run 2 (pc' := 152) (l' := [(0, .inr (.inr 361)), (1, .inl a), (2, .inl b), (3, .inl 1)]) (st' := [.inl 5, .inr (.inr 361)]) rfl ?_
      refine h_cv (i := 128) (j := 86) (b := 361) (M' := mt_86) (xs := [.inl 5]) (rest := []) rfl rfl rfl rfl (zs_K (x := kx_361) rfl (by decide)) rfl (Nat.le_of_ble_eq_true rfl) (Nat.le_of_ble_eq_true rfl) (by omega) (q_Reader_fails (by omega) hI (by decide) (by omega)) ?_
      rintro _ H112 ⟨z117, rfl, g111, hI113, hq114, hp115, hx116⟩
      have hf118 : fq [(361, 3), (361, 4), (361, 5), (361, 9)] [362] true H H112 := fq_t (fq_rf _ _ _ _) hq114 rfl rfl rfl
      refine k_run 0 (pc' := 155) (l' := [(0, .inr (.inr 361)), (1, .inl a), (2, .inl b), (3, .inl 1)]) (st' := [.inl z117]) rfl ?_
      refine h_retz (x := z117) rfl rfl (by omega) ?_
      rw [hQ9]
      exact ⟨_, rfl, (by omega), hI113, hf118, (by first | (exfalso; omega) | exact ⟨(Or.inr ⟨by omega, FB_mk hB hp115 nF45 (rch_st hX (by show stTerm Y a b 1 K X = _; unfold stTerm; (repeat (first | rw [if_pos (by omega)] | rw [if_neg (by omega)])); try rfl)) hx116.1 hx116.2⟩), NL_fw hp115 (nXF45 _)⟩)⟩
  · refine k_lsw (t := 124) rfl (by omega) (by decide) (by rw [c10]) rfl ?_
    refine k_run 2 (pc' := 127) (l' := [(0, .inr (.inr 361)), (1, .inl a), (2, .inl b), (3, .inl 1)]) (st' := [.inl (-2), .inl a]) rfl ?_
    refine h_ine (off := 11) (t := 138) rfl rfl (by omega) (by decide) (fun c119 => ?_) (fun c119 => ?_)
    · refine k_run 0 (pc' := 138) (l' := [(0, .inr (.inr 361)), (1, .inl a), (2, .inl b), (3, .inl 1)]) (st' := []) rfl ?_
      refine k_run 2 (pc' := 140) (l' := [(0, .inr (.inr 361)), (1, .inl a), (2, .inl b), (3, .inl 1)]) (st' := [.inl 0, .inr (.inr 361)]) rfl ?_
      refine h_cv (i := 157) (j := 77) (b := 361) (M' := mt_77) (xs := [.inl 0]) (rest := []) rfl rfl rfl rfl (zs_K (x := kx_361) rfl (by decide)) rfl (Nat.le_of_ble_eq_true rfl) (Nat.le_of_ble_eq_true rfl) (by omega) (q_Reader_addName (by omega) hI (by decide) (by omega) (RT_TQ hR)) ?_
      rintro _ H121 ⟨z126, rfl, g120, hI122, hq123, hp124, hx125⟩
      have hf127 : fq [(361, 3), (361, 4), (361, 5), (361, 9)] [362] true H H121 := fq_t (fq_rf _ _ _ _) hq123 rfl rfl rfl
      refine k_run 0 (pc' := 143) (l' := [(0, .inr (.inr 361)), (1, .inl a), (2, .inl b), (3, .inl 1)]) (st' := [.inl z126]) rfl ?_
      refine h_retz (x := z126) rfl rfl (by omega) ?_
      rw [hQ9]
      exact ⟨_, rfl, (by omega), hI122, hf127, (by first | (exfalso; omega) | exact ⟨hx125.elim (fun e => Or.inl ⟨e.1, xput X 0, (rch_st hX (by show stTerm Y a b 1 K X = _; unfold stTerm; (repeat (first | rw [if_pos (by omega)] | rw [if_neg (by omega)])); try rfl)), RT_put hR hp124 e.2.2.1 e.2.2.2.1 e.2.2.2.2 (by omega) (RB_lt hB (by omega) (by omega)), PW9_put hsz.2.1 (fun q9 => absurd q9 (by omega))⟩) (fun e => Or.inr ⟨e.1, FB_mk hB e.2.2.1 nF45 (rch_st hX (by show stTerm Y a b 1 K X = _; unfold stTerm; (repeat (first | rw [if_pos (by omega)] | rw [if_neg (by omega)])); try rfl)) e.2.2.2.1 e.2.2.2.2⟩), NL_fw hp124 (nX_put (by first | exact RT_TQ hR1 | exact RT_TQ hR2 | exact RT_TQ hR3 | exact RT_TQ hR))⟩)⟩
    · refine k_run 0 (pc' := 130) (l' := [(0, .inr (.inr 361)), (1, .inl a), (2, .inl b), (3, .inl 1)]) (st' := []) rfl ?_
      refine k_run 2 (pc' := 132) (l' := [(0, .inr (.inr 361)), (1, .inl a), (2, .inl b), (3, .inl 1)]) (st' := [.inl 2, .inr (.inr 361)]) rfl ?_
      refine h_cv (i := 128) (j := 86) (b := 361) (M' := mt_86) (xs := [.inl 2]) (rest := []) rfl rfl rfl rfl (zs_K (x := kx_361) rfl (by decide)) rfl (Nat.le_of_ble_eq_true rfl) (Nat.le_of_ble_eq_true rfl) (by omega) (q_Reader_fails (by omega) hI (by decide) (by omega)) ?_
      rintro _ H129 ⟨z134, rfl, g128, hI130, hq131, hp132, hx133⟩
      have hf135 : fq [(361, 3), (361, 4), (361, 5), (361, 9)] [362] true H H129 := fq_t (fq_rf _ _ _ _) hq131 rfl rfl rfl
      refine k_run 0 (pc' := 135) (l' := [(0, .inr (.inr 361)), (1, .inl a), (2, .inl b), (3, .inl 1)]) (st' := [.inl z134]) rfl ?_
      refine k_run 1 (pc' := 143) (l' := [(0, .inr (.inr 361)), (1, .inl a), (2, .inl b), (3, .inl 1)]) (st' := [.inl z134]) rfl ?_
      refine h_retz (x := z134) rfl rfl (by omega) ?_
      rw [hQ9]
      exact ⟨_, rfl, (by omega), hI130, hf135, (by first | (exfalso; omega) | exact ⟨(Or.inr ⟨by omega, FB_mk hB hp132 nF45 (rch_st hX (by show stTerm Y a b 1 K X = _; unfold stTerm; (repeat (first | rw [if_pos (by omega)] | rw [if_neg (by omega)])); try rfl)) hx133.1 hx133.2⟩), NL_fw hp132 (nXF45 _)⟩)⟩

/-! Reader.readApplied -/
set_option maxRecDepth 100000 in
theorem q_readApplied_2_cut {Y : yx} {q : Nat} {c0 : cf} {K : List tq} {X : rx} {m : Nat} {d : Nat} (hd : 3 * m + 9 ≤ d) {H : hp} (hI : Inv H) {x : Int} {a : Int} {b : Int} {c : Int} (hx : -2147483648 ≤ x ∧ x ≤ 2147483647) (ha : -2147483648 ≤ a ∧ a ≤ 2147483647) (hb : -2147483648 ≤ b ∧ b ≤ 2147483647) (hc : 0 ≤ c ∧ c ≤ 1) (hp0 : 0 ≤ x ∧ x < 16) (hp1 : -2 ≤ a ∧ a ≤ 100 ∧ 0 ≤ b ∧ b ≤ 10 ∧ 10 ≤ b + (m : Int)) (hR : RT Y q H X) (hX : rch Y c0 ((2, a, b, c) :: K, X)) (h2 : tk Y (xi X) = 2) (hf9 : ffd Y X = x) (hR1 : RT1f m) : ∀ w : Nat, (∀ (H1 : hp), Inv H1 → fq [(361, 3), (361, 4), (361, 5), (361, 9)] [362] true H H1 → ∀ (x7 : Int) (x8 : Int) (x9 : Int) , (-2147483648 ≤ x7 ∧ x7 ≤ 2147483647) → (-2147483648 ≤ x8 ∧ x8 ≤ 2147483647) → (-2147483648 ≤ x9 ∧ x9 ≤ 2147483647) → (x7 = H.1 21 x.toNat) → (0 ≤ x9) → (x7 ≤ 4) → (0 ≤ x8 ∧ x8 ≤ 1) → ((x8 = 1 ∧ x9 ≤ x7 ∧ ∃ X1 : rx, rch Y c0 ((3, (100 + x), x9, b) :: K, X1) ∧ RT Y q H1 X1 ∧ PW9 a X X1) ∨ (x8 = 0 ∧ FB Y c0 H1)) → (NL H H1) → (((100 - x9).toNat) < w) → hG (zs zK) d mt_74 86 [(0, .inr (.inr 361)), (1, .inl 2), (2, .inl x), (3, .inl a), (4, .inl b), (5, .inl c), (6, .inr (.inr 18)), (7, .inl x7), (8, .inl x8), (9, .inl x9)] [] H1 (fun r9 H9 => ∃ z : Int, r9 = some (.inl z) ∧ ((0 ≤ z ∧ z ≤ 1)) ∧ Inv H9 ∧ fq [(361, 3), (361, 4), (361, 5), (361, 9)] [362] true H H9 ∧ ((OT Y q c0 K (PW9 a X) z H9) ∧ NL H H9))) := by
  intro w
  induction w with
  | zero => exact fun _ _ _ _ _ _ _ _ _ _ _ _ _ _ _ h => absurd h (Nat.not_lt_zero _)
  | succ w ih =>
    intro H1 hI1 hf1 x7 x8 x9 hx7 hx8 hx9 hi0 hi1 hi2 hi3 hi4 hi5 hw
    obtain ⟨Q9, hQ9⟩ : ∃ Q9 : Option zv → hp → Prop, Q9 = (fun r9 H9 => ∃ z : Int, r9 = some (.inl z) ∧ ((0 ≤ z ∧ z ≤ 1)) ∧ Inv H9 ∧ fq [(361, 3), (361, 4), (361, 5), (361, 9)] [362] true H H9 ∧ ((OT Y q c0 K (PW9 a X) z H9) ∧ NL H H9)) := ⟨_, rfl⟩
    rw [← hQ9]
    obtain ⟨hB, hV, hS⟩ := id hR
    have hpa := RB_pa hB
    have htk := RB_tk hB
    obtain ⟨kE, hkE, hEE⟩ := hV.2.1
    have hmo := hV.1
    have hsz := hS.2.1
    have hb9 := ffd_b Y X
    have hcn := hB.2.1.1.2.2.1
    have hlt : x < H.1 18 4 := by omega
    obtain ⟨ha1, ha2, ha3, ha4⟩ := RB_f hB (by omega) hlt
    have f18 : H1.1 18 4 = H.1 18 4 := (hf1.1 18 4 rfl (by decide) (by decide)).1
    have f21 : H1.1 21 x.toNat = H.1 21 x.toNat := (hf1.1 21 _ rfl (by decide) (fun q => by simp at q)).1
    refine k_run 1 (pc' := 88) (l' := [(0, .inr (.inr 361)), (1, .inl 2), (2, .inl x), (3, .inl a), (4, .inl b), (5, .inl c), (6, .inr (.inr 18)), (7, .inl x7), (8, .inl x8), (9, .inl x9)]) (st' := [.inl x8]) rfl ?_
    refine h_zeq (off := 33) (t := 121) rfl rfl (by omega) (fun c108 => ?_) (fun c108 => ?_)
    · refine k_run 0 (pc' := 121) (l' := [(0, .inr (.inr 361)), (1, .inl 2), (2, .inl x), (3, .inl a), (4, .inl b), (5, .inl c), (6, .inr (.inr 18)), (7, .inl x7), (8, .inl x8), (9, .inl x9)]) (st' := []) rfl ?_
      refine k_run 1 (pc' := 123) (l' := [(0, .inr (.inr 361)), (1, .inl 2), (2, .inl x), (3, .inl a), (4, .inl b), (5, .inl c), (6, .inr (.inr 18)), (7, .inl x7), (8, .inl x8), (9, .inl x9)]) (st' := [.inl x8]) rfl ?_
      refine h_retz (x := x8) rfl rfl (by omega) ?_
      rw [hQ9]
      exact ⟨_, rfl, (by omega), hI1, hf1, (by first | (exfalso; omega) | exact ⟨hi4.elim (fun e => Or.inl ⟨e.1, e.2.2.imp (fun X1 g => ⟨rch_st g.1 (by show (if x9 < ar X1 (100 + x) then _ else _) = _; rw [if_neg (by rw [(RB_f (x := x) g.2.1.1 (by omega) (by omega)).1]; omega)]), g.2.1, g.2.2⟩)⟩) (fun e => Or.inr e), hi5⟩)⟩
    · refine k_run 0 (pc' := 91) (l' := [(0, .inr (.inr 361)), (1, .inl 2), (2, .inl x), (3, .inl a), (4, .inl b), (5, .inl c), (6, .inr (.inr 18)), (7, .inl x7), (8, .inl x8), (9, .inl x9)]) (st' := []) rfl ?_
      refine k_run 2 (pc' := 95) (l' := [(0, .inr (.inr 361)), (1, .inl 2), (2, .inl x), (3, .inl a), (4, .inl b), (5, .inl c), (6, .inr (.inr 18)), (7, .inl x7), (8, .inl x8), (9, .inl x9)]) (st' := [.inl x7, .inl x9]) rfl ?_
      refine h_ige (off := 26) (t := 121) rfl rfl (by omega) (by omega) (fun c109 => ?_) (fun c109 => ?_)
      · refine k_run 0 (pc' := 121) (l' := [(0, .inr (.inr 361)), (1, .inl 2), (2, .inl x), (3, .inl a), (4, .inl b), (5, .inl c), (6, .inr (.inr 18)), (7, .inl x7), (8, .inl x8), (9, .inl x9)]) (st' := []) rfl ?_
        refine k_run 1 (pc' := 123) (l' := [(0, .inr (.inr 361)), (1, .inl 2), (2, .inl x), (3, .inl a), (4, .inl b), (5, .inl c), (6, .inr (.inr 18)), (7, .inl x7), (8, .inl x8), (9, .inl x9)]) (st' := [.inl x8]) rfl ?_
        refine h_retz (x := x8) rfl rfl (by omega) ?_
        rw [hQ9]
        exact ⟨_, rfl, (by omega), hI1, hf1, (by first | (exfalso; omega) | exact ⟨hi4.elim (fun e => Or.inl ⟨e.1, e.2.2.imp (fun X1 g => ⟨rch_st g.1 (by show (if x9 < ar X1 (100 + x) then _ else _) = _; rw [if_neg (by rw [(RB_f (x := x) g.2.1.1 (by omega) (by omega)).1]; omega)]), g.2.1, g.2.2⟩)⟩) (fun e => Or.inr e), hi5⟩)⟩
      · refine k_run 0 (pc' := 98) (l' := [(0, .inr (.inr 361)), (1, .inl 2), (2, .inl x), (3, .inl a), (4, .inl b), (5, .inl c), (6, .inr (.inr 18)), (7, .inl x7), (8, .inl x8), (9, .inl x9)]) (st' := []) rfl ?_
        obtain ⟨k1, k2, X1, k3, k4, k5⟩ := hi4.resolve_right (fun q9 => by have := q9.1; omega)
        have hpa1 := RB_pa k4.1
        obtain ⟨b1, -, -, b4⟩ := RB_f (x := x) k4.1 (by omega) (by omega)
        refine k_run 4 (pc' := 104) (l' := [(0, .inr (.inr 361)), (1, .inl 2), (2, .inl x), (3, .inl a), (4, .inl b), (5, .inl c), (6, .inr (.inr 18)), (7, .inl x7), (8, .inl x8), (9, .inl x9)]) (st' := [.inl x9, .inl x, .inr (.inr 18), .inr (.inr 361)]) rfl ?_
        refine h_cv (i := 160) (j := 45) (b := 18) (M' := mt_45) (xs := [.inl x9, .inl x]) (rest := [.inr (.inr 361)]) rfl rfl rfl rfl (zs_K (x := kx_18) rfl (by decide)) rfl (Nat.le_of_ble_eq_true rfl) (Nat.le_of_ble_eq_true rfl) (by omega) (q_Symbols_argument_18 (by omega) hI1 (by omega) (by omega) (by omega)) ?_
        rintro _ _ ⟨z116, rfl, g110, hx115, rfl⟩
        refine k_run 0 (pc' := 107) (l' := [(0, .inr (.inr 361)), (1, .inl 2), (2, .inl x), (3, .inl a), (4, .inl b), (5, .inl c), (6, .inr (.inr 18)), (7, .inl x7), (8, .inl x8), (9, .inl x9)]) (st' := [.inl z116, .inr (.inr 361)]) rfl ?_
        have k6 : rch Y c0 ((2, z116, b, 1) :: (3, (100 + x), x9 + 1, b) :: K, X1) := rch_st k3 (by show (if x9 < ar X1 (100 + x) then _ else _) = _; rw [if_pos (by omega), b4 x9 (by omega) (by omega), ← hx115])
        refine k_run 2 (pc' := 110) (l' := [(0, .inr (.inr 361)), (1, .inl 2), (2, .inl x), (3, .inl a), (4, .inl b), (5, .inl c), (6, .inr (.inr 18)), (7, .inl x7), (8, .inl x8), (9, .inl x9)]) (st' := [.inl 1, .inl b, .inl z116, .inr (.inr 361)]) rfl ?_
        refine h_cv (i := 109) (j := 73) (b := 361) (M' := mt_73) (xs := [.inl 1, .inl b, .inl z116]) (rest := []) rfl rfl rfl rfl (zs_K (x := kx_361) rfl (by decide)) rfl (Nat.le_of_ble_eq_true rfl) (Nat.le_of_ble_eq_true rfl) (by omega) (hR1 (by omega) hI1 (by omega) (by omega) (by omega) k4 k6) ?_
        rintro _ H118 ⟨z123, rfl, g117, hI119, hq120, hx122⟩
        have hf124 : fq [(361, 3), (361, 4), (361, 5), (361, 9)] [362] true H H118 := fq_t hf1 hq120 rfl rfl rfl
        refine k_run 0 (pc' := 113) (l' := [(0, .inr (.inr 361)), (1, .inl 2), (2, .inl x), (3, .inl a), (4, .inl b), (5, .inl c), (6, .inr (.inr 18)), (7, .inl x7), (8, .inl x8), (9, .inl x9)]) (st' := [.inl z123]) rfl ?_
        refine k_run 3 (pc' := 86) (l' := [(0, .inr (.inr 361)), (1, .inl 2), (2, .inl x), (3, .inl a), (4, .inl b), (5, .inl c), (6, .inr (.inr 18)), (7, .inl x7), (8, .inl z123), (9, .inl (x9 + 1))]) (st' := []) rfl ?_
        rw [hQ9]
        exact ih H118 hI119 hf124 x7 z123 (x9 + 1) (by omega) (by omega) (by omega) (by omega) (by omega) (by omega) (by omega) (Or.elim hx122.1 (fun e => Or.inl ⟨e.1, by omega, e.2.imp (fun X2 g => ⟨g.1, g.2.1, PW9_tr k5 g.2.2⟩)⟩) (fun e => Or.inr e)) (NL_tr hi5 hx122.2) (by omega)
set_option maxRecDepth 100000 in
theorem q_readApplied_2 {Y : yx} {q : Nat} {c0 : cf} {K : List tq} {X : rx} {m : Nat} {d : Nat} (hd : 3 * m + 9 ≤ d) {H : hp} (hI : Inv H) {x : Int} {a : Int} {b : Int} {c : Int} (hx : -2147483648 ≤ x ∧ x ≤ 2147483647) (ha : -2147483648 ≤ a ∧ a ≤ 2147483647) (hb : -2147483648 ≤ b ∧ b ≤ 2147483647) (hc : 0 ≤ c ∧ c ≤ 1) (hp0 : 0 ≤ x ∧ x < 16) (hp1 : -2 ≤ a ∧ a ≤ 100 ∧ 0 ≤ b ∧ b ≤ 10 ∧ 10 ≤ b + (m : Int)) (hR : RT Y q H X) (hX : rch Y c0 ((2, a, b, c) :: K, X)) (h2 : tk Y (xi X) = 2) (hf9 : ffd Y X = x) (hR1 : RT1f m) : hG (zs zK) d mt_74 0 (zargs 0 [.inr (.inr 361), .inl 2, .inl x, .inl a, .inl b, .inl c]) [] H (fun r9 H9 => ∃ z : Int, r9 = some (.inl z) ∧ ((0 ≤ z ∧ z ≤ 1)) ∧ Inv H9 ∧ fq [(361, 3), (361, 4), (361, 5), (361, 9)] [362] true H H9 ∧ ((OT Y q c0 K (PW9 a X) z H9) ∧ NL H H9)) := by
  obtain ⟨hB, hV, hS⟩ := id hR
  have hpa := RB_pa hB
  have htk := RB_tk hB
  obtain ⟨kE, hkE, hEE⟩ := hV.2.1
  have hmo := hV.1
  have hsz := hS.2.1
  have hb9 := ffd_b Y X
  have hcn := hB.2.1.1.2.2.1
  have hlt : x < H.1 18 4 := by omega
  obtain ⟨ha1, ha2, ha3, ha4⟩ := RB_f hB (by omega) hlt
  obtain ⟨Q9, hQ9⟩ : ∃ Q9 : Option zv → hp → Prop, Q9 = (fun r9 H9 => ∃ z : Int, r9 = some (.inl z) ∧ ((0 ≤ z ∧ z ≤ 1)) ∧ Inv H9 ∧ fq [(361, 3), (361, 4), (361, 5), (361, 9)] [362] true H H9 ∧ ((OT Y q c0 K (PW9 a X) z H9) ∧ NL H H9)) := ⟨_, rfl⟩
  rw [← hQ9]
  refine k_run 0 (pc' := 0) (l' := [(0, .inr (.inr 361)), (1, .inl 2), (2, .inl x), (3, .inl a), (4, .inl b), (5, .inl c)]) (st' := []) rfl ?_
  refine k_run 2 (pc' := 2) (l' := [(0, .inr (.inr 361)), (1, .inl 2), (2, .inl x), (3, .inl a), (4, .inl b), (5, .inl c)]) (st' := [.inl 2, .inl 2]) rfl ?_
  refine h_ine (off := 13) (t := 15) rfl rfl (by decide) (by decide) (fun c => absurd c (by decide)) (fun _ => ?_)
  refine k_run 0 (pc' := 5) (l' := [(0, .inr (.inr 361)), (1, .inl 2), (2, .inl x), (3, .inl a), (4, .inl b), (5, .inl c)]) (st' := []) rfl ?_
  refine k_run 8 (pc' := 30) (l' := [(0, .inr (.inr 361)), (1, .inl 2), (2, .inl x), (3, .inl a), (4, .inl b), (5, .inl c), (6, .inr (.inr 18))]) (st' := [.inl x, .inr (.inr 21)]) rfl ?_
  refine k_ild (c := 21) (j := (x).toNat) (i := x) (x := kx_21) rfl rfl (by decide) rfl (by decide) (by omega) (by omega) ?_
  have g1 : 0 ≤ (H.1 21 (x).toNat) ∧ (H.1 21 (x).toNat) ≤ 4 := kn (x := kx_21) hI rfl (x).toNat
  refine k_run 0 (pc' := 31) (l' := [(0, .inr (.inr 361)), (1, .inl 2), (2, .inl x), (3, .inl a), (4, .inl b), (5, .inl c), (6, .inr (.inr 18))]) (st' := [.inl (H.1 21 (x).toNat)]) rfl ?_
  refine k_run 2 (pc' := 35) (l' := [(0, .inr (.inr 361)), (1, .inl 2), (2, .inl x), (3, .inl a), (4, .inl b), (5, .inl c), (6, .inr (.inr 18)), (7, .inl (H.1 21 (x).toNat))]) (st' := [.inl c]) rfl ?_
  refine h_zeq (off := 14) (t := 49) rfl rfl (by omega) (fun c2 => ?_) (fun c2 => ?_)
  · refine k_run 0 (pc' := 49) (l' := [(0, .inr (.inr 361)), (1, .inl 2), (2, .inl x), (3, .inl a), (4, .inl b), (5, .inl c), (6, .inr (.inr 18)), (7, .inl (H.1 21 (x).toNat))]) (st' := []) rfl ?_
    refine k_run 1 (pc' := 50) (l' := [(0, .inr (.inr 361)), (1, .inl 2), (2, .inl x), (3, .inl a), (4, .inl b), (5, .inl c), (6, .inr (.inr 18)), (7, .inl (H.1 21 (x).toNat))]) (st' := [.inl a]) rfl ?_
    refine h_zlt (off := 20) (t := 70) rfl rfl (by omega) (fun c3 => ?_) (fun c3 => ?_)
    · refine k_run 0 (pc' := 70) (l' := [(0, .inr (.inr 361)), (1, .inl 2), (2, .inl x), (3, .inl a), (4, .inl b), (5, .inl c), (6, .inr (.inr 18)), (7, .inl (H.1 21 (x).toNat))]) (st' := []) rfl ?_
      refine k_run 4 (pc' := 75) (l' := [(0, .inr (.inr 361)), (1, .inl 2), (2, .inl x), (3, .inl a), (4, .inl b), (5, .inl c), (6, .inr (.inr 18)), (7, .inl (H.1 21 (x).toNat))]) (st' := [.inl (H.1 21 (x).toNat), .inl x, .inl 2, .inr (.inr 361)]) rfl ?_
      refine h_cs (i := 153) (j := 48) (M' := mt_48) (xs := [.inl (H.1 21 (x).toNat), .inl x, .inl 2]) (rest := [.inr (.inr 361)]) rfl rfl rfl rfl rfl (Nat.le_of_ble_eq_true rfl) (Nat.le_of_ble_eq_true rfl) (by omega) (q_Term_codeOf (by omega)  (by decide) (by omega) (by omega)) ?_
      rintro _ _ ⟨z10, rfl, g4, hx9, rfl⟩
      refine k_run 0 (pc' := 78) (l' := [(0, .inr (.inr 361)), (1, .inl 2), (2, .inl x), (3, .inl a), (4, .inl b), (5, .inl c), (6, .inr (.inr 18)), (7, .inl (H.1 21 (x).toNat))]) (st' := [.inl z10, .inr (.inr 361)]) rfl ?_
      have g11 : -2147483648 ≤ (H.1 361 3) ∧ (H.1 361 3) ≤ 2147483647 := kn (x := kx_361) hI rfl 3
      have g12 : 0 ≤ (H.1 2 5) ∧ (H.1 2 5) ≤ 1001 := kn (x := kx_2) hI rfl 5
      refine h_cv (i := 157) (j := 77) (b := 361) (M' := mt_77) (xs := [.inl z10]) (rest := []) rfl rfl rfl rfl (zs_K (x := kx_361) rfl (by decide)) rfl (Nat.le_of_ble_eq_true rfl) (Nat.le_of_ble_eq_true rfl) (by omega) (q_Reader_addName (by omega) hI (by omega) (by omega) (RT_TQ hR)) ?_
      rintro _ H14 ⟨z19, rfl, g13, hI15, hq16, hp17, hx18⟩
      have hf20 : fq [(361, 3), (361, 4), (361, 5), (361, 9)] [362] true H H14 := fq_t (fq_rf _ _ _ _) hq16 rfl rfl rfl
      refine k_run 0 (pc' := 81) (l' := [(0, .inr (.inr 361)), (1, .inl 2), (2, .inl x), (3, .inl a), (4, .inl b), (5, .inl c), (6, .inr (.inr 18)), (7, .inl (H.1 21 (x).toNat))]) (st' := [.inl z19]) rfl ?_
      refine k_run 3 (pc' := 86) (l' := [(0, .inr (.inr 361)), (1, .inl 2), (2, .inl x), (3, .inl a), (4, .inl b), (5, .inl c), (6, .inr (.inr 18)), (7, .inl (H.1 21 (x).toNat)), (8, .inl z19), (9, .inl 0)]) (st' := []) rfl ?_
      rw [hQ9]
      exact (q_readApplied_2_cut hd hI hx ha hb hc hp0 hp1 hR hX h2 hf9 hR1 _) H14 hI15 hf20 (H.1 21 (x).toNat) z19 (0 : Int) (by omega) (by omega) (by decide) (by omega) (by omega) (by omega) (by omega) (hx18.elim (fun e => Or.inl ⟨e.1, by omega, xput X (100 + x), (rch_st hX (by show stTerm Y a b c K X = _; unfold stTerm stApp; rw [hf9]; (repeat (first | rw [if_pos (by omega)] | rw [if_neg (by omega)])); try rfl)), RT_put hR hp17 (e.2.2.1.trans (hx9.trans (by rw [← ha2]; exact (kcd_f X ⟨by omega, by omega⟩).symm))) e.2.2.2.1 e.2.2.2.2 (by omega) (RB_lt hB (by omega) (by omega)), PW9_put hsz.2.1 (fun _ => Or.inr ⟨by omega, by omega, by omega⟩)⟩) (fun e => Or.inr ⟨e.1, FB_mk hB e.2.2.1 nF45 (rch_st hX (by show stTerm Y a b c K X = _; unfold stTerm stApp; rw [hf9]; (repeat (first | rw [if_pos (by omega)] | rw [if_neg (by omega)])); try rfl)) e.2.2.2.1 e.2.2.2.2⟩)) (NL_fw hp17 (nX_put (by first | exact RT_TQ hR1 | exact RT_TQ hR2 | exact RT_TQ hR3 | exact RT_TQ hR))) (Nat.lt_succ_self _)
    · refine k_run 0 (pc' := 53) (l' := [(0, .inr (.inr 361)), (1, .inl 2), (2, .inl x), (3, .inl a), (4, .inl b), (5, .inl c), (6, .inr (.inr 18)), (7, .inl (H.1 21 (x).toNat))]) (st' := []) rfl ?_
      refine k_run 3 (pc' := 59) (l' := [(0, .inr (.inr 361)), (1, .inl 2), (2, .inl x), (3, .inl a), (4, .inl b), (5, .inl c), (6, .inr (.inr 18)), (7, .inl (H.1 21 (x).toNat))]) (st' := [.inl x, .inr (.inr 20)]) rfl ?_
      refine k_ild (c := 20) (j := (x).toNat) (i := x) (x := kx_20) rfl rfl (by decide) rfl (by decide) (by omega) (by omega) ?_
      have g21 : -2 ≤ (H.1 20 (x).toNat) ∧ (H.1 20 (x).toNat) ≤ 100 := kn (x := kx_20) hI rfl (x).toNat
      refine k_run 0 (pc' := 60) (l' := [(0, .inr (.inr 361)), (1, .inl 2), (2, .inl x), (3, .inl a), (4, .inl b), (5, .inl c), (6, .inr (.inr 18)), (7, .inl (H.1 21 (x).toNat))]) (st' := [.inl (H.1 20 (x).toNat)]) rfl ?_
      refine k_run 1 (pc' := 61) (l' := [(0, .inr (.inr 361)), (1, .inl 2), (2, .inl x), (3, .inl a), (4, .inl b), (5, .inl c), (6, .inr (.inr 18)), (7, .inl (H.1 21 (x).toNat))]) (st' := [.inl a, .inl (H.1 20 (x).toNat)]) rfl ?_
      refine h_ieq (off := 9) (t := 70) rfl rfl (by omega) (by omega) (fun c22 => ?_) (fun c22 => ?_)
      · refine k_run 0 (pc' := 70) (l' := [(0, .inr (.inr 361)), (1, .inl 2), (2, .inl x), (3, .inl a), (4, .inl b), (5, .inl c), (6, .inr (.inr 18)), (7, .inl (H.1 21 (x).toNat))]) (st' := []) rfl ?_
        refine k_run 4 (pc' := 75) (l' := [(0, .inr (.inr 361)), (1, .inl 2), (2, .inl x), (3, .inl a), (4, .inl b), (5, .inl c), (6, .inr (.inr 18)), (7, .inl (H.1 21 (x).toNat))]) (st' := [.inl (H.1 21 (x).toNat), .inl x, .inl 2, .inr (.inr 361)]) rfl ?_
        refine h_cs (i := 153) (j := 48) (M' := mt_48) (xs := [.inl (H.1 21 (x).toNat), .inl x, .inl 2]) (rest := [.inr (.inr 361)]) rfl rfl rfl rfl rfl (Nat.le_of_ble_eq_true rfl) (Nat.le_of_ble_eq_true rfl) (by omega) (q_Term_codeOf (by omega)  (by decide) (by omega) (by omega)) ?_
        rintro _ _ ⟨z29, rfl, g23, hx28, rfl⟩
        refine k_run 0 (pc' := 78) (l' := [(0, .inr (.inr 361)), (1, .inl 2), (2, .inl x), (3, .inl a), (4, .inl b), (5, .inl c), (6, .inr (.inr 18)), (7, .inl (H.1 21 (x).toNat))]) (st' := [.inl z29, .inr (.inr 361)]) rfl ?_
        have g30 : -2147483648 ≤ (H.1 361 3) ∧ (H.1 361 3) ≤ 2147483647 := kn (x := kx_361) hI rfl 3
        have g31 : 0 ≤ (H.1 2 5) ∧ (H.1 2 5) ≤ 1001 := kn (x := kx_2) hI rfl 5
        refine h_cv (i := 157) (j := 77) (b := 361) (M' := mt_77) (xs := [.inl z29]) (rest := []) rfl rfl rfl rfl (zs_K (x := kx_361) rfl (by decide)) rfl (Nat.le_of_ble_eq_true rfl) (Nat.le_of_ble_eq_true rfl) (by omega) (q_Reader_addName (by omega) hI (by omega) (by omega) (RT_TQ hR)) ?_
        rintro _ H33 ⟨z38, rfl, g32, hI34, hq35, hp36, hx37⟩
        have hf39 : fq [(361, 3), (361, 4), (361, 5), (361, 9)] [362] true H H33 := fq_t (fq_rf _ _ _ _) hq35 rfl rfl rfl
        refine k_run 0 (pc' := 81) (l' := [(0, .inr (.inr 361)), (1, .inl 2), (2, .inl x), (3, .inl a), (4, .inl b), (5, .inl c), (6, .inr (.inr 18)), (7, .inl (H.1 21 (x).toNat))]) (st' := [.inl z38]) rfl ?_
        refine k_run 3 (pc' := 86) (l' := [(0, .inr (.inr 361)), (1, .inl 2), (2, .inl x), (3, .inl a), (4, .inl b), (5, .inl c), (6, .inr (.inr 18)), (7, .inl (H.1 21 (x).toNat)), (8, .inl z38), (9, .inl 0)]) (st' := []) rfl ?_
        rw [hQ9]
        exact (q_readApplied_2_cut hd hI hx ha hb hc hp0 hp1 hR hX h2 hf9 hR1 _) H33 hI34 hf39 (H.1 21 (x).toNat) z38 (0 : Int) (by omega) (by omega) (by decide) (by omega) (by omega) (by omega) (by omega) (hx37.elim (fun e => Or.inl ⟨e.1, by omega, xput X (100 + x), (rch_st hX (by show stTerm Y a b c K X = _; unfold stTerm stApp; rw [hf9]; (repeat (first | rw [if_pos (by omega)] | rw [if_neg (by omega)])); try rfl)), RT_put hR hp36 (e.2.2.1.trans (hx28.trans (by rw [← ha2]; exact (kcd_f X ⟨by omega, by omega⟩).symm))) e.2.2.2.1 e.2.2.2.2 (by omega) (RB_lt hB (by omega) (by omega)), PW9_put hsz.2.1 (fun _ => Or.inr ⟨by omega, by omega, by omega⟩)⟩) (fun e => Or.inr ⟨e.1, FB_mk hB e.2.2.1 nF45 (rch_st hX (by show stTerm Y a b c K X = _; unfold stTerm stApp; rw [hf9]; (repeat (first | rw [if_pos (by omega)] | rw [if_neg (by omega)])); try rfl)) e.2.2.2.1 e.2.2.2.2⟩)) (NL_fw hp36 (nX_put (by first | exact RT_TQ hR1 | exact RT_TQ hR2 | exact RT_TQ hR3 | exact RT_TQ hR))) (Nat.lt_succ_self _)
      · refine k_run 0 (pc' := 64) (l' := [(0, .inr (.inr 361)), (1, .inl 2), (2, .inl x), (3, .inl a), (4, .inl b), (5, .inl c), (6, .inr (.inr 18)), (7, .inl (H.1 21 (x).toNat))]) (st' := []) rfl ?_
        refine k_run 2 (pc' := 66) (l' := [(0, .inr (.inr 361)), (1, .inl 2), (2, .inl x), (3, .inl a), (4, .inl b), (5, .inl c), (6, .inr (.inr 18)), (7, .inl (H.1 21 (x).toNat))]) (st' := [.inl 4, .inr (.inr 361)]) rfl ?_
        have g40 : -2147483648 ≤ (H.1 361 3) ∧ (H.1 361 3) ≤ 2147483647 := kn (x := kx_361) hI rfl 3
        have g41 : 0 ≤ (H.1 2 5) ∧ (H.1 2 5) ≤ 1001 := kn (x := kx_2) hI rfl 5
        refine h_cv (i := 128) (j := 86) (b := 361) (M' := mt_86) (xs := [.inl 4]) (rest := []) rfl rfl rfl rfl (zs_K (x := kx_361) rfl (by decide)) rfl (Nat.le_of_ble_eq_true rfl) (Nat.le_of_ble_eq_true rfl) (by omega) (q_Reader_fails (by omega) hI (by decide) (by omega)) ?_
        rintro _ H43 ⟨z48, rfl, g42, hI44, hq45, hp46, hx47⟩
        have hf49 : fq [(361, 3), (361, 4), (361, 5), (361, 9)] [362] true H H43 := fq_t (fq_rf _ _ _ _) hq45 rfl rfl rfl
        refine k_run 0 (pc' := 69) (l' := [(0, .inr (.inr 361)), (1, .inl 2), (2, .inl x), (3, .inl a), (4, .inl b), (5, .inl c), (6, .inr (.inr 18)), (7, .inl (H.1 21 (x).toNat))]) (st' := [.inl z48]) rfl ?_
        refine h_retz (x := z48) rfl rfl (by omega) ?_
        rw [hQ9]
        exact ⟨_, rfl, (by omega), hI44, hf49, (by first | (exfalso; omega) | exact ⟨(Or.inr ⟨by omega, FB_mk hB hp46 nF45 (rch_st hX (by show stTerm Y a b c K X = _; unfold stTerm stApp; rw [hf9]; (repeat (first | rw [if_pos (by omega)] | rw [if_neg (by omega)])); try rfl)) hx47.1 hx47.2⟩), NL_fw hp46 (nXF45 _)⟩)⟩
  · refine k_run 0 (pc' := 38) (l' := [(0, .inr (.inr 361)), (1, .inl 2), (2, .inl x), (3, .inl a), (4, .inl b), (5, .inl c), (6, .inr (.inr 18)), (7, .inl (H.1 21 (x).toNat))]) (st' := []) rfl ?_
    refine k_run 1 (pc' := 40) (l' := [(0, .inr (.inr 361)), (1, .inl 2), (2, .inl x), (3, .inl a), (4, .inl b), (5, .inl c), (6, .inr (.inr 18)), (7, .inl (H.1 21 (x).toNat))]) (st' := [.inl (H.1 21 (x).toNat)]) rfl ?_
    refine h_zle (off := 9) (t := 49) rfl rfl (by omega) (fun c50 => ?_) (fun c50 => ?_)
    · refine k_run 0 (pc' := 49) (l' := [(0, .inr (.inr 361)), (1, .inl 2), (2, .inl x), (3, .inl a), (4, .inl b), (5, .inl c), (6, .inr (.inr 18)), (7, .inl (H.1 21 (x).toNat))]) (st' := []) rfl ?_
      refine k_run 1 (pc' := 50) (l' := [(0, .inr (.inr 361)), (1, .inl 2), (2, .inl x), (3, .inl a), (4, .inl b), (5, .inl c), (6, .inr (.inr 18)), (7, .inl (H.1 21 (x).toNat))]) (st' := [.inl a]) rfl ?_
      refine h_zlt (off := 20) (t := 70) rfl rfl (by omega) (fun c51 => ?_) (fun c51 => ?_)
      · refine k_run 0 (pc' := 70) (l' := [(0, .inr (.inr 361)), (1, .inl 2), (2, .inl x), (3, .inl a), (4, .inl b), (5, .inl c), (6, .inr (.inr 18)), (7, .inl (H.1 21 (x).toNat))]) (st' := []) rfl ?_
        refine k_run 4 (pc' := 75) (l' := [(0, .inr (.inr 361)), (1, .inl 2), (2, .inl x), (3, .inl a), (4, .inl b), (5, .inl c), (6, .inr (.inr 18)), (7, .inl (H.1 21 (x).toNat))]) (st' := [.inl (H.1 21 (x).toNat), .inl x, .inl 2, .inr (.inr 361)]) rfl ?_
        refine h_cs (i := 153) (j := 48) (M' := mt_48) (xs := [.inl (H.1 21 (x).toNat), .inl x, .inl 2]) (rest := [.inr (.inr 361)]) rfl rfl rfl rfl rfl (Nat.le_of_ble_eq_true rfl) (Nat.le_of_ble_eq_true rfl) (by omega) (q_Term_codeOf (by omega)  (by decide) (by omega) (by omega)) ?_
        rintro _ _ ⟨z58, rfl, g52, hx57, rfl⟩
        refine k_run 0 (pc' := 78) (l' := [(0, .inr (.inr 361)), (1, .inl 2), (2, .inl x), (3, .inl a), (4, .inl b), (5, .inl c), (6, .inr (.inr 18)), (7, .inl (H.1 21 (x).toNat))]) (st' := [.inl z58, .inr (.inr 361)]) rfl ?_
        have g59 : -2147483648 ≤ (H.1 361 3) ∧ (H.1 361 3) ≤ 2147483647 := kn (x := kx_361) hI rfl 3
        have g60 : 0 ≤ (H.1 2 5) ∧ (H.1 2 5) ≤ 1001 := kn (x := kx_2) hI rfl 5
        refine h_cv (i := 157) (j := 77) (b := 361) (M' := mt_77) (xs := [.inl z58]) (rest := []) rfl rfl rfl rfl (zs_K (x := kx_361) rfl (by decide)) rfl (Nat.le_of_ble_eq_true rfl) (Nat.le_of_ble_eq_true rfl) (by omega) (q_Reader_addName (by omega) hI (by omega) (by omega) (RT_TQ hR)) ?_
        rintro _ H62 ⟨z67, rfl, g61, hI63, hq64, hp65, hx66⟩
        have hf68 : fq [(361, 3), (361, 4), (361, 5), (361, 9)] [362] true H H62 := fq_t (fq_rf _ _ _ _) hq64 rfl rfl rfl
        refine k_run 0 (pc' := 81) (l' := [(0, .inr (.inr 361)), (1, .inl 2), (2, .inl x), (3, .inl a), (4, .inl b), (5, .inl c), (6, .inr (.inr 18)), (7, .inl (H.1 21 (x).toNat))]) (st' := [.inl z67]) rfl ?_
        refine k_run 3 (pc' := 86) (l' := [(0, .inr (.inr 361)), (1, .inl 2), (2, .inl x), (3, .inl a), (4, .inl b), (5, .inl c), (6, .inr (.inr 18)), (7, .inl (H.1 21 (x).toNat)), (8, .inl z67), (9, .inl 0)]) (st' := []) rfl ?_
        rw [hQ9]
        exact (q_readApplied_2_cut hd hI hx ha hb hc hp0 hp1 hR hX h2 hf9 hR1 _) H62 hI63 hf68 (H.1 21 (x).toNat) z67 (0 : Int) (by omega) (by omega) (by decide) (by omega) (by omega) (by omega) (by omega) (hx66.elim (fun e => Or.inl ⟨e.1, by omega, xput X (100 + x), (rch_st hX (by show stTerm Y a b c K X = _; unfold stTerm stApp; rw [hf9]; (repeat (first | rw [if_pos (by omega)] | rw [if_neg (by omega)])); try rfl)), RT_put hR hp65 (e.2.2.1.trans (hx57.trans (by rw [← ha2]; exact (kcd_f X ⟨by omega, by omega⟩).symm))) e.2.2.2.1 e.2.2.2.2 (by omega) (RB_lt hB (by omega) (by omega)), PW9_put hsz.2.1 (fun _ => Or.inr ⟨by omega, by omega, by omega⟩)⟩) (fun e => Or.inr ⟨e.1, FB_mk hB e.2.2.1 nF45 (rch_st hX (by show stTerm Y a b c K X = _; unfold stTerm stApp; rw [hf9]; (repeat (first | rw [if_pos (by omega)] | rw [if_neg (by omega)])); try rfl)) e.2.2.2.1 e.2.2.2.2⟩)) (NL_fw hp65 (nX_put (by first | exact RT_TQ hR1 | exact RT_TQ hR2 | exact RT_TQ hR3 | exact RT_TQ hR))) (Nat.lt_succ_self _)
      · refine k_run 0 (pc' := 53) (l' := [(0, .inr (.inr 361)), (1, .inl 2), (2, .inl x), (3, .inl a), (4, .inl b), (5, .inl c), (6, .inr (.inr 18)), (7, .inl (H.1 21 (x).toNat))]) (st' := []) rfl ?_
        refine k_run 3 (pc' := 59) (l' := [(0, .inr (.inr 361)), (1, .inl 2), (2, .inl x), (3, .inl a), (4, .inl b), (5, .inl c), (6, .inr (.inr 18)), (7, .inl (H.1 21 (x).toNat))]) (st' := [.inl x, .inr (.inr 20)]) rfl ?_
        refine k_ild (c := 20) (j := (x).toNat) (i := x) (x := kx_20) rfl rfl (by decide) rfl (by decide) (by omega) (by omega) ?_
        have g69 : -2 ≤ (H.1 20 (x).toNat) ∧ (H.1 20 (x).toNat) ≤ 100 := kn (x := kx_20) hI rfl (x).toNat
        refine k_run 0 (pc' := 60) (l' := [(0, .inr (.inr 361)), (1, .inl 2), (2, .inl x), (3, .inl a), (4, .inl b), (5, .inl c), (6, .inr (.inr 18)), (7, .inl (H.1 21 (x).toNat))]) (st' := [.inl (H.1 20 (x).toNat)]) rfl ?_
        refine k_run 1 (pc' := 61) (l' := [(0, .inr (.inr 361)), (1, .inl 2), (2, .inl x), (3, .inl a), (4, .inl b), (5, .inl c), (6, .inr (.inr 18)), (7, .inl (H.1 21 (x).toNat))]) (st' := [.inl a, .inl (H.1 20 (x).toNat)]) rfl ?_
        refine h_ieq (off := 9) (t := 70) rfl rfl (by omega) (by omega) (fun c70 => ?_) (fun c70 => ?_)
        · refine k_run 0 (pc' := 70) (l' := [(0, .inr (.inr 361)), (1, .inl 2), (2, .inl x), (3, .inl a), (4, .inl b), (5, .inl c), (6, .inr (.inr 18)), (7, .inl (H.1 21 (x).toNat))]) (st' := []) rfl ?_
          refine k_run 4 (pc' := 75) (l' := [(0, .inr (.inr 361)), (1, .inl 2), (2, .inl x), (3, .inl a), (4, .inl b), (5, .inl c), (6, .inr (.inr 18)), (7, .inl (H.1 21 (x).toNat))]) (st' := [.inl (H.1 21 (x).toNat), .inl x, .inl 2, .inr (.inr 361)]) rfl ?_
          refine h_cs (i := 153) (j := 48) (M' := mt_48) (xs := [.inl (H.1 21 (x).toNat), .inl x, .inl 2]) (rest := [.inr (.inr 361)]) rfl rfl rfl rfl rfl (Nat.le_of_ble_eq_true rfl) (Nat.le_of_ble_eq_true rfl) (by omega) (q_Term_codeOf (by omega)  (by decide) (by omega) (by omega)) ?_
          rintro _ _ ⟨z77, rfl, g71, hx76, rfl⟩
          refine k_run 0 (pc' := 78) (l' := [(0, .inr (.inr 361)), (1, .inl 2), (2, .inl x), (3, .inl a), (4, .inl b), (5, .inl c), (6, .inr (.inr 18)), (7, .inl (H.1 21 (x).toNat))]) (st' := [.inl z77, .inr (.inr 361)]) rfl ?_
          have g78 : -2147483648 ≤ (H.1 361 3) ∧ (H.1 361 3) ≤ 2147483647 := kn (x := kx_361) hI rfl 3
          have g79 : 0 ≤ (H.1 2 5) ∧ (H.1 2 5) ≤ 1001 := kn (x := kx_2) hI rfl 5
          refine h_cv (i := 157) (j := 77) (b := 361) (M' := mt_77) (xs := [.inl z77]) (rest := []) rfl rfl rfl rfl (zs_K (x := kx_361) rfl (by decide)) rfl (Nat.le_of_ble_eq_true rfl) (Nat.le_of_ble_eq_true rfl) (by omega) (q_Reader_addName (by omega) hI (by omega) (by omega) (RT_TQ hR)) ?_
          rintro _ H81 ⟨z86, rfl, g80, hI82, hq83, hp84, hx85⟩
          have hf87 : fq [(361, 3), (361, 4), (361, 5), (361, 9)] [362] true H H81 := fq_t (fq_rf _ _ _ _) hq83 rfl rfl rfl
          refine k_run 0 (pc' := 81) (l' := [(0, .inr (.inr 361)), (1, .inl 2), (2, .inl x), (3, .inl a), (4, .inl b), (5, .inl c), (6, .inr (.inr 18)), (7, .inl (H.1 21 (x).toNat))]) (st' := [.inl z86]) rfl ?_
          refine k_run 3 (pc' := 86) (l' := [(0, .inr (.inr 361)), (1, .inl 2), (2, .inl x), (3, .inl a), (4, .inl b), (5, .inl c), (6, .inr (.inr 18)), (7, .inl (H.1 21 (x).toNat)), (8, .inl z86), (9, .inl 0)]) (st' := []) rfl ?_
          rw [hQ9]
          exact (q_readApplied_2_cut hd hI hx ha hb hc hp0 hp1 hR hX h2 hf9 hR1 _) H81 hI82 hf87 (H.1 21 (x).toNat) z86 (0 : Int) (by omega) (by omega) (by decide) (by omega) (by omega) (by omega) (by omega) (hx85.elim (fun e => Or.inl ⟨e.1, by omega, xput X (100 + x), (rch_st hX (by show stTerm Y a b c K X = _; unfold stTerm stApp; rw [hf9]; (repeat (first | rw [if_pos (by omega)] | rw [if_neg (by omega)])); try rfl)), RT_put hR hp84 (e.2.2.1.trans (hx76.trans (by rw [← ha2]; exact (kcd_f X ⟨by omega, by omega⟩).symm))) e.2.2.2.1 e.2.2.2.2 (by omega) (RB_lt hB (by omega) (by omega)), PW9_put hsz.2.1 (fun _ => Or.inr ⟨by omega, by omega, by omega⟩)⟩) (fun e => Or.inr ⟨e.1, FB_mk hB e.2.2.1 nF45 (rch_st hX (by show stTerm Y a b c K X = _; unfold stTerm stApp; rw [hf9]; (repeat (first | rw [if_pos (by omega)] | rw [if_neg (by omega)])); try rfl)) e.2.2.2.1 e.2.2.2.2⟩)) (NL_fw hp84 (nX_put (by first | exact RT_TQ hR1 | exact RT_TQ hR2 | exact RT_TQ hR3 | exact RT_TQ hR))) (Nat.lt_succ_self _)
        · refine k_run 0 (pc' := 64) (l' := [(0, .inr (.inr 361)), (1, .inl 2), (2, .inl x), (3, .inl a), (4, .inl b), (5, .inl c), (6, .inr (.inr 18)), (7, .inl (H.1 21 (x).toNat))]) (st' := []) rfl ?_
          refine k_run 2 (pc' := 66) (l' := [(0, .inr (.inr 361)), (1, .inl 2), (2, .inl x), (3, .inl a), (4, .inl b), (5, .inl c), (6, .inr (.inr 18)), (7, .inl (H.1 21 (x).toNat))]) (st' := [.inl 4, .inr (.inr 361)]) rfl ?_
          have g88 : -2147483648 ≤ (H.1 361 3) ∧ (H.1 361 3) ≤ 2147483647 := kn (x := kx_361) hI rfl 3
          have g89 : 0 ≤ (H.1 2 5) ∧ (H.1 2 5) ≤ 1001 := kn (x := kx_2) hI rfl 5
          refine h_cv (i := 128) (j := 86) (b := 361) (M' := mt_86) (xs := [.inl 4]) (rest := []) rfl rfl rfl rfl (zs_K (x := kx_361) rfl (by decide)) rfl (Nat.le_of_ble_eq_true rfl) (Nat.le_of_ble_eq_true rfl) (by omega) (q_Reader_fails (by omega) hI (by decide) (by omega)) ?_
          rintro _ H91 ⟨z96, rfl, g90, hI92, hq93, hp94, hx95⟩
          have hf97 : fq [(361, 3), (361, 4), (361, 5), (361, 9)] [362] true H H91 := fq_t (fq_rf _ _ _ _) hq93 rfl rfl rfl
          refine k_run 0 (pc' := 69) (l' := [(0, .inr (.inr 361)), (1, .inl 2), (2, .inl x), (3, .inl a), (4, .inl b), (5, .inl c), (6, .inr (.inr 18)), (7, .inl (H.1 21 (x).toNat))]) (st' := [.inl z96]) rfl ?_
          refine h_retz (x := z96) rfl rfl (by omega) ?_
          rw [hQ9]
          exact ⟨_, rfl, (by omega), hI92, hf97, (by first | (exfalso; omega) | exact ⟨(Or.inr ⟨by omega, FB_mk hB hp94 nF45 (rch_st hX (by show stTerm Y a b c K X = _; unfold stTerm stApp; rw [hf9]; (repeat (first | rw [if_pos (by omega)] | rw [if_neg (by omega)])); try rfl)) hx95.1 hx95.2⟩), NL_fw hp94 (nXF45 _)⟩)⟩
    · refine k_run 0 (pc' := 43) (l' := [(0, .inr (.inr 361)), (1, .inl 2), (2, .inl x), (3, .inl a), (4, .inl b), (5, .inl c), (6, .inr (.inr 18)), (7, .inl (H.1 21 (x).toNat))]) (st' := []) rfl ?_
      refine k_run 2 (pc' := 45) (l' := [(0, .inr (.inr 361)), (1, .inl 2), (2, .inl x), (3, .inl a), (4, .inl b), (5, .inl c), (6, .inr (.inr 18)), (7, .inl (H.1 21 (x).toNat))]) (st' := [.inl 2, .inr (.inr 361)]) rfl ?_
      have g98 : -2147483648 ≤ (H.1 361 3) ∧ (H.1 361 3) ≤ 2147483647 := kn (x := kx_361) hI rfl 3
      have g99 : 0 ≤ (H.1 2 5) ∧ (H.1 2 5) ≤ 1001 := kn (x := kx_2) hI rfl 5
      refine h_cv (i := 128) (j := 86) (b := 361) (M' := mt_86) (xs := [.inl 2]) (rest := []) rfl rfl rfl rfl (zs_K (x := kx_361) rfl (by decide)) rfl (Nat.le_of_ble_eq_true rfl) (Nat.le_of_ble_eq_true rfl) (by omega) (q_Reader_fails (by omega) hI (by decide) (by omega)) ?_
      rintro _ H101 ⟨z106, rfl, g100, hI102, hq103, hp104, hx105⟩
      have hf107 : fq [(361, 3), (361, 4), (361, 5), (361, 9)] [362] true H H101 := fq_t (fq_rf _ _ _ _) hq103 rfl rfl rfl
      refine k_run 0 (pc' := 48) (l' := [(0, .inr (.inr 361)), (1, .inl 2), (2, .inl x), (3, .inl a), (4, .inl b), (5, .inl c), (6, .inr (.inr 18)), (7, .inl (H.1 21 (x).toNat))]) (st' := [.inl z106]) rfl ?_
      refine h_retz (x := z106) rfl rfl (by omega) ?_
      rw [hQ9]
      exact ⟨_, rfl, (by omega), hI102, hf107, (by first | (exfalso; omega) | exact ⟨(Or.inr ⟨by omega, FB_mk hB hp104 nF45 (rch_st hX (by show stTerm Y a b c K X = _; unfold stTerm stApp; rw [hf9]; (repeat (first | rw [if_pos (by omega)] | rw [if_neg (by omega)])); try rfl)) hx105.1 hx105.2⟩), NL_fw hp104 (nXF45 _)⟩)⟩

/-! Reader.readApplied -/
set_option maxRecDepth 100000 in
theorem q_readApplied_1_cut {Y : yx} {q : Nat} {c0 : cf} {K : List tq} {X : rx} {m : Nat} {d : Nat} (hd : 3 * m + 9 ≤ d) {H : hp} (hI : Inv H) {x : Int} {a : Int} {b : Int} {c : Int} (hx : -2147483648 ≤ x ∧ x ≤ 2147483647) (ha : -2147483648 ≤ a ∧ a ≤ 2147483647) (hb : -2147483648 ≤ b ∧ b ≤ 2147483647) (hc : 0 ≤ c ∧ c ≤ 1) (hp0 : 0 ≤ x ∧ x < 16) (hp1 : -2 ≤ a ∧ a ≤ 100 ∧ 0 ≤ b ∧ b ≤ 10 ∧ 10 ≤ b + (m : Int)) (hR : RT Y q H X) (hX : rch Y c0 ((2, a, b, c) :: K, X)) (h2 : tk Y (xi X) = 3) (hf9 : cfd Y X = x) (hR1 : RT1f m) : ∀ w : Nat, (∀ (H1 : hp), Inv H1 → fq [(361, 3), (361, 4), (361, 5), (361, 9)] [362] true H H1 → ∀ (x7 : Int) (x8 : Int) (x9 : Int) , (-2147483648 ≤ x7 ∧ x7 ≤ 2147483647) → (-2147483648 ≤ x8 ∧ x8 ≤ 2147483647) → (-2147483648 ≤ x9 ∧ x9 ≤ 2147483647) → (x7 = H.1 16 x.toNat) → (0 ≤ x9) → (x7 ≤ 4) → (0 ≤ x8 ∧ x8 ≤ 1) → ((x8 = 1 ∧ x9 ≤ x7 ∧ ∃ X1 : rx, rch Y c0 ((3, (1 + x), x9, b) :: K, X1) ∧ RT Y q H1 X1 ∧ PW9 a X X1) ∨ (x8 = 0 ∧ FB Y c0 H1)) → (NL H H1) → (((100 - x9).toNat) < w) → hG (zs zK) d mt_74 86 [(0, .inr (.inr 361)), (1, .inl 1), (2, .inl x), (3, .inl a), (4, .inl b), (5, .inl c), (6, .inr (.inr 13)), (7, .inl x7), (8, .inl x8), (9, .inl x9)] [] H1 (fun r9 H9 => ∃ z : Int, r9 = some (.inl z) ∧ ((0 ≤ z ∧ z ≤ 1)) ∧ Inv H9 ∧ fq [(361, 3), (361, 4), (361, 5), (361, 9)] [362] true H H9 ∧ ((OT Y q c0 K (PW9 a X) z H9) ∧ NL H H9))) := by
  intro w
  induction w with
  | zero => exact fun _ _ _ _ _ _ _ _ _ _ _ _ _ _ _ h => absurd h (Nat.not_lt_zero _)
  | succ w ih =>
    intro H1 hI1 hf1 x7 x8 x9 hx7 hx8 hx9 hi0 hi1 hi2 hi3 hi4 hi5 hw
    obtain ⟨Q9, hQ9⟩ : ∃ Q9 : Option zv → hp → Prop, Q9 = (fun r9 H9 => ∃ z : Int, r9 = some (.inl z) ∧ ((0 ≤ z ∧ z ≤ 1)) ∧ Inv H9 ∧ fq [(361, 3), (361, 4), (361, 5), (361, 9)] [362] true H H9 ∧ ((OT Y q c0 K (PW9 a X) z H9) ∧ NL H H9)) := ⟨_, rfl⟩
    rw [← hQ9]
    obtain ⟨hB, hV, hS⟩ := id hR
    have hpa := RB_pa hB
    have htk := RB_tk hB
    obtain ⟨kE, hkE, hEE⟩ := hV.2.1
    have hmo := hV.1
    have hsz := hS.2.1
    have hb9 := cfd_b Y X
    have hcn := hB.2.1.1.2.1
    have hlt : x < H.1 13 4 := by omega
    obtain ⟨ha1, ha2, ha3, ha4⟩ := RB_c hB (by omega) hlt
    have f18 : H1.1 13 4 = H.1 13 4 := (hf1.1 13 4 rfl (by decide) (by decide)).1
    have f21 : H1.1 16 x.toNat = H.1 16 x.toNat := (hf1.1 16 _ rfl (by decide) (fun q => by simp at q)).1
    refine k_run 1 (pc' := 88) (l' := [(0, .inr (.inr 361)), (1, .inl 1), (2, .inl x), (3, .inl a), (4, .inl b), (5, .inl c), (6, .inr (.inr 13)), (7, .inl x7), (8, .inl x8), (9, .inl x9)]) (st' := [.inl x8]) rfl ?_
    refine h_zeq (off := 33) (t := 121) rfl rfl (by omega) (fun c108 => ?_) (fun c108 => ?_)
    · refine k_run 0 (pc' := 121) (l' := [(0, .inr (.inr 361)), (1, .inl 1), (2, .inl x), (3, .inl a), (4, .inl b), (5, .inl c), (6, .inr (.inr 13)), (7, .inl x7), (8, .inl x8), (9, .inl x9)]) (st' := []) rfl ?_
      refine k_run 1 (pc' := 123) (l' := [(0, .inr (.inr 361)), (1, .inl 1), (2, .inl x), (3, .inl a), (4, .inl b), (5, .inl c), (6, .inr (.inr 13)), (7, .inl x7), (8, .inl x8), (9, .inl x9)]) (st' := [.inl x8]) rfl ?_
      refine h_retz (x := x8) rfl rfl (by omega) ?_
      rw [hQ9]
      exact ⟨_, rfl, (by omega), hI1, hf1, (by first | (exfalso; omega) | exact ⟨hi4.elim (fun e => Or.inl ⟨e.1, e.2.2.imp (fun X1 g => ⟨rch_st g.1 (by show (if x9 < ar X1 (1 + x) then _ else _) = _; rw [if_neg (by rw [(RB_c (x := x) g.2.1.1 (by omega) (by omega)).1]; omega)]), g.2.1, g.2.2⟩)⟩) (fun e => Or.inr e), hi5⟩)⟩
    · refine k_run 0 (pc' := 91) (l' := [(0, .inr (.inr 361)), (1, .inl 1), (2, .inl x), (3, .inl a), (4, .inl b), (5, .inl c), (6, .inr (.inr 13)), (7, .inl x7), (8, .inl x8), (9, .inl x9)]) (st' := []) rfl ?_
      refine k_run 2 (pc' := 95) (l' := [(0, .inr (.inr 361)), (1, .inl 1), (2, .inl x), (3, .inl a), (4, .inl b), (5, .inl c), (6, .inr (.inr 13)), (7, .inl x7), (8, .inl x8), (9, .inl x9)]) (st' := [.inl x7, .inl x9]) rfl ?_
      refine h_ige (off := 26) (t := 121) rfl rfl (by omega) (by omega) (fun c109 => ?_) (fun c109 => ?_)
      · refine k_run 0 (pc' := 121) (l' := [(0, .inr (.inr 361)), (1, .inl 1), (2, .inl x), (3, .inl a), (4, .inl b), (5, .inl c), (6, .inr (.inr 13)), (7, .inl x7), (8, .inl x8), (9, .inl x9)]) (st' := []) rfl ?_
        refine k_run 1 (pc' := 123) (l' := [(0, .inr (.inr 361)), (1, .inl 1), (2, .inl x), (3, .inl a), (4, .inl b), (5, .inl c), (6, .inr (.inr 13)), (7, .inl x7), (8, .inl x8), (9, .inl x9)]) (st' := [.inl x8]) rfl ?_
        refine h_retz (x := x8) rfl rfl (by omega) ?_
        rw [hQ9]
        exact ⟨_, rfl, (by omega), hI1, hf1, (by first | (exfalso; omega) | exact ⟨hi4.elim (fun e => Or.inl ⟨e.1, e.2.2.imp (fun X1 g => ⟨rch_st g.1 (by show (if x9 < ar X1 (1 + x) then _ else _) = _; rw [if_neg (by rw [(RB_c (x := x) g.2.1.1 (by omega) (by omega)).1]; omega)]), g.2.1, g.2.2⟩)⟩) (fun e => Or.inr e), hi5⟩)⟩
      · refine k_run 0 (pc' := 98) (l' := [(0, .inr (.inr 361)), (1, .inl 1), (2, .inl x), (3, .inl a), (4, .inl b), (5, .inl c), (6, .inr (.inr 13)), (7, .inl x7), (8, .inl x8), (9, .inl x9)]) (st' := []) rfl ?_
        obtain ⟨k1, k2, X1, k3, k4, k5⟩ := hi4.resolve_right (fun q9 => by have := q9.1; omega)
        have hpa1 := RB_pa k4.1
        obtain ⟨b1, -, -, b4⟩ := RB_c (x := x) k4.1 (by omega) (by omega)
        refine k_run 4 (pc' := 104) (l' := [(0, .inr (.inr 361)), (1, .inl 1), (2, .inl x), (3, .inl a), (4, .inl b), (5, .inl c), (6, .inr (.inr 13)), (7, .inl x7), (8, .inl x8), (9, .inl x9)]) (st' := [.inl x9, .inl x, .inr (.inr 13), .inr (.inr 361)]) rfl ?_
        refine h_cv (i := 160) (j := 45) (b := 13) (M' := mt_45) (xs := [.inl x9, .inl x]) (rest := [.inr (.inr 361)]) rfl rfl rfl rfl (zs_K (x := kx_13) rfl (by decide)) rfl (Nat.le_of_ble_eq_true rfl) (Nat.le_of_ble_eq_true rfl) (by omega) (q_Symbols_argument_13 (by omega) hI1 (by omega) (by omega) (by omega)) ?_
        rintro _ _ ⟨z116, rfl, g110, hx115, rfl⟩
        refine k_run 0 (pc' := 107) (l' := [(0, .inr (.inr 361)), (1, .inl 1), (2, .inl x), (3, .inl a), (4, .inl b), (5, .inl c), (6, .inr (.inr 13)), (7, .inl x7), (8, .inl x8), (9, .inl x9)]) (st' := [.inl z116, .inr (.inr 361)]) rfl ?_
        have k6 : rch Y c0 ((2, z116, b, 1) :: (3, (1 + x), x9 + 1, b) :: K, X1) := rch_st k3 (by show (if x9 < ar X1 (1 + x) then _ else _) = _; rw [if_pos (by omega), b4 x9 (by omega) (by omega), ← hx115])
        refine k_run 2 (pc' := 110) (l' := [(0, .inr (.inr 361)), (1, .inl 1), (2, .inl x), (3, .inl a), (4, .inl b), (5, .inl c), (6, .inr (.inr 13)), (7, .inl x7), (8, .inl x8), (9, .inl x9)]) (st' := [.inl 1, .inl b, .inl z116, .inr (.inr 361)]) rfl ?_
        refine h_cv (i := 109) (j := 73) (b := 361) (M' := mt_73) (xs := [.inl 1, .inl b, .inl z116]) (rest := []) rfl rfl rfl rfl (zs_K (x := kx_361) rfl (by decide)) rfl (Nat.le_of_ble_eq_true rfl) (Nat.le_of_ble_eq_true rfl) (by omega) (hR1 (by omega) hI1 (by omega) (by omega) (by omega) k4 k6) ?_
        rintro _ H118 ⟨z123, rfl, g117, hI119, hq120, hx122⟩
        have hf124 : fq [(361, 3), (361, 4), (361, 5), (361, 9)] [362] true H H118 := fq_t hf1 hq120 rfl rfl rfl
        refine k_run 0 (pc' := 113) (l' := [(0, .inr (.inr 361)), (1, .inl 1), (2, .inl x), (3, .inl a), (4, .inl b), (5, .inl c), (6, .inr (.inr 13)), (7, .inl x7), (8, .inl x8), (9, .inl x9)]) (st' := [.inl z123]) rfl ?_
        refine k_run 3 (pc' := 86) (l' := [(0, .inr (.inr 361)), (1, .inl 1), (2, .inl x), (3, .inl a), (4, .inl b), (5, .inl c), (6, .inr (.inr 13)), (7, .inl x7), (8, .inl z123), (9, .inl (x9 + 1))]) (st' := []) rfl ?_
        rw [hQ9]
        exact ih H118 hI119 hf124 x7 z123 (x9 + 1) (by omega) (by omega) (by omega) (by omega) (by omega) (by omega) (by omega) (Or.elim hx122.1 (fun e => Or.inl ⟨e.1, by omega, e.2.imp (fun X2 g => ⟨g.1, g.2.1, PW9_tr k5 g.2.2⟩)⟩) (fun e => Or.inr e)) (NL_tr hi5 hx122.2) (by omega)
set_option maxRecDepth 100000 in
theorem q_readApplied_1 {Y : yx} {q : Nat} {c0 : cf} {K : List tq} {X : rx} {m : Nat} {d : Nat} (hd : 3 * m + 9 ≤ d) {H : hp} (hI : Inv H) {x : Int} {a : Int} {b : Int} {c : Int} (hx : -2147483648 ≤ x ∧ x ≤ 2147483647) (ha : -2147483648 ≤ a ∧ a ≤ 2147483647) (hb : -2147483648 ≤ b ∧ b ≤ 2147483647) (hc : 0 ≤ c ∧ c ≤ 1) (hp0 : 0 ≤ x ∧ x < 16) (hp1 : -2 ≤ a ∧ a ≤ 100 ∧ 0 ≤ b ∧ b ≤ 10 ∧ 10 ≤ b + (m : Int)) (hR : RT Y q H X) (hX : rch Y c0 ((2, a, b, c) :: K, X)) (h2 : tk Y (xi X) = 3) (hf9 : cfd Y X = x) (hR1 : RT1f m) : hG (zs zK) d mt_74 0 (zargs 0 [.inr (.inr 361), .inl 1, .inl x, .inl a, .inl b, .inl c]) [] H (fun r9 H9 => ∃ z : Int, r9 = some (.inl z) ∧ ((0 ≤ z ∧ z ≤ 1)) ∧ Inv H9 ∧ fq [(361, 3), (361, 4), (361, 5), (361, 9)] [362] true H H9 ∧ ((OT Y q c0 K (PW9 a X) z H9) ∧ NL H H9)) := by
  obtain ⟨hB, hV, hS⟩ := id hR
  have hpa := RB_pa hB
  have htk := RB_tk hB
  obtain ⟨kE, hkE, hEE⟩ := hV.2.1
  have hmo := hV.1
  have hsz := hS.2.1
  have hb9 := cfd_b Y X
  have hcn := hB.2.1.1.2.1
  have hlt : x < H.1 13 4 := by omega
  obtain ⟨ha1, ha2, ha3, ha4⟩ := RB_c hB (by omega) hlt
  obtain ⟨Q9, hQ9⟩ : ∃ Q9 : Option zv → hp → Prop, Q9 = (fun r9 H9 => ∃ z : Int, r9 = some (.inl z) ∧ ((0 ≤ z ∧ z ≤ 1)) ∧ Inv H9 ∧ fq [(361, 3), (361, 4), (361, 5), (361, 9)] [362] true H H9 ∧ ((OT Y q c0 K (PW9 a X) z H9) ∧ NL H H9)) := ⟨_, rfl⟩
  rw [← hQ9]
  refine k_run 0 (pc' := 0) (l' := [(0, .inr (.inr 361)), (1, .inl 1), (2, .inl x), (3, .inl a), (4, .inl b), (5, .inl c)]) (st' := []) rfl ?_
  refine k_run 2 (pc' := 2) (l' := [(0, .inr (.inr 361)), (1, .inl 1), (2, .inl x), (3, .inl a), (4, .inl b), (5, .inl c)]) (st' := [.inl 2, .inl 1]) rfl ?_
  refine h_ine (off := 13) (t := 15) rfl rfl (by decide) (by decide) (fun _ => ?_) (fun c => absurd c (by decide))
  refine k_run 0 (pc' := 15) (l' := [(0, .inr (.inr 361)), (1, .inl 1), (2, .inl x), (3, .inl a), (4, .inl b), (5, .inl c)]) (st' := []) rfl ?_
  refine k_run 7 (pc' := 30) (l' := [(0, .inr (.inr 361)), (1, .inl 1), (2, .inl x), (3, .inl a), (4, .inl b), (5, .inl c), (6, .inr (.inr 13))]) (st' := [.inl x, .inr (.inr 16)]) rfl ?_
  refine k_ild (c := 16) (j := (x).toNat) (i := x) (x := kx_16) rfl rfl (by decide) rfl (by decide) (by omega) (by omega) ?_
  have g1 : 0 ≤ (H.1 16 (x).toNat) ∧ (H.1 16 (x).toNat) ≤ 4 := kn (x := kx_16) hI rfl (x).toNat
  refine k_run 0 (pc' := 31) (l' := [(0, .inr (.inr 361)), (1, .inl 1), (2, .inl x), (3, .inl a), (4, .inl b), (5, .inl c), (6, .inr (.inr 13))]) (st' := [.inl (H.1 16 (x).toNat)]) rfl ?_
  refine k_run 2 (pc' := 35) (l' := [(0, .inr (.inr 361)), (1, .inl 1), (2, .inl x), (3, .inl a), (4, .inl b), (5, .inl c), (6, .inr (.inr 13)), (7, .inl (H.1 16 (x).toNat))]) (st' := [.inl c]) rfl ?_
  refine h_zeq (off := 14) (t := 49) rfl rfl (by omega) (fun c2 => ?_) (fun c2 => ?_)
  · refine k_run 0 (pc' := 49) (l' := [(0, .inr (.inr 361)), (1, .inl 1), (2, .inl x), (3, .inl a), (4, .inl b), (5, .inl c), (6, .inr (.inr 13)), (7, .inl (H.1 16 (x).toNat))]) (st' := []) rfl ?_
    refine k_run 1 (pc' := 50) (l' := [(0, .inr (.inr 361)), (1, .inl 1), (2, .inl x), (3, .inl a), (4, .inl b), (5, .inl c), (6, .inr (.inr 13)), (7, .inl (H.1 16 (x).toNat))]) (st' := [.inl a]) rfl ?_
    refine h_zlt (off := 20) (t := 70) rfl rfl (by omega) (fun c3 => ?_) (fun c3 => ?_)
    · refine k_run 0 (pc' := 70) (l' := [(0, .inr (.inr 361)), (1, .inl 1), (2, .inl x), (3, .inl a), (4, .inl b), (5, .inl c), (6, .inr (.inr 13)), (7, .inl (H.1 16 (x).toNat))]) (st' := []) rfl ?_
      refine k_run 4 (pc' := 75) (l' := [(0, .inr (.inr 361)), (1, .inl 1), (2, .inl x), (3, .inl a), (4, .inl b), (5, .inl c), (6, .inr (.inr 13)), (7, .inl (H.1 16 (x).toNat))]) (st' := [.inl (H.1 16 (x).toNat), .inl x, .inl 1, .inr (.inr 361)]) rfl ?_
      refine h_cs (i := 153) (j := 48) (M' := mt_48) (xs := [.inl (H.1 16 (x).toNat), .inl x, .inl 1]) (rest := [.inr (.inr 361)]) rfl rfl rfl rfl rfl (Nat.le_of_ble_eq_true rfl) (Nat.le_of_ble_eq_true rfl) (by omega) (q_Term_codeOf (by omega)  (by decide) (by omega) (by omega)) ?_
      rintro _ _ ⟨z10, rfl, g4, hx9, rfl⟩
      refine k_run 0 (pc' := 78) (l' := [(0, .inr (.inr 361)), (1, .inl 1), (2, .inl x), (3, .inl a), (4, .inl b), (5, .inl c), (6, .inr (.inr 13)), (7, .inl (H.1 16 (x).toNat))]) (st' := [.inl z10, .inr (.inr 361)]) rfl ?_
      have g11 : -2147483648 ≤ (H.1 361 3) ∧ (H.1 361 3) ≤ 2147483647 := kn (x := kx_361) hI rfl 3
      have g12 : 0 ≤ (H.1 2 5) ∧ (H.1 2 5) ≤ 1001 := kn (x := kx_2) hI rfl 5
      refine h_cv (i := 157) (j := 77) (b := 361) (M' := mt_77) (xs := [.inl z10]) (rest := []) rfl rfl rfl rfl (zs_K (x := kx_361) rfl (by decide)) rfl (Nat.le_of_ble_eq_true rfl) (Nat.le_of_ble_eq_true rfl) (by omega) (q_Reader_addName (by omega) hI (by omega) (by omega) (RT_TQ hR)) ?_
      rintro _ H14 ⟨z19, rfl, g13, hI15, hq16, hp17, hx18⟩
      have hf20 : fq [(361, 3), (361, 4), (361, 5), (361, 9)] [362] true H H14 := fq_t (fq_rf _ _ _ _) hq16 rfl rfl rfl
      refine k_run 0 (pc' := 81) (l' := [(0, .inr (.inr 361)), (1, .inl 1), (2, .inl x), (3, .inl a), (4, .inl b), (5, .inl c), (6, .inr (.inr 13)), (7, .inl (H.1 16 (x).toNat))]) (st' := [.inl z19]) rfl ?_
      refine k_run 3 (pc' := 86) (l' := [(0, .inr (.inr 361)), (1, .inl 1), (2, .inl x), (3, .inl a), (4, .inl b), (5, .inl c), (6, .inr (.inr 13)), (7, .inl (H.1 16 (x).toNat)), (8, .inl z19), (9, .inl 0)]) (st' := []) rfl ?_
      rw [hQ9]
      exact (q_readApplied_1_cut hd hI hx ha hb hc hp0 hp1 hR hX h2 hf9 hR1 _) H14 hI15 hf20 (H.1 16 (x).toNat) z19 (0 : Int) (by omega) (by omega) (by decide) (by omega) (by omega) (by omega) (by omega) (hx18.elim (fun e => Or.inl ⟨e.1, by omega, xput X (1 + x), (rch_st hX (by show stTerm Y a b c K X = _; unfold stTerm stApp; rw [hf9]; (repeat (first | rw [if_pos (by omega)] | rw [if_neg (by omega)])); try rfl)), RT_put hR hp17 (e.2.2.1.trans (hx9.trans (by rw [← ha2]; exact (kcd_c X ⟨by omega, by omega⟩).symm))) e.2.2.2.1 e.2.2.2.2 (by omega) (RB_lt hB (by omega) (by omega)), PW9_put hsz.2.1 (fun _ => Or.inl ⟨by omega, by omega, by omega⟩)⟩) (fun e => Or.inr ⟨e.1, FB_mk hB e.2.2.1 nF45 (rch_st hX (by show stTerm Y a b c K X = _; unfold stTerm stApp; rw [hf9]; (repeat (first | rw [if_pos (by omega)] | rw [if_neg (by omega)])); try rfl)) e.2.2.2.1 e.2.2.2.2⟩)) (NL_fw hp17 (nX_put (by first | exact RT_TQ hR1 | exact RT_TQ hR2 | exact RT_TQ hR3 | exact RT_TQ hR))) (Nat.lt_succ_self _)
    · refine k_run 0 (pc' := 53) (l' := [(0, .inr (.inr 361)), (1, .inl 1), (2, .inl x), (3, .inl a), (4, .inl b), (5, .inl c), (6, .inr (.inr 13)), (7, .inl (H.1 16 (x).toNat))]) (st' := []) rfl ?_
      refine k_run 3 (pc' := 59) (l' := [(0, .inr (.inr 361)), (1, .inl 1), (2, .inl x), (3, .inl a), (4, .inl b), (5, .inl c), (6, .inr (.inr 13)), (7, .inl (H.1 16 (x).toNat))]) (st' := [.inl x, .inr (.inr 15)]) rfl ?_
      refine k_ild (c := 15) (j := (x).toNat) (i := x) (x := kx_15) rfl rfl (by decide) rfl (by decide) (by omega) (by omega) ?_
      have g21 : -2 ≤ (H.1 15 (x).toNat) ∧ (H.1 15 (x).toNat) ≤ 100 := kn (x := kx_15) hI rfl (x).toNat
      refine k_run 0 (pc' := 60) (l' := [(0, .inr (.inr 361)), (1, .inl 1), (2, .inl x), (3, .inl a), (4, .inl b), (5, .inl c), (6, .inr (.inr 13)), (7, .inl (H.1 16 (x).toNat))]) (st' := [.inl (H.1 15 (x).toNat)]) rfl ?_
      refine k_run 1 (pc' := 61) (l' := [(0, .inr (.inr 361)), (1, .inl 1), (2, .inl x), (3, .inl a), (4, .inl b), (5, .inl c), (6, .inr (.inr 13)), (7, .inl (H.1 16 (x).toNat))]) (st' := [.inl a, .inl (H.1 15 (x).toNat)]) rfl ?_
      refine h_ieq (off := 9) (t := 70) rfl rfl (by omega) (by omega) (fun c22 => ?_) (fun c22 => ?_)
      · refine k_run 0 (pc' := 70) (l' := [(0, .inr (.inr 361)), (1, .inl 1), (2, .inl x), (3, .inl a), (4, .inl b), (5, .inl c), (6, .inr (.inr 13)), (7, .inl (H.1 16 (x).toNat))]) (st' := []) rfl ?_
        refine k_run 4 (pc' := 75) (l' := [(0, .inr (.inr 361)), (1, .inl 1), (2, .inl x), (3, .inl a), (4, .inl b), (5, .inl c), (6, .inr (.inr 13)), (7, .inl (H.1 16 (x).toNat))]) (st' := [.inl (H.1 16 (x).toNat), .inl x, .inl 1, .inr (.inr 361)]) rfl ?_
        refine h_cs (i := 153) (j := 48) (M' := mt_48) (xs := [.inl (H.1 16 (x).toNat), .inl x, .inl 1]) (rest := [.inr (.inr 361)]) rfl rfl rfl rfl rfl (Nat.le_of_ble_eq_true rfl) (Nat.le_of_ble_eq_true rfl) (by omega) (q_Term_codeOf (by omega)  (by decide) (by omega) (by omega)) ?_
        rintro _ _ ⟨z29, rfl, g23, hx28, rfl⟩
        refine k_run 0 (pc' := 78) (l' := [(0, .inr (.inr 361)), (1, .inl 1), (2, .inl x), (3, .inl a), (4, .inl b), (5, .inl c), (6, .inr (.inr 13)), (7, .inl (H.1 16 (x).toNat))]) (st' := [.inl z29, .inr (.inr 361)]) rfl ?_
        have g30 : -2147483648 ≤ (H.1 361 3) ∧ (H.1 361 3) ≤ 2147483647 := kn (x := kx_361) hI rfl 3
        have g31 : 0 ≤ (H.1 2 5) ∧ (H.1 2 5) ≤ 1001 := kn (x := kx_2) hI rfl 5
        refine h_cv (i := 157) (j := 77) (b := 361) (M' := mt_77) (xs := [.inl z29]) (rest := []) rfl rfl rfl rfl (zs_K (x := kx_361) rfl (by decide)) rfl (Nat.le_of_ble_eq_true rfl) (Nat.le_of_ble_eq_true rfl) (by omega) (q_Reader_addName (by omega) hI (by omega) (by omega) (RT_TQ hR)) ?_
        rintro _ H33 ⟨z38, rfl, g32, hI34, hq35, hp36, hx37⟩
        have hf39 : fq [(361, 3), (361, 4), (361, 5), (361, 9)] [362] true H H33 := fq_t (fq_rf _ _ _ _) hq35 rfl rfl rfl
        refine k_run 0 (pc' := 81) (l' := [(0, .inr (.inr 361)), (1, .inl 1), (2, .inl x), (3, .inl a), (4, .inl b), (5, .inl c), (6, .inr (.inr 13)), (7, .inl (H.1 16 (x).toNat))]) (st' := [.inl z38]) rfl ?_
        refine k_run 3 (pc' := 86) (l' := [(0, .inr (.inr 361)), (1, .inl 1), (2, .inl x), (3, .inl a), (4, .inl b), (5, .inl c), (6, .inr (.inr 13)), (7, .inl (H.1 16 (x).toNat)), (8, .inl z38), (9, .inl 0)]) (st' := []) rfl ?_
        rw [hQ9]
        exact (q_readApplied_1_cut hd hI hx ha hb hc hp0 hp1 hR hX h2 hf9 hR1 _) H33 hI34 hf39 (H.1 16 (x).toNat) z38 (0 : Int) (by omega) (by omega) (by decide) (by omega) (by omega) (by omega) (by omega) (hx37.elim (fun e => Or.inl ⟨e.1, by omega, xput X (1 + x), (rch_st hX (by show stTerm Y a b c K X = _; unfold stTerm stApp; rw [hf9]; (repeat (first | rw [if_pos (by omega)] | rw [if_neg (by omega)])); try rfl)), RT_put hR hp36 (e.2.2.1.trans (hx28.trans (by rw [← ha2]; exact (kcd_c X ⟨by omega, by omega⟩).symm))) e.2.2.2.1 e.2.2.2.2 (by omega) (RB_lt hB (by omega) (by omega)), PW9_put hsz.2.1 (fun _ => Or.inl ⟨by omega, by omega, by omega⟩)⟩) (fun e => Or.inr ⟨e.1, FB_mk hB e.2.2.1 nF45 (rch_st hX (by show stTerm Y a b c K X = _; unfold stTerm stApp; rw [hf9]; (repeat (first | rw [if_pos (by omega)] | rw [if_neg (by omega)])); try rfl)) e.2.2.2.1 e.2.2.2.2⟩)) (NL_fw hp36 (nX_put (by first | exact RT_TQ hR1 | exact RT_TQ hR2 | exact RT_TQ hR3 | exact RT_TQ hR))) (Nat.lt_succ_self _)
      · refine k_run 0 (pc' := 64) (l' := [(0, .inr (.inr 361)), (1, .inl 1), (2, .inl x), (3, .inl a), (4, .inl b), (5, .inl c), (6, .inr (.inr 13)), (7, .inl (H.1 16 (x).toNat))]) (st' := []) rfl ?_
        refine k_run 2 (pc' := 66) (l' := [(0, .inr (.inr 361)), (1, .inl 1), (2, .inl x), (3, .inl a), (4, .inl b), (5, .inl c), (6, .inr (.inr 13)), (7, .inl (H.1 16 (x).toNat))]) (st' := [.inl 4, .inr (.inr 361)]) rfl ?_
        have g40 : -2147483648 ≤ (H.1 361 3) ∧ (H.1 361 3) ≤ 2147483647 := kn (x := kx_361) hI rfl 3
        have g41 : 0 ≤ (H.1 2 5) ∧ (H.1 2 5) ≤ 1001 := kn (x := kx_2) hI rfl 5
        refine h_cv (i := 128) (j := 86) (b := 361) (M' := mt_86) (xs := [.inl 4]) (rest := []) rfl rfl rfl rfl (zs_K (x := kx_361) rfl (by decide)) rfl (Nat.le_of_ble_eq_true rfl) (Nat.le_of_ble_eq_true rfl) (by omega) (q_Reader_fails (by omega) hI (by decide) (by omega)) ?_
        rintro _ H43 ⟨z48, rfl, g42, hI44, hq45, hp46, hx47⟩
        have hf49 : fq [(361, 3), (361, 4), (361, 5), (361, 9)] [362] true H H43 := fq_t (fq_rf _ _ _ _) hq45 rfl rfl rfl
        refine k_run 0 (pc' := 69) (l' := [(0, .inr (.inr 361)), (1, .inl 1), (2, .inl x), (3, .inl a), (4, .inl b), (5, .inl c), (6, .inr (.inr 13)), (7, .inl (H.1 16 (x).toNat))]) (st' := [.inl z48]) rfl ?_
        refine h_retz (x := z48) rfl rfl (by omega) ?_
        rw [hQ9]
        exact ⟨_, rfl, (by omega), hI44, hf49, (by first | (exfalso; omega) | exact ⟨(Or.inr ⟨by omega, FB_mk hB hp46 nF45 (rch_st hX (by show stTerm Y a b c K X = _; unfold stTerm stApp; rw [hf9]; (repeat (first | rw [if_pos (by omega)] | rw [if_neg (by omega)])); try rfl)) hx47.1 hx47.2⟩), NL_fw hp46 (nXF45 _)⟩)⟩
  · refine k_run 0 (pc' := 38) (l' := [(0, .inr (.inr 361)), (1, .inl 1), (2, .inl x), (3, .inl a), (4, .inl b), (5, .inl c), (6, .inr (.inr 13)), (7, .inl (H.1 16 (x).toNat))]) (st' := []) rfl ?_
    refine k_run 1 (pc' := 40) (l' := [(0, .inr (.inr 361)), (1, .inl 1), (2, .inl x), (3, .inl a), (4, .inl b), (5, .inl c), (6, .inr (.inr 13)), (7, .inl (H.1 16 (x).toNat))]) (st' := [.inl (H.1 16 (x).toNat)]) rfl ?_
    refine h_zle (off := 9) (t := 49) rfl rfl (by omega) (fun c50 => ?_) (fun c50 => ?_)
    · refine k_run 0 (pc' := 49) (l' := [(0, .inr (.inr 361)), (1, .inl 1), (2, .inl x), (3, .inl a), (4, .inl b), (5, .inl c), (6, .inr (.inr 13)), (7, .inl (H.1 16 (x).toNat))]) (st' := []) rfl ?_
      refine k_run 1 (pc' := 50) (l' := [(0, .inr (.inr 361)), (1, .inl 1), (2, .inl x), (3, .inl a), (4, .inl b), (5, .inl c), (6, .inr (.inr 13)), (7, .inl (H.1 16 (x).toNat))]) (st' := [.inl a]) rfl ?_
      refine h_zlt (off := 20) (t := 70) rfl rfl (by omega) (fun c51 => ?_) (fun c51 => ?_)
      · refine k_run 0 (pc' := 70) (l' := [(0, .inr (.inr 361)), (1, .inl 1), (2, .inl x), (3, .inl a), (4, .inl b), (5, .inl c), (6, .inr (.inr 13)), (7, .inl (H.1 16 (x).toNat))]) (st' := []) rfl ?_
        refine k_run 4 (pc' := 75) (l' := [(0, .inr (.inr 361)), (1, .inl 1), (2, .inl x), (3, .inl a), (4, .inl b), (5, .inl c), (6, .inr (.inr 13)), (7, .inl (H.1 16 (x).toNat))]) (st' := [.inl (H.1 16 (x).toNat), .inl x, .inl 1, .inr (.inr 361)]) rfl ?_
        refine h_cs (i := 153) (j := 48) (M' := mt_48) (xs := [.inl (H.1 16 (x).toNat), .inl x, .inl 1]) (rest := [.inr (.inr 361)]) rfl rfl rfl rfl rfl (Nat.le_of_ble_eq_true rfl) (Nat.le_of_ble_eq_true rfl) (by omega) (q_Term_codeOf (by omega)  (by decide) (by omega) (by omega)) ?_
        rintro _ _ ⟨z58, rfl, g52, hx57, rfl⟩
        refine k_run 0 (pc' := 78) (l' := [(0, .inr (.inr 361)), (1, .inl 1), (2, .inl x), (3, .inl a), (4, .inl b), (5, .inl c), (6, .inr (.inr 13)), (7, .inl (H.1 16 (x).toNat))]) (st' := [.inl z58, .inr (.inr 361)]) rfl ?_
        have g59 : -2147483648 ≤ (H.1 361 3) ∧ (H.1 361 3) ≤ 2147483647 := kn (x := kx_361) hI rfl 3
        have g60 : 0 ≤ (H.1 2 5) ∧ (H.1 2 5) ≤ 1001 := kn (x := kx_2) hI rfl 5
        refine h_cv (i := 157) (j := 77) (b := 361) (M' := mt_77) (xs := [.inl z58]) (rest := []) rfl rfl rfl rfl (zs_K (x := kx_361) rfl (by decide)) rfl (Nat.le_of_ble_eq_true rfl) (Nat.le_of_ble_eq_true rfl) (by omega) (q_Reader_addName (by omega) hI (by omega) (by omega) (RT_TQ hR)) ?_
        rintro _ H62 ⟨z67, rfl, g61, hI63, hq64, hp65, hx66⟩
        have hf68 : fq [(361, 3), (361, 4), (361, 5), (361, 9)] [362] true H H62 := fq_t (fq_rf _ _ _ _) hq64 rfl rfl rfl
        refine k_run 0 (pc' := 81) (l' := [(0, .inr (.inr 361)), (1, .inl 1), (2, .inl x), (3, .inl a), (4, .inl b), (5, .inl c), (6, .inr (.inr 13)), (7, .inl (H.1 16 (x).toNat))]) (st' := [.inl z67]) rfl ?_
        refine k_run 3 (pc' := 86) (l' := [(0, .inr (.inr 361)), (1, .inl 1), (2, .inl x), (3, .inl a), (4, .inl b), (5, .inl c), (6, .inr (.inr 13)), (7, .inl (H.1 16 (x).toNat)), (8, .inl z67), (9, .inl 0)]) (st' := []) rfl ?_
        rw [hQ9]
        exact (q_readApplied_1_cut hd hI hx ha hb hc hp0 hp1 hR hX h2 hf9 hR1 _) H62 hI63 hf68 (H.1 16 (x).toNat) z67 (0 : Int) (by omega) (by omega) (by decide) (by omega) (by omega) (by omega) (by omega) (hx66.elim (fun e => Or.inl ⟨e.1, by omega, xput X (1 + x), (rch_st hX (by show stTerm Y a b c K X = _; unfold stTerm stApp; rw [hf9]; (repeat (first | rw [if_pos (by omega)] | rw [if_neg (by omega)])); try rfl)), RT_put hR hp65 (e.2.2.1.trans (hx57.trans (by rw [← ha2]; exact (kcd_c X ⟨by omega, by omega⟩).symm))) e.2.2.2.1 e.2.2.2.2 (by omega) (RB_lt hB (by omega) (by omega)), PW9_put hsz.2.1 (fun _ => Or.inl ⟨by omega, by omega, by omega⟩)⟩) (fun e => Or.inr ⟨e.1, FB_mk hB e.2.2.1 nF45 (rch_st hX (by show stTerm Y a b c K X = _; unfold stTerm stApp; rw [hf9]; (repeat (first | rw [if_pos (by omega)] | rw [if_neg (by omega)])); try rfl)) e.2.2.2.1 e.2.2.2.2⟩)) (NL_fw hp65 (nX_put (by first | exact RT_TQ hR1 | exact RT_TQ hR2 | exact RT_TQ hR3 | exact RT_TQ hR))) (Nat.lt_succ_self _)
      · refine k_run 0 (pc' := 53) (l' := [(0, .inr (.inr 361)), (1, .inl 1), (2, .inl x), (3, .inl a), (4, .inl b), (5, .inl c), (6, .inr (.inr 13)), (7, .inl (H.1 16 (x).toNat))]) (st' := []) rfl ?_
        refine k_run 3 (pc' := 59) (l' := [(0, .inr (.inr 361)), (1, .inl 1), (2, .inl x), (3, .inl a), (4, .inl b), (5, .inl c), (6, .inr (.inr 13)), (7, .inl (H.1 16 (x).toNat))]) (st' := [.inl x, .inr (.inr 15)]) rfl ?_
        refine k_ild (c := 15) (j := (x).toNat) (i := x) (x := kx_15) rfl rfl (by decide) rfl (by decide) (by omega) (by omega) ?_
        have g69 : -2 ≤ (H.1 15 (x).toNat) ∧ (H.1 15 (x).toNat) ≤ 100 := kn (x := kx_15) hI rfl (x).toNat
        refine k_run 0 (pc' := 60) (l' := [(0, .inr (.inr 361)), (1, .inl 1), (2, .inl x), (3, .inl a), (4, .inl b), (5, .inl c), (6, .inr (.inr 13)), (7, .inl (H.1 16 (x).toNat))]) (st' := [.inl (H.1 15 (x).toNat)]) rfl ?_
        refine k_run 1 (pc' := 61) (l' := [(0, .inr (.inr 361)), (1, .inl 1), (2, .inl x), (3, .inl a), (4, .inl b), (5, .inl c), (6, .inr (.inr 13)), (7, .inl (H.1 16 (x).toNat))]) (st' := [.inl a, .inl (H.1 15 (x).toNat)]) rfl ?_
        refine h_ieq (off := 9) (t := 70) rfl rfl (by omega) (by omega) (fun c70 => ?_) (fun c70 => ?_)
        · refine k_run 0 (pc' := 70) (l' := [(0, .inr (.inr 361)), (1, .inl 1), (2, .inl x), (3, .inl a), (4, .inl b), (5, .inl c), (6, .inr (.inr 13)), (7, .inl (H.1 16 (x).toNat))]) (st' := []) rfl ?_
          refine k_run 4 (pc' := 75) (l' := [(0, .inr (.inr 361)), (1, .inl 1), (2, .inl x), (3, .inl a), (4, .inl b), (5, .inl c), (6, .inr (.inr 13)), (7, .inl (H.1 16 (x).toNat))]) (st' := [.inl (H.1 16 (x).toNat), .inl x, .inl 1, .inr (.inr 361)]) rfl ?_
          refine h_cs (i := 153) (j := 48) (M' := mt_48) (xs := [.inl (H.1 16 (x).toNat), .inl x, .inl 1]) (rest := [.inr (.inr 361)]) rfl rfl rfl rfl rfl (Nat.le_of_ble_eq_true rfl) (Nat.le_of_ble_eq_true rfl) (by omega) (q_Term_codeOf (by omega)  (by decide) (by omega) (by omega)) ?_
          rintro _ _ ⟨z77, rfl, g71, hx76, rfl⟩
          refine k_run 0 (pc' := 78) (l' := [(0, .inr (.inr 361)), (1, .inl 1), (2, .inl x), (3, .inl a), (4, .inl b), (5, .inl c), (6, .inr (.inr 13)), (7, .inl (H.1 16 (x).toNat))]) (st' := [.inl z77, .inr (.inr 361)]) rfl ?_
          have g78 : -2147483648 ≤ (H.1 361 3) ∧ (H.1 361 3) ≤ 2147483647 := kn (x := kx_361) hI rfl 3
          have g79 : 0 ≤ (H.1 2 5) ∧ (H.1 2 5) ≤ 1001 := kn (x := kx_2) hI rfl 5
          refine h_cv (i := 157) (j := 77) (b := 361) (M' := mt_77) (xs := [.inl z77]) (rest := []) rfl rfl rfl rfl (zs_K (x := kx_361) rfl (by decide)) rfl (Nat.le_of_ble_eq_true rfl) (Nat.le_of_ble_eq_true rfl) (by omega) (q_Reader_addName (by omega) hI (by omega) (by omega) (RT_TQ hR)) ?_
          rintro _ H81 ⟨z86, rfl, g80, hI82, hq83, hp84, hx85⟩
          have hf87 : fq [(361, 3), (361, 4), (361, 5), (361, 9)] [362] true H H81 := fq_t (fq_rf _ _ _ _) hq83 rfl rfl rfl
          refine k_run 0 (pc' := 81) (l' := [(0, .inr (.inr 361)), (1, .inl 1), (2, .inl x), (3, .inl a), (4, .inl b), (5, .inl c), (6, .inr (.inr 13)), (7, .inl (H.1 16 (x).toNat))]) (st' := [.inl z86]) rfl ?_
          refine k_run 3 (pc' := 86) (l' := [(0, .inr (.inr 361)), (1, .inl 1), (2, .inl x), (3, .inl a), (4, .inl b), (5, .inl c), (6, .inr (.inr 13)), (7, .inl (H.1 16 (x).toNat)), (8, .inl z86), (9, .inl 0)]) (st' := []) rfl ?_
          rw [hQ9]
          exact (q_readApplied_1_cut hd hI hx ha hb hc hp0 hp1 hR hX h2 hf9 hR1 _) H81 hI82 hf87 (H.1 16 (x).toNat) z86 (0 : Int) (by omega) (by omega) (by decide) (by omega) (by omega) (by omega) (by omega) (hx85.elim (fun e => Or.inl ⟨e.1, by omega, xput X (1 + x), (rch_st hX (by show stTerm Y a b c K X = _; unfold stTerm stApp; rw [hf9]; (repeat (first | rw [if_pos (by omega)] | rw [if_neg (by omega)])); try rfl)), RT_put hR hp84 (e.2.2.1.trans (hx76.trans (by rw [← ha2]; exact (kcd_c X ⟨by omega, by omega⟩).symm))) e.2.2.2.1 e.2.2.2.2 (by omega) (RB_lt hB (by omega) (by omega)), PW9_put hsz.2.1 (fun _ => Or.inl ⟨by omega, by omega, by omega⟩)⟩) (fun e => Or.inr ⟨e.1, FB_mk hB e.2.2.1 nF45 (rch_st hX (by show stTerm Y a b c K X = _; unfold stTerm stApp; rw [hf9]; (repeat (first | rw [if_pos (by omega)] | rw [if_neg (by omega)])); try rfl)) e.2.2.2.1 e.2.2.2.2⟩)) (NL_fw hp84 (nX_put (by first | exact RT_TQ hR1 | exact RT_TQ hR2 | exact RT_TQ hR3 | exact RT_TQ hR))) (Nat.lt_succ_self _)
        · refine k_run 0 (pc' := 64) (l' := [(0, .inr (.inr 361)), (1, .inl 1), (2, .inl x), (3, .inl a), (4, .inl b), (5, .inl c), (6, .inr (.inr 13)), (7, .inl (H.1 16 (x).toNat))]) (st' := []) rfl ?_
          refine k_run 2 (pc' := 66) (l' := [(0, .inr (.inr 361)), (1, .inl 1), (2, .inl x), (3, .inl a), (4, .inl b), (5, .inl c), (6, .inr (.inr 13)), (7, .inl (H.1 16 (x).toNat))]) (st' := [.inl 4, .inr (.inr 361)]) rfl ?_
          have g88 : -2147483648 ≤ (H.1 361 3) ∧ (H.1 361 3) ≤ 2147483647 := kn (x := kx_361) hI rfl 3
          have g89 : 0 ≤ (H.1 2 5) ∧ (H.1 2 5) ≤ 1001 := kn (x := kx_2) hI rfl 5
          refine h_cv (i := 128) (j := 86) (b := 361) (M' := mt_86) (xs := [.inl 4]) (rest := []) rfl rfl rfl rfl (zs_K (x := kx_361) rfl (by decide)) rfl (Nat.le_of_ble_eq_true rfl) (Nat.le_of_ble_eq_true rfl) (by omega) (q_Reader_fails (by omega) hI (by decide) (by omega)) ?_
          rintro _ H91 ⟨z96, rfl, g90, hI92, hq93, hp94, hx95⟩
          have hf97 : fq [(361, 3), (361, 4), (361, 5), (361, 9)] [362] true H H91 := fq_t (fq_rf _ _ _ _) hq93 rfl rfl rfl
          refine k_run 0 (pc' := 69) (l' := [(0, .inr (.inr 361)), (1, .inl 1), (2, .inl x), (3, .inl a), (4, .inl b), (5, .inl c), (6, .inr (.inr 13)), (7, .inl (H.1 16 (x).toNat))]) (st' := [.inl z96]) rfl ?_
          refine h_retz (x := z96) rfl rfl (by omega) ?_
          rw [hQ9]
          exact ⟨_, rfl, (by omega), hI92, hf97, (by first | (exfalso; omega) | exact ⟨(Or.inr ⟨by omega, FB_mk hB hp94 nF45 (rch_st hX (by show stTerm Y a b c K X = _; unfold stTerm stApp; rw [hf9]; (repeat (first | rw [if_pos (by omega)] | rw [if_neg (by omega)])); try rfl)) hx95.1 hx95.2⟩), NL_fw hp94 (nXF45 _)⟩)⟩
    · refine k_run 0 (pc' := 43) (l' := [(0, .inr (.inr 361)), (1, .inl 1), (2, .inl x), (3, .inl a), (4, .inl b), (5, .inl c), (6, .inr (.inr 13)), (7, .inl (H.1 16 (x).toNat))]) (st' := []) rfl ?_
      refine k_run 2 (pc' := 45) (l' := [(0, .inr (.inr 361)), (1, .inl 1), (2, .inl x), (3, .inl a), (4, .inl b), (5, .inl c), (6, .inr (.inr 13)), (7, .inl (H.1 16 (x).toNat))]) (st' := [.inl 2, .inr (.inr 361)]) rfl ?_
      have g98 : -2147483648 ≤ (H.1 361 3) ∧ (H.1 361 3) ≤ 2147483647 := kn (x := kx_361) hI rfl 3
      have g99 : 0 ≤ (H.1 2 5) ∧ (H.1 2 5) ≤ 1001 := kn (x := kx_2) hI rfl 5
      refine h_cv (i := 128) (j := 86) (b := 361) (M' := mt_86) (xs := [.inl 2]) (rest := []) rfl rfl rfl rfl (zs_K (x := kx_361) rfl (by decide)) rfl (Nat.le_of_ble_eq_true rfl) (Nat.le_of_ble_eq_true rfl) (by omega) (q_Reader_fails (by omega) hI (by decide) (by omega)) ?_
      rintro _ H101 ⟨z106, rfl, g100, hI102, hq103, hp104, hx105⟩
      have hf107 : fq [(361, 3), (361, 4), (361, 5), (361, 9)] [362] true H H101 := fq_t (fq_rf _ _ _ _) hq103 rfl rfl rfl
      refine k_run 0 (pc' := 48) (l' := [(0, .inr (.inr 361)), (1, .inl 1), (2, .inl x), (3, .inl a), (4, .inl b), (5, .inl c), (6, .inr (.inr 13)), (7, .inl (H.1 16 (x).toNat))]) (st' := [.inl z106]) rfl ?_
      refine h_retz (x := z106) rfl rfl (by omega) ?_
      rw [hQ9]
      exact ⟨_, rfl, (by omega), hI102, hf107, (by first | (exfalso; omega) | exact ⟨(Or.inr ⟨by omega, FB_mk hB hp104 nF45 (rch_st hX (by show stTerm Y a b c K X = _; unfold stTerm stApp; rw [hf9]; (repeat (first | rw [if_pos (by omega)] | rw [if_neg (by omega)])); try rfl)) hx105.1 hx105.2⟩), NL_fw hp104 (nXF45 _)⟩)⟩

/-! Reader.readTerm -/
set_option maxRecDepth 100000 in
theorem q_readTerm_0 {Y : yx} {q : Nat} {c0 : cf} {K : List tq} {X : rx} {m : Nat} {d : Nat} (hd : 3 * m + 10 ≤ d) {H : hp} (hI : Inv H) {a : Int} {b : Int} {c : Int} (ha : -2147483648 ≤ a ∧ a ≤ 2147483647) (hb : -2147483648 ≤ b ∧ b ≤ 2147483647) (hc : 0 ≤ c ∧ c ≤ 1) (hp0 : -2 ≤ a ∧ a ≤ 100 ∧ 0 ≤ b ∧ b ≤ 10 ∧ 10 ≤ b + (m : Int)) (hR : RT Y q H X) (hX : rch Y c0 ((2, a, b, c) :: K, X)) (hRf : ∀ m1, m1 < m → RTf m1) (hA1 : RA1f m) (hA2 : RA2f m) : hG (zs zK) d mt_73 0 (zargs 0 [.inr (.inr 361), .inl a, .inl b, .inl c]) [] H (fun r9 H9 => ∃ z : Int, r9 = some (.inl z) ∧ ((0 ≤ z ∧ z ≤ 1)) ∧ Inv H9 ∧ fq [(361, 3), (361, 4), (361, 5), (361, 9)] [362] true H H9 ∧ ((OT Y q c0 K (PW9 a X) z H9) ∧ NL H H9)) := by
  obtain ⟨hB, hV, hS⟩ := id hR
  have hpa := RB_pa hB
  have htk := RB_tk hB
  obtain ⟨kE, hkE, hEE⟩ := hV.2.1
  have hmo := hV.1
  have hsz := hS.2.1
  obtain ⟨Q9, hQ9⟩ : ∃ Q9 : Option zv → hp → Prop, Q9 = (fun r9 H9 => ∃ z : Int, r9 = some (.inl z) ∧ ((0 ≤ z ∧ z ≤ 1)) ∧ Inv H9 ∧ fq [(361, 3), (361, 4), (361, 5), (361, 9)] [362] true H H9 ∧ ((OT Y q c0 K (PW9 a X) z H9) ∧ NL H H9)) := ⟨_, rfl⟩
  rw [← hQ9]
  refine k_run 0 (pc' := 0) (l' := [(0, .inr (.inr 361)), (1, .inl a), (2, .inl b), (3, .inl c)]) (st' := []) rfl ?_
  refine k_run 1 (pc' := 1) (l' := [(0, .inr (.inr 361)), (1, .inl a), (2, .inl b), (3, .inl c)]) (st' := [.inr (.inr 361)]) rfl ?_
  have g1 : -2147483648 ≤ (H.1 361 3) ∧ (H.1 361 3) ≤ 2147483647 := kn (x := kx_361) hI rfl 3
  have g2 : 0 ≤ (H.1 2 5) ∧ (H.1 2 5) ≤ 1001 := kn (x := kx_2) hI rfl 5
  refine h_cv (i := 72) (j := 83) (b := 361) (M' := mt_83) (xs := []) (rest := []) rfl rfl rfl rfl (zs_K (x := kx_361) rfl (by decide)) rfl (Nat.le_of_ble_eq_true rfl) (Nat.le_of_ble_eq_true rfl) (by omega) (q_Reader_token (by omega) hI (by omega)) ?_
  rintro _ _ ⟨z9, rfl, g3, hx8, rfl⟩
  refine k_run 0 (pc' := 4) (l' := [(0, .inr (.inr 361)), (1, .inl a), (2, .inl b), (3, .inl c)]) (st' := [.inl z9]) rfl ?_
  rw [htk] at hx8
  rcases (show (z9 ≠ 2 ∧ z9 ≠ 3 ∧ z9 ≠ 40 ∧ z9 ≠ 95) ∨ z9 = 2 ∨ z9 = 3 ∨ z9 = 40 ∨ z9 = 95 by omega) with c10 | c10 | c10 | c10 | c10
  · refine k_lsw (t := 193) rfl (by omega) (by decide) (lsw_no (by intro q9 hq9; simp only [List.mem_cons, List.not_mem_nil, or_false] at hq9; rcases hq9 with rfl | rfl | rfl | rfl <;> (dsimp only; omega))) rfl ?_
    refine k_run 1 (pc' := 194) (l' := [(0, .inr (.inr 361)), (1, .inl a), (2, .inl b), (3, .inl c)]) (st' := [.inr (.inr 361)]) rfl ?_
    refine h_cv (i := 89) (j := 85) (b := 361) (M' := mt_85) (xs := []) (rest := []) rfl rfl rfl rfl (zs_K (x := kx_361) rfl (by decide)) rfl (Nat.le_of_ble_eq_true rfl) (Nat.le_of_ble_eq_true rfl) (by omega) (q_Reader_misplaced (by omega) hI (by omega)) ?_
    rintro _ H12 ⟨z17, rfl, g11, hI13, hq14, hp15, hx16⟩
    have hf18 : fq [(361, 3), (361, 4), (361, 5), (361, 9)] [362] true H H12 := fq_t (fq_rf _ _ _ _) hq14 rfl rfl rfl
    refine k_run 0 (pc' := 197) (l' := [(0, .inr (.inr 361)), (1, .inl a), (2, .inl b), (3, .inl c)]) (st' := [.inl z17]) rfl ?_
    refine h_retz (x := z17) rfl rfl (by omega) ?_
    rw [hQ9]
    exact ⟨_, rfl, (by omega), hI13, hf18, (by first | (exfalso; omega) | exact ⟨(Or.inr ⟨by omega, FB_mk (k := if tk Y (xi X) = 1 then 1 else 2) hB hp15 nF45 (rch_st hX (by show stTerm Y a b c K X = _; unfold stTerm; (repeat (first | rw [if_pos (by omega)] | rw [if_neg (by omega)])); try rfl)) (hx16.1.trans (by rw [htk])) hx16.2⟩), NL_fw hp15 (nXF45 _)⟩)⟩
  · refine k_lsw (t := 48) rfl (by omega) (by decide) (by rw [c10]) rfl ?_
    refine k_run 4 (pc' := 56) (l' := [(0, .inr (.inr 361)), (1, .inl a), (2, .inl b), (3, .inl c)]) (st' := [.inr (.inr 361), .inr (.inr 18)]) rfl ?_
    refine h_cv (i := 120) (j := 84) (b := 361) (M' := mt_84) (xs := []) (rest := [.inr (.inr 18)]) rfl rfl rfl rfl (zs_K (x := kx_361) rfl (by decide)) rfl (Nat.le_of_ble_eq_true rfl) (Nat.le_of_ble_eq_true rfl) (by omega) (q_Reader_name (by omega) hI (by omega)) ?_
    rintro _ _ ⟨z25, rfl, g19, hx24, rfl⟩
    refine k_run 0 (pc' := 59) (l' := [(0, .inr (.inr 361)), (1, .inl a), (2, .inl b), (3, .inl c)]) (st' := [.inr (.inl z25), .inr (.inr 18)]) rfl ?_
    have g26 : 0 ≤ (H.1 18 4) ∧ (H.1 18 4) ≤ 16 := kn (x := kx_18) hI rfl 4
    refine h_cv (i := 124) (j := 41) (b := 18) (M' := mt_41) (xs := [.inr (.inl z25)]) (rest := []) rfl rfl rfl rfl (zs_K (x := kx_18) rfl (by decide)) rfl (Nat.le_of_ble_eq_true rfl) (Nat.le_of_ble_eq_true rfl) (by omega) (q_Symbols_find_18 (by omega) hI (by omega)) ?_
    rintro _ _ ⟨z33, rfl, g27, hx32, rfl⟩
    refine k_run 0 (pc' := 62) (l' := [(0, .inr (.inr 361)), (1, .inl a), (2, .inl b), (3, .inl c)]) (st' := [.inl z33]) rfl ?_
    have hff : z33 = ffd Y X := by rw [hx32, hx24]; exact RB_ff hB (by omega) (by omega)
    refine k_run 2 (pc' := 66) (l' := [(0, .inr (.inr 361)), (1, .inl a), (2, .inl b), (3, .inl c), (4, .inl z33)]) (st' := [.inl z33]) rfl ?_
    refine h_zge (off := 9) (t := 75) rfl rfl (by omega) (fun c34 => ?_) (fun c34 => ?_)
    · refine k_run 0 (pc' := 75) (l' := [(0, .inr (.inr 361)), (1, .inl a), (2, .inl b), (3, .inl c), (4, .inl z33)]) (st' := []) rfl ?_
      refine k_run 6 (pc' := 82) (l' := [(0, .inr (.inr 361)), (1, .inl a), (2, .inl b), (3, .inl c), (4, .inl z33)]) (st' := [.inl c, .inl b, .inl a, .inl z33, .inl 2, .inr (.inr 361)]) rfl ?_
      refine h_cv (i := 215) (j := 74) (b := 361) (M' := mt_74) (xs := [.inl c, .inl b, .inl a, .inl z33, .inl 2]) (rest := []) rfl rfl rfl rfl (zs_K (x := kx_361) rfl (by decide)) rfl (Nat.le_of_ble_eq_true rfl) (Nat.le_of_ble_eq_true rfl) (by omega) (hA2 (by omega) hI (by omega) (by omega) (by omega) (by omega) (by omega) (by omega) hR hX (by omega) hff.symm) ?_
      rintro _ H36 ⟨z41, rfl, g35, hI37, hq38, hx40⟩
      have hf42 : fq [(361, 3), (361, 4), (361, 5), (361, 9)] [362] true H H36 := fq_t (fq_rf _ _ _ _) hq38 rfl rfl rfl
      refine k_run 0 (pc' := 85) (l' := [(0, .inr (.inr 361)), (1, .inl a), (2, .inl b), (3, .inl c), (4, .inl z33)]) (st' := [.inl z41]) rfl ?_
      refine h_retz (x := z41) rfl rfl (by omega) ?_
      rw [hQ9]
      exact ⟨_, rfl, (by omega), hI37, hf42, (by first | (exfalso; omega) | exact hx40)⟩
    · refine k_run 0 (pc' := 69) (l' := [(0, .inr (.inr 361)), (1, .inl a), (2, .inl b), (3, .inl c), (4, .inl z33)]) (st' := []) rfl ?_
      refine k_run 2 (pc' := 71) (l' := [(0, .inr (.inr 361)), (1, .inl a), (2, .inl b), (3, .inl c), (4, .inl z33)]) (st' := [.inl a, .inr (.inr 361)]) rfl ?_
      refine h_cv (i := 212) (j := 75) (b := 361) (M' := mt_75) (xs := [.inl a]) (rest := []) rfl rfl rfl rfl (zs_K (x := kx_361) rfl (by decide)) rfl (Nat.le_of_ble_eq_true rfl) (Nat.le_of_ble_eq_true rfl) (by omega) (q_Reader_readVariable (by omega) hI (by omega) (by omega) hR hX (by omega) (by omega)) ?_
      rintro _ H44 ⟨z49, rfl, g43, hI45, hq46, hx48⟩
      have hf50 : fq [(361, 3), (361, 4), (361, 5), (361, 9)] [362] true H H44 := fq_t (fq_rf _ _ _ _) hq46 rfl rfl rfl
      refine k_run 0 (pc' := 74) (l' := [(0, .inr (.inr 361)), (1, .inl a), (2, .inl b), (3, .inl c), (4, .inl z33)]) (st' := [.inl z49]) rfl ?_
      refine h_retz (x := z49) rfl rfl (by omega) ?_
      rw [hQ9]
      exact ⟨_, rfl, (by omega), hI45, hf50, (by first | (exfalso; omega) | exact hx48)⟩
  · refine k_lsw (t := 86) rfl (by omega) (by decide) (by rw [c10]) rfl ?_
    refine k_run 4 (pc' := 94) (l' := [(0, .inr (.inr 361)), (1, .inl a), (2, .inl b), (3, .inl c)]) (st' := [.inr (.inr 361), .inr (.inr 13)]) rfl ?_
    refine h_cv (i := 120) (j := 84) (b := 361) (M' := mt_84) (xs := []) (rest := [.inr (.inr 13)]) rfl rfl rfl rfl (zs_K (x := kx_361) rfl (by decide)) rfl (Nat.le_of_ble_eq_true rfl) (Nat.le_of_ble_eq_true rfl) (by omega) (q_Reader_name (by omega) hI (by omega)) ?_
    rintro _ _ ⟨z57, rfl, g51, hx56, rfl⟩
    refine k_run 0 (pc' := 97) (l' := [(0, .inr (.inr 361)), (1, .inl a), (2, .inl b), (3, .inl c)]) (st' := [.inr (.inl z57), .inr (.inr 13)]) rfl ?_
    have g58 : 0 ≤ (H.1 13 4) ∧ (H.1 13 4) ≤ 16 := kn (x := kx_13) hI rfl 4
    refine h_cv (i := 124) (j := 41) (b := 13) (M' := mt_41) (xs := [.inr (.inl z57)]) (rest := []) rfl rfl rfl rfl (zs_K (x := kx_13) rfl (by decide)) rfl (Nat.le_of_ble_eq_true rfl) (Nat.le_of_ble_eq_true rfl) (by omega) (q_Symbols_find_13 (by omega) hI (by omega)) ?_
    rintro _ _ ⟨z65, rfl, g59, hx64, rfl⟩
    refine k_run 0 (pc' := 100) (l' := [(0, .inr (.inr 361)), (1, .inl a), (2, .inl b), (3, .inl c)]) (st' := [.inl z65]) rfl ?_
    have hcf : z65 = cfd Y X := by rw [hx64, hx56]; exact RB_cf hB (by omega) (by omega)
    refine k_run 2 (pc' := 104) (l' := [(0, .inr (.inr 361)), (1, .inl a), (2, .inl b), (3, .inl c), (5, .inl z65)]) (st' := [.inl z65]) rfl ?_
    refine h_zge (off := 9) (t := 113) rfl rfl (by omega) (fun c66 => ?_) (fun c66 => ?_)
    · refine k_run 0 (pc' := 113) (l' := [(0, .inr (.inr 361)), (1, .inl a), (2, .inl b), (3, .inl c), (5, .inl z65)]) (st' := []) rfl ?_
      refine k_run 6 (pc' := 120) (l' := [(0, .inr (.inr 361)), (1, .inl a), (2, .inl b), (3, .inl c), (5, .inl z65)]) (st' := [.inl c, .inl b, .inl a, .inl z65, .inl 1, .inr (.inr 361)]) rfl ?_
      refine h_cv (i := 215) (j := 74) (b := 361) (M' := mt_74) (xs := [.inl c, .inl b, .inl a, .inl z65, .inl 1]) (rest := []) rfl rfl rfl rfl (zs_K (x := kx_361) rfl (by decide)) rfl (Nat.le_of_ble_eq_true rfl) (Nat.le_of_ble_eq_true rfl) (by omega) (hA1 (by omega) hI (by omega) (by omega) (by omega) (by omega) (by omega) (by omega) hR hX (by omega) hcf.symm) ?_
      rintro _ H68 ⟨z73, rfl, g67, hI69, hq70, hx72⟩
      have hf74 : fq [(361, 3), (361, 4), (361, 5), (361, 9)] [362] true H H68 := fq_t (fq_rf _ _ _ _) hq70 rfl rfl rfl
      refine k_run 0 (pc' := 123) (l' := [(0, .inr (.inr 361)), (1, .inl a), (2, .inl b), (3, .inl c), (5, .inl z65)]) (st' := [.inl z73]) rfl ?_
      refine h_retz (x := z73) rfl rfl (by omega) ?_
      rw [hQ9]
      exact ⟨_, rfl, (by omega), hI69, hf74, (by first | (exfalso; omega) | exact hx72)⟩
    · refine k_run 0 (pc' := 107) (l' := [(0, .inr (.inr 361)), (1, .inl a), (2, .inl b), (3, .inl c), (5, .inl z65)]) (st' := []) rfl ?_
      refine k_run 2 (pc' := 109) (l' := [(0, .inr (.inr 361)), (1, .inl a), (2, .inl b), (3, .inl c), (5, .inl z65)]) (st' := [.inl 3, .inr (.inr 361)]) rfl ?_
      refine h_cv (i := 128) (j := 86) (b := 361) (M' := mt_86) (xs := [.inl 3]) (rest := []) rfl rfl rfl rfl (zs_K (x := kx_361) rfl (by decide)) rfl (Nat.le_of_ble_eq_true rfl) (Nat.le_of_ble_eq_true rfl) (by omega) (q_Reader_fails (by omega) hI (by decide) (by omega)) ?_
      rintro _ H76 ⟨z81, rfl, g75, hI77, hq78, hp79, hx80⟩
      have hf82 : fq [(361, 3), (361, 4), (361, 5), (361, 9)] [362] true H H76 := fq_t (fq_rf _ _ _ _) hq78 rfl rfl rfl
      refine k_run 0 (pc' := 112) (l' := [(0, .inr (.inr 361)), (1, .inl a), (2, .inl b), (3, .inl c), (5, .inl z65)]) (st' := [.inl z81]) rfl ?_
      refine h_retz (x := z81) rfl rfl (by omega) ?_
      rw [hQ9]
      exact ⟨_, rfl, (by omega), hI77, hf82, (by first | (exfalso; omega) | exact ⟨(Or.inr ⟨by omega, FB_mk hB hp79 nF45 (rch_st hX (by show stTerm Y a b c K X = _; unfold stTerm; (repeat (first | rw [if_pos (by omega)] | rw [if_neg (by omega)])); try rfl)) hx80.1 hx80.2⟩), NL_fw hp79 (nXF45 _)⟩)⟩
  · refine k_lsw (t := 144) rfl (by omega) (by decide) (by rw [c10]) rfl ?_
    refine k_run 2 (pc' := 147) (l' := [(0, .inr (.inr 361)), (1, .inl a), (2, .inl b), (3, .inl c)]) (st' := [.inl 10, .inl b]) rfl ?_
    refine h_ilt (off := 9) (t := 156) rfl rfl (by omega) (by decide) (fun c83 => ?_) (fun c83 => ?_)
    · refine k_run 0 (pc' := 156) (l' := [(0, .inr (.inr 361)), (1, .inl a), (2, .inl b), (3, .inl c)]) (st' := []) rfl ?_
      refine k_run 5 (pc' := 163) (l' := [(0, .inr (.inr 361)), (1, .inl a), (2, .inl b), (3, .inl c)]) (st' := [.inl ((H.1 361 3) + 1), .inr (.inr 361)]) rfl ?_
      refine k_puti (z := ((H.1 361 3) + 1)) (a := 361) (x := kx_361) rfl rfl rfl (by decide) (by decide) rfl rfl rfl rfl hI (by omega) (show -2147483648 ≤ ((H.1 361 3) + 1) ∧ ((H.1 361 3) + 1) ≤ 2147483647 by omega) (fun H84 hI85 hw86 hv87 => ?_)
      have hf88 : fq [(361, 3), (361, 4), (361, 5), (361, 9)] [362] true H H84 := fq_w (fq_rf _ _ _ _) hw86 (fpo (by decide) rfl)
      refine k_run 0 (pc' := 166) (l' := [(0, .inr (.inr 361)), (1, .inl a), (2, .inl b), (3, .inl c)]) (st' := []) rfl ?_
      have hw2 := hw86
      have hR2 : RT Y q H84 (adv X) := RT_adv hR (fw_w (fw_rf [(361, 3)] _) hw86 (by simp)) n3 hv87 (RB_lt hB (by omega) (by omega))
      have hX2 : rch Y c0 ((2, a, b + 1, 0) :: (1, 41, 0, 0) :: K, adv X) := (rch_st hX (by show stTerm Y a b c K X = _; unfold stTerm; (repeat (first | rw [if_pos (by omega)] | rw [if_neg (by omega)])); try rfl))
      refine k_run 6 (pc' := 172) (l' := [(0, .inr (.inr 361)), (1, .inl a), (2, .inl b), (3, .inl c)]) (st' := [.inl 0, .inl (b + 1), .inl a, .inr (.inr 361)]) rfl ?_
      refine h_cv (i := 109) (j := 73) (b := 361) (M' := mt_73) (xs := [.inl 0, .inl (b + 1), .inl a]) (rest := []) rfl rfl rfl rfl (zs_K (x := kx_361) rfl (by decide)) rfl (Nat.le_of_ble_eq_true rfl) (Nat.le_of_ble_eq_true rfl) (by omega) (hRf (m - 1) (by omega) (by omega) hI85 (by omega) (by omega) (by decide) (by omega) hR2 hX2) ?_
      rintro _ H90 ⟨z95, rfl, g89, hI91, hq92, hx94⟩
      have hf96 : fq [(361, 3), (361, 4), (361, 5), (361, 9)] [362] true H H90 := fq_t hf88 hq92 rfl rfl rfl
      refine k_run 0 (pc' := 175) (l' := [(0, .inr (.inr 361)), (1, .inl a), (2, .inl b), (3, .inl c)]) (st' := [.inl z95]) rfl ?_
      refine h_zeq (off := 16) (t := 191) rfl rfl (by omega) (fun c97 => ?_) (fun c97 => ?_)
      · refine k_run 0 (pc' := 191) (l' := [(0, .inr (.inr 361)), (1, .inl a), (2, .inl b), (3, .inl c)]) (st' := []) rfl ?_
        refine k_run 1 (pc' := 192) (l' := [(0, .inr (.inr 361)), (1, .inl a), (2, .inl b), (3, .inl c)]) (st' := [.inl 0]) rfl ?_
        refine h_retz (x := 0) rfl rfl (by decide) ?_
        rw [hQ9]
        exact ⟨_, rfl, (by omega), hI91, hf96, (by first | (exfalso; omega) | exact ⟨(Or.inr ⟨rfl, (Or.resolve_left hx94.1 (fun q9 => by have := q9.1; omega)).2⟩), NL_tr (NL_w hw2) hx94.2⟩)⟩
      · refine k_run 0 (pc' := 178) (l' := [(0, .inr (.inr 361)), (1, .inl a), (2, .inl b), (3, .inl c)]) (st' := []) rfl ?_
        obtain ⟨X2, k1, k2, k3⟩ := (Or.resolve_right hx94.1 (fun q9 => by have := q9.1; omega)).2
        have hpa2 := RB_pa k2.1
        have htk2 := RB_tk k2.1
        refine k_run 2 (pc' := 181) (l' := [(0, .inr (.inr 361)), (1, .inl a), (2, .inl b), (3, .inl c)]) (st' := [.inl 41, .inr (.inr 361)]) rfl ?_
        have g98 : -2147483648 ≤ (H90.1 361 3) ∧ (H90.1 361 3) ≤ 2147483647 := kn (x := kx_361) hI91 rfl 3
        have g99 : 0 ≤ (H90.1 2 5) ∧ (H90.1 2 5) ≤ 1001 := kn (x := kx_2) hI91 rfl 5
        have e100 : (H90.1 2 5) = (H84.1 2 5) := (hq92.1 2 5 rfl (by decide) (by decide)).1
        have e101 : (H84.1 2 5) = (H.1 2 5) := hw86.2 _ _ (fun q => absurd q.1 (by decide))
        refine h_cv (i := 92) (j := 82) (b := 361) (M' := mt_82) (xs := [.inl 41]) (rest := []) rfl rfl rfl rfl (zs_K (x := kx_361) rfl (by decide)) rfl (Nat.le_of_ble_eq_true rfl) (Nat.le_of_ble_eq_true rfl) (by omega) (q_Reader_take (by omega) hI91 (by decide) (by omega)) ?_
        rintro _ H103 ⟨z108, rfl, g102, hI104, hq105, hp106, hx107⟩
        have hf109 : fq [(361, 3), (361, 4), (361, 5), (361, 9)] [362] true H H103 := fq_t hf96 hq105 rfl rfl rfl
        refine k_run 0 (pc' := 184) (l' := [(0, .inr (.inr 361)), (1, .inl a), (2, .inl b), (3, .inl c)]) (st' := [.inl z108]) rfl ?_
        refine h_zeq (off := 7) (t := 191) rfl rfl (by omega) (fun c110 => ?_) (fun c110 => ?_)
        · refine k_run 0 (pc' := 191) (l' := [(0, .inr (.inr 361)), (1, .inl a), (2, .inl b), (3, .inl c)]) (st' := []) rfl ?_
          refine k_run 1 (pc' := 192) (l' := [(0, .inr (.inr 361)), (1, .inl a), (2, .inl b), (3, .inl c)]) (st' := [.inl 0]) rfl ?_
          refine h_retz (x := 0) rfl rfl (by decide) ?_
          rw [hQ9]
          rw [htk2] at hx107
          exact ⟨_, rfl, (by omega), hI104, hf109, (by first | (exfalso; omega) | exact ⟨Or.elim hx107 (fun e => absurd e.1 (by omega)) (fun e => Or.inr ⟨rfl, FB_mk k2.1 hp106 nT345 (rch_st k1 (by show (if tk Y (xi X2) = 41 then _ else _) = _; rw [if_neg e.2.1]; rfl)) e.2.2.2.1 e.2.2.2.2⟩), NL_tr (NL_tr (NL_w hw2) hx94.2) (NL_fw hp106 (nX345 _))⟩)⟩
        · refine k_run 0 (pc' := 187) (l' := [(0, .inr (.inr 361)), (1, .inl a), (2, .inl b), (3, .inl c)]) (st' := []) rfl ?_
          refine k_run 2 (pc' := 192) (l' := [(0, .inr (.inr 361)), (1, .inl a), (2, .inl b), (3, .inl c)]) (st' := [.inl 1]) rfl ?_
          refine h_retz (x := 1) rfl rfl (by decide) ?_
          rw [hQ9]
          rw [htk2] at hx107
          exact ⟨_, rfl, (by omega), hI104, hf109, (by first | (exfalso; omega) | exact ⟨Or.elim hx107 (fun e => Or.inl ⟨rfl, adv X2, rch_st k1 (by show (if tk Y (xi X2) = 41 then _ else _) = _; rw [if_pos e.2.1]), RT_adv k2 hp106 n345 e.2.2 (RB_lt k2.1 (by omega) (by omega)), PW9_take (PW9_adv k3)⟩) (fun e => absurd e.1 (by omega)), NL_tr (NL_tr (NL_w hw2) hx94.2) (NL_fw hp106 (nX345 _))⟩)⟩
    · refine k_run 0 (pc' := 150) (l' := [(0, .inr (.inr 361)), (1, .inl a), (2, .inl b), (3, .inl c)]) (st' := []) rfl ?_
      refine k_run 2 (pc' := 152) (l' := [(0, .inr (.inr 361)), (1, .inl a), (2, .inl b), (3, .inl c)]) (st' := [.inl 5, .inr (.inr 361)]) rfl ?_
      refine h_cv (i := 128) (j := 86) (b := 361) (M' := mt_86) (xs := [.inl 5]) (rest := []) rfl rfl rfl rfl (zs_K (x := kx_361) rfl (by decide)) rfl (Nat.le_of_ble_eq_true rfl) (Nat.le_of_ble_eq_true rfl) (by omega) (q_Reader_fails (by omega) hI (by decide) (by omega)) ?_
      rintro _ H112 ⟨z117, rfl, g111, hI113, hq114, hp115, hx116⟩
      have hf118 : fq [(361, 3), (361, 4), (361, 5), (361, 9)] [362] true H H112 := fq_t (fq_rf _ _ _ _) hq114 rfl rfl rfl
      refine k_run 0 (pc' := 155) (l' := [(0, .inr (.inr 361)), (1, .inl a), (2, .inl b), (3, .inl c)]) (st' := [.inl z117]) rfl ?_
      refine h_retz (x := z117) rfl rfl (by omega) ?_
      rw [hQ9]
      exact ⟨_, rfl, (by omega), hI113, hf118, (by first | (exfalso; omega) | exact ⟨(Or.inr ⟨by omega, FB_mk hB hp115 nF45 (rch_st hX (by show stTerm Y a b c K X = _; unfold stTerm; (repeat (first | rw [if_pos (by omega)] | rw [if_neg (by omega)])); try rfl)) hx116.1 hx116.2⟩), NL_fw hp115 (nXF45 _)⟩)⟩
  · refine k_lsw (t := 124) rfl (by omega) (by decide) (by rw [c10]) rfl ?_
    refine k_run 2 (pc' := 127) (l' := [(0, .inr (.inr 361)), (1, .inl a), (2, .inl b), (3, .inl c)]) (st' := [.inl (-2), .inl a]) rfl ?_
    refine h_ine (off := 11) (t := 138) rfl rfl (by omega) (by decide) (fun c119 => ?_) (fun c119 => ?_)
    · refine k_run 0 (pc' := 138) (l' := [(0, .inr (.inr 361)), (1, .inl a), (2, .inl b), (3, .inl c)]) (st' := []) rfl ?_
      refine k_run 2 (pc' := 140) (l' := [(0, .inr (.inr 361)), (1, .inl a), (2, .inl b), (3, .inl c)]) (st' := [.inl 0, .inr (.inr 361)]) rfl ?_
      refine h_cv (i := 157) (j := 77) (b := 361) (M' := mt_77) (xs := [.inl 0]) (rest := []) rfl rfl rfl rfl (zs_K (x := kx_361) rfl (by decide)) rfl (Nat.le_of_ble_eq_true rfl) (Nat.le_of_ble_eq_true rfl) (by omega) (q_Reader_addName (by omega) hI (by decide) (by omega) (RT_TQ hR)) ?_
      rintro _ H121 ⟨z126, rfl, g120, hI122, hq123, hp124, hx125⟩
      have hf127 : fq [(361, 3), (361, 4), (361, 5), (361, 9)] [362] true H H121 := fq_t (fq_rf _ _ _ _) hq123 rfl rfl rfl
      refine k_run 0 (pc' := 143) (l' := [(0, .inr (.inr 361)), (1, .inl a), (2, .inl b), (3, .inl c)]) (st' := [.inl z126]) rfl ?_
      refine h_retz (x := z126) rfl rfl (by omega) ?_
      rw [hQ9]
      exact ⟨_, rfl, (by omega), hI122, hf127, (by first | (exfalso; omega) | exact ⟨hx125.elim (fun e => Or.inl ⟨e.1, xput X 0, (rch_st hX (by show stTerm Y a b c K X = _; unfold stTerm; (repeat (first | rw [if_pos (by omega)] | rw [if_neg (by omega)])); try rfl)), RT_put hR hp124 e.2.2.1 e.2.2.2.1 e.2.2.2.2 (by omega) (RB_lt hB (by omega) (by omega)), PW9_put hsz.2.1 (fun q9 => absurd q9 (by omega))⟩) (fun e => Or.inr ⟨e.1, FB_mk hB e.2.2.1 nF45 (rch_st hX (by show stTerm Y a b c K X = _; unfold stTerm; (repeat (first | rw [if_pos (by omega)] | rw [if_neg (by omega)])); try rfl)) e.2.2.2.1 e.2.2.2.2⟩), NL_fw hp124 (nX_put (by first | exact RT_TQ hR1 | exact RT_TQ hR2 | exact RT_TQ hR3 | exact RT_TQ hR))⟩)⟩
    · refine k_run 0 (pc' := 130) (l' := [(0, .inr (.inr 361)), (1, .inl a), (2, .inl b), (3, .inl c)]) (st' := []) rfl ?_
      refine k_run 2 (pc' := 132) (l' := [(0, .inr (.inr 361)), (1, .inl a), (2, .inl b), (3, .inl c)]) (st' := [.inl 2, .inr (.inr 361)]) rfl ?_
      refine h_cv (i := 128) (j := 86) (b := 361) (M' := mt_86) (xs := [.inl 2]) (rest := []) rfl rfl rfl rfl (zs_K (x := kx_361) rfl (by decide)) rfl (Nat.le_of_ble_eq_true rfl) (Nat.le_of_ble_eq_true rfl) (by omega) (q_Reader_fails (by omega) hI (by decide) (by omega)) ?_
      rintro _ H129 ⟨z134, rfl, g128, hI130, hq131, hp132, hx133⟩
      have hf135 : fq [(361, 3), (361, 4), (361, 5), (361, 9)] [362] true H H129 := fq_t (fq_rf _ _ _ _) hq131 rfl rfl rfl
      refine k_run 0 (pc' := 135) (l' := [(0, .inr (.inr 361)), (1, .inl a), (2, .inl b), (3, .inl c)]) (st' := [.inl z134]) rfl ?_
      refine k_run 1 (pc' := 143) (l' := [(0, .inr (.inr 361)), (1, .inl a), (2, .inl b), (3, .inl c)]) (st' := [.inl z134]) rfl ?_
      refine h_retz (x := z134) rfl rfl (by omega) ?_
      rw [hQ9]
      exact ⟨_, rfl, (by omega), hI130, hf135, (by first | (exfalso; omega) | exact ⟨(Or.inr ⟨by omega, FB_mk hB hp132 nF45 (rch_st hX (by show stTerm Y a b c K X = _; unfold stTerm; (repeat (first | rw [if_pos (by omega)] | rw [if_neg (by omega)])); try rfl)) hx133.1 hx133.2⟩), NL_fw hp132 (nXF45 _)⟩)⟩

theorem q_RT : ∀ m, RTf m := by
  intro m
  induction m using Nat.strongRecOn with
  | ind m hRf =>
    have h1 : RT1f m := fun hd _ hI _ _ ha hb hp hR hX => q_readTerm_1 hd hI ha hb hp hR hX hRf
    have h2 : RA1f m := fun hd _ hI _ _ _ _ hx ha hb hc hp hq hR hX h2 h3 => q_readApplied_1 hd hI hx ha hb hc hp hq hR hX h2 h3 h1
    have h3 : RA2f m := fun hd _ hI _ _ _ _ hx ha hb hc hp hq hR hX h2 h3 => q_readApplied_2 hd hI hx ha hb hc hp hq hR hX h2 h3 h1
    have h4 : RTf m := fun hd _ hI _ _ _ ha hb hc hp hR hX => q_readTerm_0 hd hI ha hb hc hp hR hX hRf h2 h3
    exact @h4
theorem q_Reader_readTerm {Y : yx} {q : Nat} {c0 : cf} {K : List tq} {X : rx} {d : Nat} (hd : 40 ≤ d) {H : hp} (hI : Inv H) {a b c : Int} (ha : -2147483648 ≤ a ∧ a ≤ 2147483647) (hb : -2147483648 ≤ b ∧ b ≤ 2147483647) (hc : 0 ≤ c ∧ c ≤ 1) (hp0 : -2 ≤ a ∧ a ≤ 100 ∧ 0 ≤ b ∧ b ≤ 10) (hR : RT Y q H X) (hX : rch Y c0 ((2, a, b, c) :: K, X)) : hG (zs zK) d mt_73 0 (zargs 0 [.inr (.inr 361), .inl a, .inl b, .inl c]) [] H (fun r9 H9 => ∃ z : Int, r9 = some (.inl z) ∧ ((0 ≤ z ∧ z ≤ 1)) ∧ Inv H9 ∧ fq [(361, 3), (361, 4), (361, 5), (361, 9)] [362] true H H9 ∧ ((OT Y q c0 K (PW9 a X) z H9) ∧ NL H H9)) := q_RT 10 (by omega) hI ha hb hc (by omega) hR hX
