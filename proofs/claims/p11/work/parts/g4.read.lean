/-! the class's heap and the machine that reads -/
def kco (k i a : Int) : Int := z_or (z_or (z_shl k 10) (z_shl (z_and i 127) 3)) (z_and a 7)
/-- the class's code of a sign -/
def kcd (X : rx) (s : Int) : Int := if s = 0 then 0 else if 1000 ≤ s then kco 3 (s - 1000) 0 else if 100 ≤ s then kco 2 (s - 100) (X 8 (s - 100).toNat) else kco 1 (s - 1) (X 4 (s - 1).toNat)
/-- what texts told the class -/
def TC (H : hp) (X : rx) : Prop := (H.1 8 4 = X 0 3 ∧ H.1 13 4 = X 0 4 ∧ H.1 18 4 = X 0 5 ∧ H.1 7 5 = X 0 6 ∧ H.1 7 6 = X 0 7) ∧ (∀ k : Nat, (k : Int) < X 0 3 → H.1 9 k = X 1 k) ∧ (∀ k : Nat, (k : Int) < X 0 4 → H.1 14 k = X 2 k ∧ H.1 15 k = X 3 k ∧ H.1 16 k = X 4 k ∧ ∀ a : Nat, (a : Int) < X 4 k → H.1 17 (4 * k + a) = X 5 (4 * k + a)) ∧ (∀ k : Nat, (k : Int) < X 0 5 → H.1 19 k = X 6 k ∧ H.1 20 k = X 7 k ∧ H.1 21 k = X 8 k ∧ ∀ a : Nat, (a : Int) < X 8 k → H.1 22 (4 * k + a) = X 9 (4 * k + a)) ∧ ∀ l : Nat, l < 16 → (l : Int) < X 0 7 → H.1 (265 + 6 * l) 5 = X 12 l
def ER (H : hp) : Prop := (∀ r : Nat, r < 40 → H.2 23 r = 25 + 6 * r) ∧ ∀ l : Nat, l < 16 → H.2 24 l = 265 + 6 * l
def RB (Y : yx) (q : Nat) (H : hp) (X : rx) : Prop := KC Y q H ∧ TC H X ∧ (H.1 361 3 = X 0 0 ∧ 0 ≤ X 0 0 ∧ X 0 0 ≤ q) ∧ ER H
/-- a fault was found, the machine's too -/
def FB (Y : yx) (c0 : cf) (H : hp) : Prop := ∃ (X X2 : rx) (K2 : List tq) (k p : Int), rch Y c0 ([(0, k, p, 0)], X) ∧ rch Y c0 (K2, X2) ∧ TC H X2 ∧ ER H ∧ H.1 361 4 = k ∧ H.1 361 5 = p ∧ 0 ≤ p ∧ p ≤ 1000
section RB
variable {Y : yx} {q : Nat} {H H1 : hp} {X : rx}
theorem RB_pa (h : RB Y q H X) : (0 ≤ H.1 361 3 ∧ H.1 361 3 < H.1 2 5) ∧ H.1 361 3 ≤ 1000 := by
  obtain ⟨⟨h1, -⟩, -, h2, -⟩ := h
  omega
theorem RB_xi (h : RB Y q H X) : (H.1 361 3).toNat = xi X := by
  unfold xi
  rw [h.2.2.1.1]
theorem RB_le (h : RB Y q H X) : xi X ≤ q := by
  have := h.2.2.1
  unfold xi
  omega
theorem RB_tk (h : RB Y q H X) : H.1 4 (H.1 361 3).toNat = tk Y (xi X) := by
  rw [RB_xi h]
  exact (h.1.2.1 _ (RB_le h)).1
theorem RB_ts (h : RB Y q H X) : H.1 5 (H.1 361 3).toNat = ts Y (xi X) := by
  rw [RB_xi h]
  exact (h.1.2.1 _ (RB_le h)).2.1
theorem RB_tn (h : RB Y q H X) (h1 : tk Y (xi X) ≠ 1) (h0 : tk Y (xi X) ≠ 0) : H.1 6 (H.1 361 3).toNat = tn Y (xi X) := by
  rw [RB_xi h]
  exact (h.1.2.1 _ (RB_le h)).2.2 h1 h0
/-- a token that is one: there are more -/
theorem RB_lt (h : RB Y q H X) (h1 : tk Y (xi X) ≠ 1) (h0 : tk Y (xi X) ≠ 0) : X 0 0 < q := by
  have h2 := h.2.2.1
  have h3 := h.1.2.2.2
  by_cases e : xi X = q
  · rw [← e] at h3
    exact absurd h3 (by omega)
  · unfold xi at e
    omega
theorem fndA_cg {f g : Nat → Int} {x : Int} : ∀ (m k : Nat), (∀ j, k ≤ j → j < k + m → f j = g j) → fndA f x m k = fndA g x m k
  | 0, _, _ => rfl
  | m + 1, k, h => by
    unfold fndA
    rw [h k (Nat.le_refl _) (by omega), fndA_cg m (k + 1) (fun j h1 h2 => h j (by omega) (by omega))]
theorem fnd_cg {f g : Nat → Int} {n x : Int} (h : ∀ k : Nat, (k : Int) < n → f k = g k) : fnd f n x = fnd g n x := fndA_cg _ _ (fun j _ h2 => h j (by omega))
theorem RB_tf (h : RB Y q H X) (h1 : tk Y (xi X) ≠ 1) (h0 : tk Y (xi X) ≠ 0) : fnd (H.1 9) (H.1 8 4) (H.1 6 (H.1 361 3).toNat) = tfd Y X := by
  rw [RB_tn h h1 h0, h.2.1.1.1]
  exact fnd_cg h.2.1.2.1
theorem RB_cf (h : RB Y q H X) (h1 : tk Y (xi X) ≠ 1) (h0 : tk Y (xi X) ≠ 0) : fnd (H.1 14) (H.1 13 4) (H.1 6 (H.1 361 3).toNat) = cfd Y X := by
  rw [RB_tn h h1 h0, h.2.1.1.2.1]
  exact fnd_cg (fun k hk => (h.2.1.2.2.1 k hk).1)
theorem RB_ff (h : RB Y q H X) (h1 : tk Y (xi X) ≠ 1) (h0 : tk Y (xi X) ≠ 0) : fnd (H.1 19) (H.1 18 4) (H.1 6 (H.1 361 3).toNat) = ffd Y X := by
  rw [RB_tn h h1 h0, h.2.1.1.2.2.1]
  exact fnd_cg (fun k hk => (h.2.1.2.2.2.1 k hk).1)
/-- places that the tables don't see; that reading doesn't see, but for the token's number -/
def nT (p : Nat × Nat) : Prop := (22 < p.1 ∨ p.1 < 7) ∧ ¬ (265 ≤ p.1 ∧ p.1 ≤ 355 ∧ p.1 % 6 = 1 ∧ p.2 = 5)
def nB (p : Nat × Nat) : Prop := nT p ∧ 6 < p.1
theorem fw_at {ps : List (Nat × Nat)} (f : fw ps H H1) {c j : Nat} {P : Nat × Nat → Prop} (hp : ∀ p ∈ ps, P p) (h : ¬ P (c, j)) : H1.1 c j = H.1 c j := f.2 c j (fun m => h (hp _ m))
theorem TC_fw {ps : List (Nat × Nat)} (h : TC H X) (f : fw ps H H1) (hp : ∀ p ∈ ps, nT p) : TC H1 X := by
  have g : ∀ c j, 7 ≤ c → c ≤ 22 → H1.1 c j = H.1 c j := fun c j h1 h2 => fw_at f hp (fun m => by have := m.1; simp only at this; omega)
  obtain ⟨⟨a1, a2, a3, a4, a5⟩, b1, b2, b3, b4⟩ := h
  refine ⟨⟨by rw [g _ _ (by decide) (by decide)]; exact a1, by rw [g _ _ (by decide) (by decide)]; exact a2, by rw [g _ _ (by decide) (by decide)]; exact a3, by rw [g _ _ (by decide) (by decide)]; exact a4, by rw [g _ _ (by decide) (by decide)]; exact a5⟩, fun k hk => by rw [g _ _ (by decide) (by decide)]; exact b1 k hk, fun k hk => ?_, fun k hk => ?_, fun l h16 hl => ?_⟩
  · obtain ⟨c1, c2, c3, c4⟩ := b2 k hk
    exact ⟨by rw [g _ _ (by decide) (by decide)]; exact c1, by rw [g _ _ (by decide) (by decide)]; exact c2, by rw [g _ _ (by decide) (by decide)]; exact c3, fun a ha => by rw [g _ _ (by decide) (by decide)]; exact c4 a ha⟩
  · obtain ⟨c1, c2, c3, c4⟩ := b3 k hk
    exact ⟨by rw [g _ _ (by decide) (by decide)]; exact c1, by rw [g _ _ (by decide) (by decide)]; exact c2, by rw [g _ _ (by decide) (by decide)]; exact c3, fun a ha => by rw [g _ _ (by decide) (by decide)]; exact c4 a ha⟩
  · rw [fw_at f hp (fun m => m.2 ⟨by show 265 ≤ 265 + 6 * l; omega, by show 265 + 6 * l ≤ 355; omega, by show (265 + 6 * l) % 6 = 1; omega, rfl⟩)]
    exact b4 l h16 hl
theorem ER_fw {ps : List (Nat × Nat)} (h : ER H) (f : fw ps H H1) : ER H1 := by
  unfold ER at h ⊢
  rw [f.1]
  exact h
theorem KC_fw {ps : List (Nat × Nat)} (h : KC Y q H) (f : fw ps H H1) (hp : ∀ p ∈ ps, 6 < p.1) : KC Y q H1 := by
  have g : ∀ c j, c ≤ 6 → H1.1 c j = H.1 c j := fun c j h1 => fw_at f hp (fun m => by simp only at m; omega)
  obtain ⟨⟨a1, a2⟩, b, c⟩ := h
  refine ⟨⟨by rw [g _ _ (by decide)]; exact a1, a2⟩, fun i hi => ?_, c⟩
  rw [g _ _ (by decide), g _ _ (by decide), g _ _ (by decide)]
  exact b i hi
/-- the token's number is another -/
theorem RB_adv {ps : List (Nat × Nat)} (h : RB Y q H X) (f : fw ps H H1) (hp : ∀ p ∈ ps, nB p) (ha : H1.1 361 3 = H.1 361 3 + 1) (hl : X 0 0 < q) : RB Y q H1 (adv X) := by
  have h0 := h.2.2.1
  have e : ∀ c, c ≠ 0 → adv X c = X c := fun c hc => xu_ne _ _ _ hc
  have e0 : ∀ j, j ≠ 0 → adv X 0 j = X 0 j := fun j hj => by
    unfold adv
    rw [xu_eq, up_ne _ _ hj]
  have e1 : adv X 0 0 = X 0 0 + 1 := by
    unfold adv
    rw [xu_eq, up_eq]
  refine ⟨KC_fw h.1 f (fun p m => (hp p m).2), ?_, ?_, ER_fw h.2.2.2 f⟩
  · have t := TC_fw h.2.1 f (fun p m => (hp p m).1)
    unfold TC at t ⊢
    rw [e0 3 (by decide), e0 4 (by decide), e0 5 (by decide), e0 6 (by decide), e0 7 (by decide), e 1 (by decide), e 2 (by decide), e 3 (by decide), e 4 (by decide), e 5 (by decide), e 6 (by decide), e 7 (by decide), e 8 (by decide), e 9 (by decide), e 12 (by decide)]
    exact t
  · rw [e1]
    omega
theorem RB_fw {ps : List (Nat × Nat)} (h : RB Y q H X) (f : fw ps H H1) (hp : ∀ p ∈ ps, nB p) (ha : H1.1 361 3 = H.1 361 3) : RB Y q H1 X := ⟨KC_fw h.1 f (fun p m => (hp p m).2), TC_fw h.2.1 f (fun p m => (hp p m).1), by rw [ha]; exact h.2.2.1, ER_fw h.2.2.2 f⟩
theorem RB_tb (h : RB Y q H X) : 0 ≤ ts Y (xi X) ∧ ts Y (xi X) ≤ 1000 := by
  have h1 := tS_le (b := Y.1) (n := Y.2) (xi X)
  have h2 := h.1.1.2.2
  unfold ts
  omega
/-- a fault is told -/
theorem FB_mk {c0 : cf} {ps : List (Nat × Nat)} {k : Int} (h : RB Y q H X) (f : fw ps H H1) (hp : ∀ p ∈ ps, nT p) (hx : rch Y c0 (fl Y X k)) (hk : H1.1 361 4 = k) (hs : H1.1 361 5 = H.1 5 (H.1 361 3).toNat) : FB Y c0 H1 := ⟨X, X, _, k, ts Y (xi X), hx, hx, TC_fw h.2.1 f hp, ER_fw h.2.2.2 f, hk, hs.trans (RB_ts h), RB_tb h⟩
end RB
