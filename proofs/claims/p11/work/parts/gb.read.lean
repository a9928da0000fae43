/-! the class's reader: what texts tell, as the machine reads it -/
theorem fw_7 {ps : List (Nat × Nat)} {H H1 : hp} (f : fw ps H H1) {c j : Nat} (h : ∀ p ∈ ps, p.1 ≠ c) : H1.1 c j = H.1 c j := f.2 c j (fun m => h _ m rfl)
/-- the rest of the tables, where one sort's row has changed -/
theorem KE_fw {Y : yx} {q : Nat} {H H1 : hp} {X X1 : rx} {ps : List (Nat × Nat)} (h : RB Y q H X) (f : fw ps H H1) (hp : ∀ p ∈ ps, 6 < p.1) (ha : H1.1 361 3 = H.1 361 3 + 1) (hl : X 0 0 < q) (e : X1 0 0 = X 0 0 + 1) (t : TC H1 X1) : RB Y q H1 X1 := ⟨KC_fw h.1 f hp, t, by have := h.2.2.1; omega, ER_fw h.2.2.2 f⟩

theorem xtyp_r (X : rx) (x : Int) {c : Nat} (h0 : c ≠ 0) (h1 : c ≠ 1) : xtyp X x c = X c := by
  unfold xtyp adv
  simp only [xu_ne _ _ _ h0, xu_ne _ _ _ h1]
theorem xtyp_0 (X : rx) (x : Int) {j : Nat} (h0 : j ≠ 0) (h1 : j ≠ 3) : xtyp X x 0 j = X 0 j := by
  unfold xtyp adv
  rw [xu_0 _ _ (fun q => h0 q.2), xu_0 _ _ (fun q => h1 q.2), xu_0 _ _ (fun q => by cases q.1)]
theorem xcon_r (X : rx) (x ty : Int) {c : Nat} (h0 : c ≠ 0) (h2 : c ≠ 2) (h3 : c ≠ 3) (h4 : c ≠ 4) : xcon X x ty c = X c := by
  unfold xcon adv
  simp only [xu_ne _ _ _ h0, xu_ne _ _ _ h2, xu_ne _ _ _ h3, xu_ne _ _ _ h4]
theorem xcon_0 (X : rx) (x ty : Int) {j : Nat} (h0 : j ≠ 0) (h1 : j ≠ 4) : xcon X x ty 0 j = X 0 j := by
  unfold xcon adv
  rw [xu_0 _ _ (fun q => h0 q.2), xu_0 _ _ (fun q => h1 q.2), xu_0 _ _ (fun q => by cases q.1), xu_0 _ _ (fun q => by cases q.1), xu_0 _ _ (fun q => by cases q.1)]
theorem xfun_r (X : rx) (x : Int) {c : Nat} (h0 : c ≠ 0) (h6 : c ≠ 6) (h7 : c ≠ 7) (h8 : c ≠ 8) : xfun X x c = X c := by
  unfold xfun adv
  simp only [xu_ne _ _ _ h0, xu_ne _ _ _ h6, xu_ne _ _ _ h7, xu_ne _ _ _ h8]
theorem xfun_0 (X : rx) (x : Int) {j : Nat} (h0 : j ≠ 0) (h1 : j ≠ 5) : xfun X x 0 j = X 0 j := by
  unfold xfun adv
  rw [xu_0 _ _ (fun q => h0 q.2), xu_0 _ _ (fun q => h1 q.2), xu_0 _ _ (fun q => by cases q.1), xu_0 _ _ (fun q => by cases q.1), xu_0 _ _ (fun q => by cases q.1)]
theorem xcar_r (X : rx) (c9 ty : Int) {c : Nat} (h0 : c ≠ 0) (h5 : c ≠ 5) (h4 : c ≠ 4) : xcar X c9 ty c = X c := by
  unfold xcar adv
  simp only [xu_ne _ _ _ h0, xu_ne _ _ _ h5, xu_ne _ _ _ h4]
theorem xcar_0 (X : rx) (c9 ty : Int) {j : Nat} (h0 : j ≠ 0) : xcar X c9 ty 0 j = X 0 j := by
  unfold xcar adv
  rw [xu_0 _ _ (fun q => h0 q.2), xu_0 _ _ (fun q => by cases q.1), xu_0 _ _ (fun q => by cases q.1)]
theorem xfar_r (X : rx) (f9 : Int) {c : Nat} (h0 : c ≠ 0) (h9 : c ≠ 9) (h8 : c ≠ 8) : xfar X f9 c = X c := by
  unfold xfar adv
  simp only [xu_ne _ _ _ h0, xu_ne _ _ _ h9, xu_ne _ _ _ h8]
theorem xfar_0 (X : rx) (f9 : Int) {j : Nat} (h0 : j ≠ 0) : xfar X f9 0 j = X 0 j := by
  unfold xfar adv
  rw [xu_0 _ _ (fun q => h0 q.2), xu_0 _ _ (fun q => by cases q.1), xu_0 _ _ (fun q => by cases q.1)]
theorem xtyp_s (X : rx) (x : Int) : xtyp X x 0 0 = X 0 0 + 1 ∧ xtyp X x 0 3 = X 0 3 + 1 ∧ xtyp X x 1 = up (X 1) (X 0 3).toNat x := by
  unfold xtyp adv
  refine ⟨?_, ?_, ?_⟩
  · rw [xu_1, xu_0 _ _ (fun q => by cases q.2), xu_0 _ _ (fun q => by cases q.1)]
  · rw [xu_0 _ _ (fun q => by cases q.2), xu_1]
  · rw [xu_ne _ _ _ (by decide), xu_ne _ _ _ (by decide), xu_eq]
theorem xcon_s (X : rx) (x ty : Int) : xcon X x ty 0 0 = X 0 0 + 1 ∧ xcon X x ty 0 4 = X 0 4 + 1 ∧ xcon X x ty 2 = up (X 2) (X 0 4).toNat x ∧ xcon X x ty 3 = up (X 3) (X 0 4).toNat ty ∧ xcon X x ty 4 = up (X 4) (X 0 4).toNat 0 := by
  unfold xcon adv
  refine ⟨?_, ?_, ?_, ?_, ?_⟩
  · rw [xu_1, xu_0 _ _ (fun q => by cases q.2), xu_0 _ _ (fun q => by cases q.1), xu_0 _ _ (fun q => by cases q.1), xu_0 _ _ (fun q => by cases q.1)]
  · rw [xu_0 _ _ (fun q => by cases q.2), xu_1]
  · rw [xu_ne _ _ _ (by decide), xu_ne _ _ _ (by decide), xu_ne _ _ _ (by decide), xu_ne _ _ _ (by decide), xu_eq]
  · rw [xu_ne _ _ _ (by decide), xu_ne _ _ _ (by decide), xu_ne _ _ _ (by decide), xu_eq, xu_ne _ _ _ (by decide)]
  · rw [xu_ne _ _ _ (by decide), xu_ne _ _ _ (by decide), xu_eq, xu_ne _ _ _ (by decide), xu_ne _ _ _ (by decide)]
theorem xfun_s (X : rx) (x : Int) : xfun X x 0 0 = X 0 0 + 1 ∧ xfun X x 0 5 = X 0 5 + 1 ∧ xfun X x 6 = up (X 6) (X 0 5).toNat x ∧ xfun X x 7 = up (X 7) (X 0 5).toNat (-1) ∧ xfun X x 8 = up (X 8) (X 0 5).toNat 0 := by
  unfold xfun adv
  refine ⟨?_, ?_, ?_, ?_, ?_⟩
  · rw [xu_1, xu_0 _ _ (fun q => by cases q.2), xu_0 _ _ (fun q => by cases q.1), xu_0 _ _ (fun q => by cases q.1), xu_0 _ _ (fun q => by cases q.1)]
  · rw [xu_0 _ _ (fun q => by cases q.2), xu_1]
  · rw [xu_ne _ _ _ (by decide), xu_ne _ _ _ (by decide), xu_ne _ _ _ (by decide), xu_ne _ _ _ (by decide), xu_eq]
  · rw [xu_ne _ _ _ (by decide), xu_ne _ _ _ (by decide), xu_ne _ _ _ (by decide), xu_eq, xu_ne _ _ _ (by decide)]
  · rw [xu_ne _ _ _ (by decide), xu_ne _ _ _ (by decide), xu_eq, xu_ne _ _ _ (by decide), xu_ne _ _ _ (by decide)]
theorem xcar_s (X : rx) (c9 ty : Int) : xcar X c9 ty 0 0 = X 0 0 + 1 ∧ xcar X c9 ty 5 = up (X 5) (4 * c9 + X 4 c9.toNat).toNat ty ∧ xcar X c9 ty 4 = up (X 4) c9.toNat (X 4 c9.toNat + 1) := by
  unfold xcar adv
  refine ⟨?_, ?_, ?_⟩
  · rw [xu_1, xu_0 _ _ (fun q => by cases q.1), xu_0 _ _ (fun q => by cases q.1)]
  · rw [xu_ne _ _ _ (by decide), xu_ne _ _ _ (by decide), xu_eq]
  · rw [xu_ne _ _ _ (by decide), xu_eq, xu_ne _ _ _ (by decide)]
theorem xfar_s (X : rx) (f9 : Int) : xfar X f9 0 0 = X 0 0 + 1 ∧ xfar X f9 9 = up (X 9) (4 * f9 + X 8 f9.toNat).toNat (X 7 f9.toNat) ∧ xfar X f9 8 = up (X 8) f9.toNat (X 8 f9.toNat + 1) := by
  unfold xfar adv
  refine ⟨?_, ?_, ?_⟩
  · rw [xu_1, xu_0 _ _ (fun q => by cases q.1), xu_0 _ _ (fun q => by cases q.1)]
  · rw [xu_ne _ _ _ (by decide), xu_ne _ _ _ (by decide), xu_eq]
  · rw [xu_ne _ _ _ (by decide), xu_eq, xu_ne _ _ _ (by decide)]

def T1 (H : hp) (X : rx) : Prop := H.1 8 4 = X 0 3 ∧ ∀ k : Nat, (k : Int) < X 0 3 → H.1 9 k = X 1 k
def T2 (H : hp) (X : rx) : Prop := H.1 13 4 = X 0 4 ∧ ∀ k : Nat, (k : Int) < X 0 4 → H.1 14 k = X 2 k ∧ H.1 15 k = X 3 k ∧ H.1 16 k = X 4 k ∧ ∀ a : Nat, (a : Int) < X 4 k → H.1 17 (4 * k + a) = X 5 (4 * k + a)
def T3 (H : hp) (X : rx) : Prop := H.1 18 4 = X 0 5 ∧ ∀ k : Nat, (k : Int) < X 0 5 → H.1 19 k = X 6 k ∧ H.1 20 k = X 7 k ∧ H.1 21 k = X 8 k ∧ ∀ a : Nat, (a : Int) < X 8 k → H.1 22 (4 * k + a) = X 9 (4 * k + a)
def T4 (H : hp) (X : rx) : Prop := (H.1 7 5 = X 0 6 ∧ H.1 7 6 = X 0 7) ∧ ∀ l : Nat, l < 16 → (l : Int) < X 0 7 → H.1 (265 + 6 * l) 5 = X 12 l
theorem TC_in {H : hp} {X : rx} (h1 : T1 H X) (h2 : T2 H X) (h3 : T3 H X) (h4 : T4 H X) : TC H X := ⟨⟨h1.1, h2.1, h3.1, h4.1.1, h4.1.2⟩, h1.2, h2.2, h3.2, h4.2⟩
theorem TC_1 {H : hp} {X : rx} (h : TC H X) : T1 H X := ⟨h.1.1, h.2.1⟩
theorem TC_2 {H : hp} {X : rx} (h : TC H X) : T2 H X := ⟨h.1.2.1, h.2.2.1⟩
theorem TC_3 {H : hp} {X : rx} (h : TC H X) : T3 H X := ⟨h.1.2.2.1, h.2.2.2.1⟩
theorem TC_4 {H : hp} {X : rx} (h : TC H X) : T4 H X := ⟨h.1.2.2.2, h.2.2.2.2⟩
section TQ
variable {H H1 : hp} {X X1 : rx} {ps : List (Nat × Nat)}
theorem T1_fw (h : T1 H X) (f : fw ps H H1) (hp : ∀ p ∈ ps, p.1 ≠ 8 ∧ p.1 ≠ 9) (e0 : X1 0 3 = X 0 3) (e1 : X1 1 = X 1) : T1 H1 X1 := by
  unfold T1 at h ⊢
  rw [e0, e1, fw_7 f (fun p m => (hp p m).1)]
  refine ⟨h.1, fun k hk => ?_⟩
  rw [fw_7 f (fun p m => (hp p m).2)]
  exact h.2 k hk
theorem T2_fw (h : T2 H X) (f : fw ps H H1) (hp : ∀ p ∈ ps, ¬ (13 ≤ p.1 ∧ p.1 ≤ 17)) (e0 : X1 0 4 = X 0 4) (e2 : X1 2 = X 2) (e3 : X1 3 = X 3) (e4 : X1 4 = X 4) (e5 : X1 5 = X 5) : T2 H1 X1 := by
  have g : ∀ c j, 13 ≤ c → c ≤ 17 → H1.1 c j = H.1 c j := fun c j h1 h2 => fw_7 f (fun p m => by have := hp p m; omega)
  unfold T2 at h ⊢
  rw [e0, e2, e3, e4, e5, g _ _ (by decide) (by decide)]
  refine ⟨h.1, fun k hk => ?_⟩
  rw [g _ _ (by decide) (by decide), g _ _ (by decide) (by decide), g _ _ (by decide) (by decide)]
  obtain ⟨h1, h2, h3, h4⟩ := h.2 k hk
  exact ⟨h1, h2, h3, fun a ha => by rw [g _ _ (by decide) (by decide)]; exact h4 a ha⟩
theorem T3_fw (h : T3 H X) (f : fw ps H H1) (hp : ∀ p ∈ ps, ¬ (18 ≤ p.1 ∧ p.1 ≤ 22)) (e0 : X1 0 5 = X 0 5) (e2 : X1 6 = X 6) (e3 : X1 7 = X 7) (e4 : X1 8 = X 8) (e5 : X1 9 = X 9) : T3 H1 X1 := by
  have g : ∀ c j, 18 ≤ c → c ≤ 22 → H1.1 c j = H.1 c j := fun c j h1 h2 => fw_7 f (fun p m => by have := hp p m; omega)
  unfold T3 at h ⊢
  rw [e0, e2, e3, e4, e5, g _ _ (by decide) (by decide)]
  refine ⟨h.1, fun k hk => ?_⟩
  rw [g _ _ (by decide) (by decide), g _ _ (by decide) (by decide), g _ _ (by decide) (by decide)]
  obtain ⟨h1, h2, h3, h4⟩ := h.2 k hk
  exact ⟨h1, h2, h3, fun a ha => by rw [g _ _ (by decide) (by decide)]; exact h4 a ha⟩
theorem T4_fw (h : T4 H X) (f : fw ps H H1) (hp : ∀ p ∈ ps, p.1 ≠ 7 ∧ ¬ (265 ≤ p.1 ∧ p.1 ≤ 355 ∧ p.1 % 6 = 1 ∧ p.2 = 5)) (e6 : X1 0 6 = X 0 6) (e7 : X1 0 7 = X 0 7) (e1 : X1 12 = X 12) : T4 H1 X1 := by
  unfold T4 at h ⊢
  rw [e6, e7, e1, fw_7 f (fun p m => (hp p m).1), fw_7 f (fun p m => (hp p m).1)]
  refine ⟨h.1, fun l l1 hl => ?_⟩
  rw [f.2 _ _ (fun m => (hp _ m).2 ⟨by show 265 ≤ 265 + 6 * l; omega, by show 265 + 6 * l ≤ 355; omega, by show (265 + 6 * l) % 6 = 1; omega, rfl⟩)]
  exact h.2 l l1 hl
end TQ
theorem ps_all {P : Nat × Nat → Prop} {ps : List (Nat × Nat)} (h : ∀ p ∈ ps, P p) : ∀ p ∈ ps, P p := h
theorem RB_typ {Y : yx} {q : Nat} {H H1 : hp} {X : rx} {x : Int} (h : RB Y q H X) (f : fw [(9, (H.1 8 4).toNat), (10, (H.1 8 4).toNat), (11, (H.1 8 4).toNat), (8, 4), (361, 3), (361, 4), (361, 5)] H H1) (v1 : H1.1 9 (H.1 8 4).toNat = x) (v4 : H1.1 8 4 = H.1 8 4 + 1) (v5 : H1.1 361 3 = H.1 361 3 + 1) (h0 : 0 ≤ H.1 8 4) (hl : X 0 0 < q) : RB Y q H1 (xtyp X x) := by
  obtain ⟨x1, x2, x3⟩ := xtyp_s X x
  have hc := h.2.1.1.1
  refine KE_fw h f (by simp) v5 hl x1 (TC_in ⟨by omega, fun k hk => ?_⟩ (T2_fw (TC_2 h.2.1) f (by simp) (xtyp_0 X x (by decide) (by decide)) (xtyp_r X x (by decide) (by decide)) (xtyp_r X x (by decide) (by decide)) (xtyp_r X x (by decide) (by decide)) (xtyp_r X x (by decide) (by decide))) (T3_fw (TC_3 h.2.1) f (by simp) (xtyp_0 X x (by decide) (by decide)) (xtyp_r X x (by decide) (by decide)) (xtyp_r X x (by decide) (by decide)) (xtyp_r X x (by decide) (by decide)) (xtyp_r X x (by decide) (by decide))) (T4_fw (TC_4 h.2.1) f (by simp) (xtyp_0 X x (by decide) (by decide)) (xtyp_0 X x (by decide) (by decide)) (xtyp_r X x (by decide) (by decide))))
  rw [x2] at hk
  rw [x3]
  by_cases e : k = (X 0 3).toNat
  · rw [e, up_eq, ← hc, v1]
  · rw [up_ne _ _ e, f.2 9 k (by simp; omega)]
    exact h.2.1.2.1 k (by omega)
theorem RB_con {Y : yx} {q : Nat} {H H1 : hp} {X : rx} {x ty : Int} (h : RB Y q H X) (f : fw [(14, (H.1 13 4).toNat), (15, (H.1 13 4).toNat), (16, (H.1 13 4).toNat), (13, 4), (361, 3), (361, 4), (361, 5)] H H1) (v1 : H1.1 14 (H.1 13 4).toNat = x) (v2 : H1.1 15 (H.1 13 4).toNat = ty) (v3 : H1.1 16 (H.1 13 4).toNat = 0) (v4 : H1.1 13 4 = H.1 13 4 + 1) (v5 : H1.1 361 3 = H.1 361 3 + 1) (h0 : 0 ≤ H.1 13 4) (hl : X 0 0 < q) : RB Y q H1 (xcon X x ty) := by
  obtain ⟨x1, x2, x3, x4, x5⟩ := xcon_s X x ty
  have hc := h.2.1.1.2.1
  refine KE_fw h f (by simp) v5 hl x1 (TC_in (T1_fw (TC_1 h.2.1) f (by simp) (xcon_0 X x ty (by decide) (by decide)) (xcon_r X x ty (by decide) (by decide) (by decide) (by decide))) ⟨by omega, fun k hk => ?_⟩ (T3_fw (TC_3 h.2.1) f (by simp) (xcon_0 X x ty (by decide) (by decide)) (xcon_r X x ty (by decide) (by decide) (by decide) (by decide)) (xcon_r X x ty (by decide) (by decide) (by decide) (by decide)) (xcon_r X x ty (by decide) (by decide) (by decide) (by decide)) (xcon_r X x ty (by decide) (by decide) (by decide) (by decide))) (T4_fw (TC_4 h.2.1) f (by simp) (xcon_0 X x ty (by decide) (by decide)) (xcon_0 X x ty (by decide) (by decide)) (xcon_r X x ty (by decide) (by decide) (by decide) (by decide))))
  rw [x2] at hk
  rw [x3, x4, x5, xcon_r X x ty (c := 5) (by decide) (by decide) (by decide) (by decide)]
  by_cases e : k = (X 0 4).toNat
  · rw [e, up_eq, up_eq, up_eq, ← hc, v1, v2, v3]
    exact ⟨rfl, rfl, rfl, fun a ha => absurd ha (by omega)⟩
  · rw [up_ne _ _ e, up_ne _ _ e, up_ne _ _ e, f.2 14 k (by simp; omega), f.2 15 k (by simp; omega), f.2 16 k (by simp; omega)]
    obtain ⟨g1, g2, g3, g4⟩ := h.2.1.2.2.1 k (by omega)
    exact ⟨g1, g2, g3, fun a ha => by rw [f.2 17 _ (by simp)]; exact g4 a ha⟩

theorem RB_fun {Y : yx} {q : Nat} {H H1 : hp} {X : rx} {x : Int} (h : RB Y q H X) (f : fw [(19, (H.1 18 4).toNat), (20, (H.1 18 4).toNat), (21, (H.1 18 4).toNat), (18, 4), (361, 3), (361, 4), (361, 5)] H H1) (v1 : H1.1 19 (H.1 18 4).toNat = x) (v2 : H1.1 20 (H.1 18 4).toNat = -1) (v3 : H1.1 21 (H.1 18 4).toNat = 0) (v4 : H1.1 18 4 = H.1 18 4 + 1) (v5 : H1.1 361 3 = H.1 361 3 + 1) (h0 : 0 ≤ H.1 18 4) (hl : X 0 0 < q) : RB Y q H1 (xfun X x) := by
  obtain ⟨x1, x2, x3, x4, x5⟩ := xfun_s X x
  have hc := h.2.1.1.2.2.1
  have er : ∀ c, c ≠ 0 → c ≠ 6 → c ≠ 7 → c ≠ 8 → xfun X x c = X c := fun c a b d e => xfun_r X x a b d e
  have e0 : ∀ j, j ≠ 0 → j ≠ 5 → xfun X x 0 j = X 0 j := fun j a b => xfun_0 X x a b
  refine KE_fw h f (by simp) v5 hl x1 (TC_in (T1_fw (TC_1 h.2.1) f (by simp) (e0 _ (by decide) (by decide)) (er _ (by decide) (by decide) (by decide) (by decide))) (T2_fw (TC_2 h.2.1) f (by simp) (e0 _ (by decide) (by decide)) (er _ (by decide) (by decide) (by decide) (by decide)) (er _ (by decide) (by decide) (by decide) (by decide)) (er _ (by decide) (by decide) (by decide) (by decide)) (er _ (by decide) (by decide) (by decide) (by decide))) ⟨by omega, fun k hk => ?_⟩ (T4_fw (TC_4 h.2.1) f (by simp) (e0 _ (by decide) (by decide)) (e0 _ (by decide) (by decide)) (er _ (by decide) (by decide) (by decide) (by decide))))
  rw [x2] at hk
  rw [x3, x4, x5, er 9 (by decide) (by decide) (by decide) (by decide)]
  by_cases e : k = (X 0 5).toNat
  · rw [e, up_eq, up_eq, up_eq, ← hc, v1, v2, v3]
    exact ⟨rfl, rfl, rfl, fun a ha => absurd ha (by omega)⟩
  · rw [up_ne _ _ e, up_ne _ _ e, up_ne _ _ e, f.2 19 k (by simp; omega), f.2 20 k (by simp; omega), f.2 21 k (by simp; omega)]
    obtain ⟨g1, g2, g3, g4⟩ := h.2.1.2.2.2.1 k (by omega)
    exact ⟨g1, g2, g3, fun a ha => by rw [f.2 22 _ (by simp)]; exact g4 a ha⟩
/-- the newest constructor has one argument more -/
theorem RB_car {Y : yx} {q : Nat} {H H1 : hp} {X : rx} {c9 ty : Int} {ps : List (Nat × Nat)} (h : RB Y q H X) (hc9 : c9 = H.1 13 4 - 1) (h0 : 0 ≤ c9) (ha9 : 0 ≤ X 4 c9.toNat ∧ X 4 c9.toNat ≤ 3) (hps : ps = [(17, (4 * c9 + X 4 c9.toNat).toNat), (16, c9.toNat), (361, 3)]) (f : fw ps H H1) (v1 : H1.1 17 (4 * c9 + X 4 c9.toNat).toNat = ty) (v2 : H1.1 16 c9.toNat = X 4 c9.toNat + 1) (v5 : H1.1 361 3 = H.1 361 3 + 1) (hl : X 0 0 < q) (hb : ∀ k : Nat, (k : Int) < X 0 4 → X 4 k ≤ 3) : RB Y q H1 (xcar X c9 ty) := by
  subst hps
  obtain ⟨x1, x2, x3⟩ := xcar_s X c9 ty
  have hc := h.2.1.1.2.1
  have er : ∀ c, c ≠ 0 → c ≠ 5 → c ≠ 4 → xcar X c9 ty c = X c := fun c a b d => xcar_r X c9 ty a b d
  have e0 : ∀ j, j ≠ 0 → xcar X c9 ty 0 j = X 0 j := fun j a => xcar_0 X c9 ty a
  refine KE_fw h f (by simp) v5 hl x1 (TC_in (T1_fw (TC_1 h.2.1) f (by simp) (e0 _ (by decide)) (er _ (by decide) (by decide) (by decide))) ⟨by rw [e0 4 (by decide), f.2 13 4 (by simp)]; exact hc, fun k hk => ?_⟩ (T3_fw (TC_3 h.2.1) f (by simp) (e0 _ (by decide)) (er _ (by decide) (by decide) (by decide)) (er _ (by decide) (by decide) (by decide)) (er _ (by decide) (by decide) (by decide)) (er _ (by decide) (by decide) (by decide))) (T4_fw (TC_4 h.2.1) f (by simp) (e0 _ (by decide)) (e0 _ (by decide)) (er _ (by decide) (by decide) (by decide))))
  rw [e0 4 (by decide)] at hk
  obtain ⟨g1, g2, g3, g4⟩ := h.2.1.2.2.1 k hk
  have hbk := hb k hk
  rw [x2, x3, er 2 (by decide) (by decide) (by decide), er 3 (by decide) (by decide) (by decide), f.2 14 k (by simp), f.2 15 k (by simp)]
  refine ⟨g1, g2, ?_⟩
  by_cases e : k = c9.toNat
  · subst e
    rw [up_eq, v2]
    refine ⟨rfl, fun a ha => ?_⟩
    by_cases ea : (a : Int) = X 4 c9.toNat
    · rw [show 4 * c9.toNat + a = (4 * c9 + X 4 c9.toNat).toNat by omega, up_eq, v1]
    · rw [up_ne _ _ (by omega), f.2 17 _ (by simp; omega)]
      exact g4 a (by omega)
  · rw [up_ne _ _ e, f.2 16 k (by simp; omega)]
    refine ⟨g3, fun a ha => ?_⟩
    rw [up_ne _ _ (by omega), f.2 17 _ (by simp; omega)]
    exact g4 a ha
theorem RB_far {Y : yx} {q : Nat} {H H1 : hp} {X : rx} {f9 : Int} {ps : List (Nat × Nat)} (h : RB Y q H X) (hc9 : f9 = H.1 18 4 - 1) (h0 : 0 ≤ f9) (ha9 : 0 ≤ X 8 f9.toNat ∧ X 8 f9.toNat ≤ 3) (hps : ps = [(22, (4 * f9 + X 8 f9.toNat).toNat), (21, f9.toNat), (361, 3)]) (f : fw ps H H1) (v1 : H1.1 22 (4 * f9 + X 8 f9.toNat).toNat = X 7 f9.toNat) (v2 : H1.1 21 f9.toNat = X 8 f9.toNat + 1) (v5 : H1.1 361 3 = H.1 361 3 + 1) (hl : X 0 0 < q) (hb : ∀ k : Nat, (k : Int) < X 0 5 → X 8 k ≤ 4) : RB Y q H1 (xfar X f9) := by
  subst hps
  obtain ⟨x1, x2, x3⟩ := xfar_s X f9
  have hc := h.2.1.1.2.2.1
  have er : ∀ c, c ≠ 0 → c ≠ 9 → c ≠ 8 → xfar X f9 c = X c := fun c a b d => xfar_r X f9 a b d
  have e0 : ∀ j, j ≠ 0 → xfar X f9 0 j = X 0 j := fun j a => xfar_0 X f9 a
  refine KE_fw h f (by simp) v5 hl x1 (TC_in (T1_fw (TC_1 h.2.1) f (by simp) (e0 _ (by decide)) (er _ (by decide) (by decide) (by decide))) (T2_fw (TC_2 h.2.1) f (by simp) (e0 _ (by decide)) (er _ (by decide) (by decide) (by decide)) (er _ (by decide) (by decide) (by decide)) (er _ (by decide) (by decide) (by decide)) (er _ (by decide) (by decide) (by decide))) ⟨by rw [e0 5 (by decide), f.2 18 4 (by simp)]; exact hc, fun k hk => ?_⟩ (T4_fw (TC_4 h.2.1) f (by simp) (e0 _ (by decide)) (e0 _ (by decide)) (er _ (by decide) (by decide) (by decide))))
  rw [e0 5 (by decide)] at hk
  obtain ⟨g1, g2, g3, g4⟩ := h.2.1.2.2.2.1 k hk
  have hbk := hb k hk
  rw [x2, x3, er 6 (by decide) (by decide) (by decide), er 7 (by decide) (by decide) (by decide), f.2 19 k (by simp), f.2 20 k (by simp)]
  refine ⟨g1, g2, ?_⟩
  by_cases e : k = f9.toNat
  · subst e
    rw [up_eq, v2]
    refine ⟨rfl, fun a ha => ?_⟩
    by_cases ea : (a : Int) = X 8 f9.toNat
    · rw [show 4 * f9.toNat + a = (4 * f9 + X 8 f9.toNat).toNat by omega, up_eq, v1]
    · rw [up_ne _ _ (by omega), f.2 22 _ (by simp; omega)]
      exact g4 a (by omega)
  · rw [up_ne _ _ e, f.2 21 k (by simp; omega)]
    refine ⟨g3, fun a ha => ?_⟩
    rw [up_ne _ _ (by omega), f.2 22 _ (by simp; omega)]
    exact g4 a ha
/-- a function's type is told -/
theorem RB_res {Y : yx} {q : Nat} {H H1 : hp} {X : rx} {f9 ty : Int} (h : RB Y q H X) (f : fw [(20, f9.toNat), (361, 3), (361, 4), (361, 5)] H H1) (v1 : H1.1 20 f9.toNat = ty) (v5 : H1.1 361 3 = H.1 361 3 + 1) (hl : X 0 0 < q) : RB Y q H1 (adv (xu X 7 f9.toNat ty)) := by
  have er : ∀ c, c ≠ 0 → c ≠ 7 → adv (xu X 7 f9.toNat ty) c = X c := fun c a b => (xu_ne _ _ _ a).trans (xu_ne _ _ _ b)
  have e7 : adv (xu X 7 f9.toNat ty) 7 = up (X 7) f9.toNat ty := (xu_ne _ _ _ (by decide)).trans (xu_eq _ _ _ _)
  have e0 : ∀ j, j ≠ 0 → adv (xu X 7 f9.toNat ty) 0 j = X 0 j := fun j a => (xu_0 _ _ (fun q => a q.2)).trans (xu_0 _ _ (fun q => by cases q.1))
  have e00 : adv (xu X 7 f9.toNat ty) 0 0 = X 0 0 + 1 := (xu_1 _ _ _ _).trans (by rw [xu_0 _ _ (fun q => by cases q.1)])
  have hc := h.2.1.1.2.2.1
  refine KE_fw h f (by simp) v5 hl e00 (TC_in (T1_fw (TC_1 h.2.1) f (by simp) (e0 _ (by decide)) (er _ (by decide) (by decide))) (T2_fw (TC_2 h.2.1) f (by simp) (e0 _ (by decide)) (er _ (by decide) (by decide)) (er _ (by decide) (by decide)) (er _ (by decide) (by decide)) (er _ (by decide) (by decide))) ⟨by rw [e0 5 (by decide), f.2 18 4 (by simp)]; exact hc, fun k hk => ?_⟩ (T4_fw (TC_4 h.2.1) f (by simp) (e0 _ (by decide)) (e0 _ (by decide)) (er _ (by decide) (by decide))))
  rw [e0 5 (by decide)] at hk
  obtain ⟨g1, g2, g3, g4⟩ := h.2.1.2.2.2.1 k hk
  rw [e7, er 6 (by decide) (by decide), er 8 (by decide) (by decide), er 9 (by decide) (by decide), f.2 19 k (by simp), f.2 21 k (by simp)]
  refine ⟨g1, ?_, g3, fun a ha => by rw [f.2 22 _ (by simp)]; exact g4 a ha⟩
  by_cases e : k = f9.toNat
  · rw [e, up_eq, v1]
  · rw [up_ne _ _ e, f.2 20 k (by simp; omega)]
    exact g2

theorem RB_car2 {Y : yx} {q : Nat} {H H1 : hp} {X : rx} {ty : Int} (h : RB Y q H X) (h1 : 1 ≤ H.1 13 4) (ha : 0 ≤ H.1 16 (H.1 13 4 - 1).toNat ∧ H.1 16 (H.1 13 4 - 1).toNat ≤ 3) (f : fw [(17, (4 * (H.1 13 4 - 1) + H.1 16 (H.1 13 4 - 1).toNat).toNat), (16, (H.1 13 4 - 1).toNat), (361, 3)] H H1) (v1 : H1.1 17 (4 * (H.1 13 4 - 1) + H.1 16 (H.1 13 4 - 1).toNat).toNat = ty) (v2 : H1.1 16 (H.1 13 4 - 1).toNat = H.1 16 (H.1 13 4 - 1).toNat + 1) (v5 : H1.1 361 3 = H.1 361 3 + 1) (hl : X 0 0 < q) (hb : ∀ k : Nat, (k : Int) < X 0 4 → X 4 k ≤ 3) : RB Y q H1 (xcar X (H.1 13 4 - 1) ty) := by
  have e := (h.2.1.2.2.1 (H.1 13 4 - 1).toNat (by have := h.2.1.1.2.1; omega)).2.2.1
  rw [e] at f v1 v2 ha
  exact RB_car h rfl (by omega) ha rfl f v1 v2 v5 hl hb
theorem RB_far2 {Y : yx} {q : Nat} {H H1 : hp} {X : rx} (h : RB Y q H X) (h1 : 1 ≤ H.1 18 4) (ha : 0 ≤ H.1 21 (H.1 18 4 - 1).toNat ∧ H.1 21 (H.1 18 4 - 1).toNat ≤ 3) (f : fw [(22, (4 * (H.1 18 4 - 1) + H.1 21 (H.1 18 4 - 1).toNat).toNat), (21, (H.1 18 4 - 1).toNat), (361, 3)] H H1) (v1 : H1.1 22 (4 * (H.1 18 4 - 1) + H.1 21 (H.1 18 4 - 1).toNat).toNat = H.1 20 (H.1 18 4 - 1).toNat) (v2 : H1.1 21 (H.1 18 4 - 1).toNat = H.1 21 (H.1 18 4 - 1).toNat + 1) (v5 : H1.1 361 3 = H.1 361 3 + 1) (hl : X 0 0 < q) (hb : ∀ k : Nat, (k : Int) < X 0 5 → X 8 k ≤ 4) : RB Y q H1 (xfar X (H.1 18 4 - 1)) := by
  obtain ⟨-, e7, e, -⟩ := h.2.1.2.2.2.1 (H.1 18 4 - 1).toNat (by have := h.2.1.1.2.2.1; omega)
  rw [e] at f v1 v2 ha
  rw [e7] at v1
  exact RB_far h rfl (by omega) ha rfl f v1 v2 v5 hl hb
/-- a name could not be told -/
theorem FB_tell {Y : yx} {q : Nat} {c0 ok : cf} {H H1 : hp} {X : rx} {w N fd cnt fr cr : Int} (h : RB Y q H X) (hf : tk Y (xi X) = w → fr = fd) (hc : cr = cnt) (hx : rch Y c0 (if tk Y (xi X) ≠ w then miss Y X else if 0 ≤ fd then fl Y X 3 else if N ≤ cnt then fl Y X 5 else ok)) (f : fw [(361, 4), (361, 5)] H H1) (hp : H1.1 361 5 = H.1 5 (H.1 361 3).toNat) (hk : (H.1 4 (H.1 361 3).toNat ≠ w ∧ H1.1 361 4 = (if H.1 4 (H.1 361 3).toNat = 1 then 1 else 2)) ∨ (H.1 4 (H.1 361 3).toNat = w ∧ 0 ≤ fr ∧ H1.1 361 4 = 3) ∨ (H.1 4 (H.1 361 3).toNat = w ∧ fr < 0 ∧ N ≤ cr ∧ H1.1 361 4 = 5)) : FB Y c0 H1 := by
  rw [RB_tk h] at hk
  rcases hk with ⟨k1, k2⟩ | ⟨k1, k2, k3⟩ | ⟨k1, k2, k3, k4⟩
  · rw [if_pos k1] at hx
    exact FB_mk h f nF45 hx k2 hp
  · rw [hf k1] at k2
    rw [if_neg (fun q => q k1), if_pos k2] at hx
    exact FB_mk h f nF45 hx k3 hp
  · rw [hf k1] at k2
    rw [if_neg (fun q => q k1), if_neg (by omega), if_pos (by omega)] at hx
    exact FB_mk h f nF45 hx k4 hp
/-- how many arguments there are at most -/
def AB (X : rx) : Prop := (∀ k : Nat, (k : Int) < X 0 4 → X 4 k ≤ 3) ∧ ∀ k : Nat, (k : Int) < X 0 5 → X 8 k ≤ 4
def OB9 (Y : yx) (q : Nat) (c0 : cf) (K : List tq) (P : rx → Prop) (z : Int) (H : hp) : Prop := (z = 1 ∧ ∃ X, rch Y c0 (K, X) ∧ RB Y q H X ∧ P X) ∨ (z = 0 ∧ FB Y c0 H)
