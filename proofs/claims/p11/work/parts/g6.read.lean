/-! the class's reader: variables, signs, and the machine's -/
def RV (H : hp) (X : rx) : Prop := H.1 361 6 = X 0 8 ∧ (∃ k : Nat, k < 56 ∧ H.2 361 7 = 25 + 6 * k) ∧ (X 0 8 ≠ 2 → (H.1 361 9 = X 0 1 ∧ 0 ≤ X 0 1 ∧ X 0 1 ≤ 40) ∧ ∀ v : Nat, (v : Int) < X 0 1 → H.1 362 v = X 10 v ∧ H.1 (H.2 361 7 + 5) v = X 11 v)
def TQ (t : Nat) : Prop := t = 1824 ∨ ∃ k : Nat, k < 56 ∧ (t = 25 + 6 * k + 1 ∨ t = 25 + 6 * k + 3)
def RZ (H : hp) (X : rx) : Prop := TQ (H.2 361 8) ∧ (H.1 (H.2 361 8) 1 = X 0 2 ∧ 0 ≤ X 0 2 ∧ X 0 2 ≤ 40) ∧ ∀ k : Nat, (k : Int) < X 0 2 → H.1 (H.2 361 8 + 1) k = kcd X (X 13 k)
def RT (Y : yx) (q : Nat) (H : hp) (X : rx) : Prop := RB Y q H X ∧ RV H X ∧ RZ H X
/-- the tables are the same -/
def sT (X X1 : rx) : Prop := (∀ c, 1 ≤ c → c ≤ 9 → X1 c = X c) ∧ X1 12 = X 12 ∧ ∀ j, 3 ≤ j → j ≤ 7 → X1 0 j = X 0 j
theorem TC_sT {H : hp} {X X1 : rx} (h : TC H X) (e : sT X X1) : TC H X1 := by
  obtain ⟨e1, e2, e3⟩ := e
  unfold TC at h ⊢
  rw [e3 3 (by decide) (by decide), e3 4 (by decide) (by decide), e3 5 (by decide) (by decide), e3 6 (by decide) (by decide), e3 7 (by decide) (by decide), e2, e1 1 (by decide) (by decide), e1 2 (by decide) (by decide), e1 3 (by decide) (by decide), e1 4 (by decide) (by decide), e1 5 (by decide) (by decide), e1 6 (by decide) (by decide), e1 7 (by decide) (by decide), e1 8 (by decide) (by decide), e1 9 (by decide) (by decide)]
  exact h
theorem xu_0 (X : rx) {c j k i : Nat} (z : Int) (h : ¬ (k = c ∧ i = j)) : xu X c j z k i = X k i := by
  unfold xu
  by_cases e : k = c
  · subst e
    rw [if_pos rfl, up_ne _ _ (fun q => h ⟨rfl, q⟩)]
  · rw [if_neg e]
theorem xu_1 (X : rx) (c j : Nat) (z : Int) : xu X c j z c j = z := by
  unfold xu
  rw [if_pos rfl, up_eq]
theorem xput_r (X : rx) (s : Int) {c : Nat} (h0 : c ≠ 0) (h1 : c ≠ 13) : xput X s c = X c := by
  unfold xput adv
  rw [xu_ne _ _ _ h0, xu_ne _ _ _ h0, xu_ne _ _ _ h1]
theorem xput_0 (X : rx) (s : Int) {j : Nat} (h0 : j ≠ 0) (h1 : j ≠ 2) : xput X s 0 j = X 0 j := by
  unfold xput adv
  rw [xu_0 _ _ (fun q => h0 q.2), xu_0 _ _ (fun q => h1 q.2), xu_0 _ _ (fun q => by cases q.1)]
theorem xput_s (X : rx) (s : Int) : xput X s 0 2 = X 0 2 + 1 ∧ xput X s 0 0 = X 0 0 + 1 ∧ xput X s 13 = up (X 13) (X 0 2).toNat s := by
  unfold xput adv
  refine ⟨?_, ?_, ?_⟩
  · rw [xu_0 _ _ (fun q => by cases q.2), xu_1]
  · rw [xu_1, xu_0 _ _ (fun q => by cases q.2), xu_0 _ _ (fun q => by cases q.1)]
  · rw [xu_ne _ _ _ (by decide), xu_ne _ _ _ (by decide), xu_eq]
theorem kcd_cg {X X1 : rx} (h4 : X1 4 = X 4) (h8 : X1 8 = X 8) (s : Int) : kcd X1 s = kcd X s := by
  unfold kcd
  rw [h4, h8]
theorem TQ_nB {t : Nat} (h : TQ t) (j : Nat) : nB (t, j) ∧ nB (t + 1, j) ∧ t ≠ 361 ∧ t + 1 ≠ 361 ∧ t ≠ 362 ∧ t + 1 ≠ 362 ∧ ∀ k : Nat, k < 56 → t ≠ 25 + 6 * k + 5 ∧ t + 1 ≠ 25 + 6 * k + 5 := by
  unfold nB nT
  simp only
  rcases h with h | ⟨k, hk, h | h⟩
  all_goals refine ⟨⟨⟨by omega, by omega⟩, by omega⟩, ⟨⟨by omega, by omega⟩, by omega⟩, by omega, by omega, by omega, by omega, fun k hk => by omega⟩
theorem RT_put {Y : yx} {q : Nat} {H H1 : hp} {X : rx} {s : Int} (h : RT Y q H X) (f : fw [((H.2 361 8 + 1), (H.1 (H.2 361 8) 1).toNat), (H.2 361 8, 1), (361, 3), (361, 4), (361, 5)] H H1) (h1 : H1.1 (H.2 361 8 + 1) (H.1 (H.2 361 8) 1).toNat = kcd X s) (h2 : H1.1 (H.2 361 8) 1 = H.1 (H.2 361 8) 1 + 1) (h3 : H1.1 361 3 = H.1 361 3 + 1) (hs : X 0 2 < 40) (hq : X 0 0 < q) : RT Y q H1 (xput X s) := by
  obtain ⟨hB, ⟨v1, v2, v3⟩, s1, s2, s3⟩ := h
  have hp : ∀ p ∈ [((H.2 361 8 + 1), (H.1 (H.2 361 8) 1).toNat), (H.2 361 8, 1), (361, 3), (361, 4), (361, 5)], nB p := by
    intro p hp
    simp only [List.mem_cons, List.not_mem_nil, or_false] at hp
    rcases hp with rfl | rfl | rfl | rfl | rfl
    · exact (TQ_nB s1 _).2.1
    · exact (TQ_nB s1 _).1
    · unfold nB nT; simp
    · unfold nB nT; simp
    · unfold nB nT; simp
  obtain ⟨-, -, n1, n2, n3, n4, n5⟩ := TQ_nB s1 0
  obtain ⟨x1, x2, x3⟩ := xput_s X s
  have hA := RB_adv hB f hp h3 hq
  have e2 : H1.2 = H.2 := f.1
  refine ⟨⟨hA.1, TC_sT hA.2.1 ⟨fun c c1 c2 => ?_, ?_, fun j j1 j2 => ?_⟩, ?_, hA.2.2.2⟩, ⟨?_, ?_, fun hm => ?_⟩, ?_, ?_, fun k hk => ?_⟩
  · rw [xput_r X s (by omega) (by omega)]
    exact (xu_ne _ _ _ (by omega)).symm
  · rw [xput_r X s (by decide) (by decide)]
    exact (xu_ne _ _ _ (by decide)).symm
  · rw [xput_0 X s (by omega) (by omega)]
    exact (xu_0 _ _ (fun q => by omega)).symm
  · have := hA.2.2.1
    rw [x2]
    have e : adv X 0 0 = X 0 0 + 1 := xu_1 _ _ _ _
    rw [e] at this
    exact this
  · rw [xput_0 X s (by decide) (by decide), f.2 361 6 (by simp; omega)]
    exact v1
  · rw [e2]
    exact v2
  · rw [xput_0 X s (by decide) (by decide)] at hm ⊢
    rw [xput_r X s (by decide) (by decide), xput_r X s (by decide) (by decide), e2]
    obtain ⟨w1, w2⟩ := v3 hm
    obtain ⟨k, hk, ek⟩ := v2
    refine ⟨?_, fun v hv => ?_⟩
    · rw [f.2 361 9 (by simp; omega)]
      exact w1
    · rw [f.2 362 v (by simp; omega), f.2 _ v (by simp; have := n5 k hk; omega)]
      exact w2 v hv
  · rw [e2]
    exact s1
  · rw [e2, h2, x1]
    omega
  · rw [e2, x3, kcd_cg (X := X) (xput_r X s (by decide) (by decide)) (xput_r X s (by decide) (by decide))]
    rw [x1] at hk
    by_cases e : k = (X 0 2).toNat
    · rw [e, up_eq, ← h1, s2.1]
    · rw [up_ne _ _ e, f.2 _ k (by simp; omega)]
      exact s3 k (by omega)
