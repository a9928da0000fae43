/-! the class counts small values, told exactly -/
/-- what the tables of types and constructors keep -/
def CT9 (X : rx) : Prop := (0 ≤ X 0 3 ∧ X 0 3 ≤ 6) ∧ (0 ≤ X 0 4 ∧ X 0 4 ≤ 16) ∧ ∀ c : Nat, (c : Int) < X 0 4 → (0 ≤ X 3 c ∧ X 3 c < X 0 3) ∧ (0 ≤ X 4 c ∧ X 4 c ≤ 3) ∧ ∀ k : Nat, (k : Int) < X 4 c → 0 ≤ X 5 (4 * c + k) ∧ X 5 (4 * c + k) < X 0 3
def cN (X : rx) (al : Bool) (t : Int) (n : Nat) : Nat := cp (vv X al n t).length
def tN (X : rx) (al : Bool) (c k n : Nat) : Nat := cp (tuC (vv X al) X c k n).length
def f9 (X : rx) (al : Bool) (c k n i : Nat) : Nat := (vv X al (i + 1) (agC X c k)).length * (tuC (vv X al) X c (k + 1) (n - (i + 1))).length
theorem tuC_sz {X : rx} {al : Bool} {c k n : Nat} (hk : k < aQ9 X c) : (tuC (vv X al) X c k n).length = sumN (f9 X al c k n) n := by
  unfold tuC
  rw [show aQ9 X c - k = (aQ9 X c - (k + 1)) + 1 by omega, tuL_sz]
  refine sumN_cg (fun i _ => ?_)
  unfold f9 tuC
  rw [show aQ9 X c - (aQ9 X c - (k + 1) + 1) = k by omega]
theorem tuC_sz0 {X : rx} {al : Bool} {c n : Nat} : (tuC (vv X al) X c (aQ9 X c) n).length = if n = 0 then 1 else 0 := by
  unfold tuC
  rw [Nat.sub_self, tuL_sz0]
/-- values of at most n names are counted, rows of arguments of fewer -/
def KV (H : hp) (X : rx) (al : Bool) (n : Nat) : Prop := (∀ t m : Nat, (t : Int) < X 0 3 → 1 ≤ m → m ≤ n → H.1 373 (7 * t + m) = (cN X al t m : Int)) ∧ ∀ c k m : Nat, (c : Int) < X 0 4 → k ≤ aQ9 X c → m < n → H.1 374 ((4 * c + k) * 7 + m) = (tN X al c k m : Int)
theorem KV_v {H : hp} {X : rx} {al : Bool} {n : Nat} (h : KV H X al n) {t m : Int} (ht : 0 ≤ t ∧ t < X 0 3) (hm : 1 ≤ m ∧ m ≤ n) : H.1 373 (t * 7 + m).toNat = (cN X al t m.toNat : Int) := by
  have h1 := h.1 t.toNat m.toNat (by omega) (by omega) (by omega)
  rw [show ((t.toNat : Nat) : Int) = t by omega] at h1
  rw [show (t * 7 + m).toNat = 7 * t.toNat + m.toNat by omega]
  exact h1
theorem KV_t {H : hp} {X : rx} {al : Bool} {n : Nat} (h : KV H X al n) {c k m : Int} (hc : 0 ≤ c ∧ c < X 0 4) (hk : 0 ≤ k ∧ k ≤ aQ9 X c.toNat) (hm : 0 ≤ m ∧ m < n) : H.1 374 ((c * 4 + k) * 7 + m).toNat = (tN X al c.toNat k.toNat m.toNat : Int) := by
  have h1 := h.2 c.toNat k.toNat m.toNat (by omega) (by omega) (by omega)
  rw [show ((c * 4 + k) * 7 + m).toNat = (4 * c.toNat + k.toNat) * 7 + m.toNat by omega]
  exact h1
theorem KV_cg {H H1 : hp} {X : rx} {al : Bool} {n : Nat} (h : KV H X al n) (h1 : ∀ t m : Nat, (t : Int) < X 0 3 → 1 ≤ m → m ≤ n → H1.1 373 (7 * t + m) = H.1 373 (7 * t + m)) (h2 : ∀ c k m : Nat, (c : Int) < X 0 4 → k ≤ aQ9 X c → m < n → H1.1 374 ((4 * c + k) * 7 + m) = H.1 374 ((4 * c + k) * 7 + m)) : KV H1 X al n := ⟨fun t m a b c => (h1 t m a b c).trans (h.1 t m a b c), fun c k m a b d => (h2 c k m a b d).trans (h.2 c k m a b d)⟩
/-- constructor c's rows of n names are counted, those of more than k0 arguments left out -/
def KT (X : rx) (al : Bool) (c n : Nat) (k0 : Int) (H H1 : hp) : Prop := H1.2 = H.2 ∧ (∀ c' j, c' ≠ 374 → H1.1 c' j = H.1 c' j) ∧ (∀ j, (∀ k : Nat, k ≤ 3 → j ≠ (4 * c + k) * 7 + n) → H1.1 374 j = H.1 374 j) ∧ ∀ k : Nat, k0 < k → k ≤ aQ9 X c → H1.1 374 ((4 * c + k) * 7 + n) = (tN X al c k n : Int)
theorem KT_w {X : rx} {al : Bool} {c n k j : Nat} {H H1 H2 : hp} {z : Int} (h : KT X al c n k H H1) (w : wr 374 j H1 H2) (v : H2.1 374 j = z) (hj : j = (4 * c + k) * 7 + n) (hk : k ≤ 3) (hz : z = (tN X al c k n : Int)) : KT X al c n ((k : Int) - 1) H H2 := by
  obtain ⟨h1, h2, h3, h4⟩ := h
  refine ⟨w.1.trans h1, fun c' i hc => (w.2 _ _ (fun q => hc q.1)).trans (h2 c' i hc), fun i hi => (w.2 _ _ (fun q => hi k hk (by rw [q.2, hj]))).trans (h3 i hi), fun k' a b => ?_⟩
  by_cases e : k' = k
  · subst e
    rw [← hj, v, hz]
  · rw [w.2 _ _ (fun q => by have := q.2; omega)]
    exact h4 k' (by omega) b
theorem f9_up {X : rx} {al : Bool} {c k n i : Nat} {s p z1 z2 : Int} (hs : 0 ≤ s) (h : cp s.toNat = cp (sumN (f9 X al c k n) i)) (e1 : z1 = (cN X al (agC X c k) (i + 1) : Int)) (e2 : z2 = (tN X al c (k + 1) (n - (i + 1)) : Int)) (hp : p = z1 * z2) : cp (s + p).toNat = cp (sumN (f9 X al c k n) (i + 1)) ∧ 0 ≤ p ∧ p ≤ 4004001 := by
  have h1 : p = ((cN X al (agC X c k) (i + 1) * tN X al c (k + 1) (n - (i + 1)) : Nat) : Int) := by
    rw [hp, e1, e2]
    exact (Int.natCast_mul _ _).symm
  have h2 : cN X al (agC X c k) (i + 1) * tN X al c (k + 1) (n - (i + 1)) ≤ 2001 * 2001 := Nat.mul_le_mul (cp_le _) (cp_le _)
  refine ⟨?_, by omega, by omega⟩
  rw [show (s + p).toNat = s.toNat + cN X al (agC X c k) (i + 1) * tN X al c (k + 1) (n - (i + 1)) by omega]
  show cp _ = cp (sumN (f9 X al c k n) i + f9 X al c k n i)
  exact cp_add h (cp_mul _ _)
theorem cp_min {s z : Int} {x : Nat} (hs : 0 ≤ s) (h : cp s.toNat = cp x) (hz : z ≤ s ∧ z ≤ 2001 ∧ (z = s ∨ z = 2001)) : z = (cp x : Int) := by
  rw [← h]
  unfold cp
  split <;> omega

/-! Trial.valuesOf -/
set_option maxRecDepth 100000 in
theorem qv_valuesOf {d : Nat} (hd : 1 ≤ d) {H : hp} (hI : Inv H) {a : Int} {b : Int} (ha : -2147483648 ≤ a ∧ a ≤ 2147483647) (hb : -2147483648 ≤ b ∧ b ≤ 2147483647) (hp0 : 0 ≤ a ∧ a ≤ 5) (hp1 : 0 ≤ b ∧ b ≤ 6) : hG (zs zK) d mt_108 0 (zargs 0 [.inr (.inr 372), .inl a, .inl b]) [] H (fun r9 H9 => ∃ z : Int, r9 = some (.inl z) ∧ ((-2147483648 ≤ z ∧ z ≤ 2147483647) ∧ (z = H.1 373 (a * 7 + b).toNat)) ∧ H = H9) := by
  refine k_run 0 (pc' := 0) (l' := [(0, .inr (.inr 372)), (1, .inl a), (2, .inl b)]) (st' := []) rfl ?_
  refine k_run 7 (pc' := 8) (l' := [(0, .inr (.inr 372)), (1, .inl a), (2, .inl b), (3, .inl ((a * 7) + b))]) (st' := [.inl a]) rfl ?_
  refine h_zlt (off := 31) (t := 39) rfl rfl (by omega) (fun c1 => ?_) (fun c1 => ?_)
  · refine k_run 0 (pc' := 39) (l' := [(0, .inr (.inr 372)), (1, .inl a), (2, .inl b), (3, .inl ((a * 7) + b))]) (st' := []) rfl ?_
    refine k_run 1 (pc' := 40) (l' := [(0, .inr (.inr 372)), (1, .inl a), (2, .inl b), (3, .inl ((a * 7) + b))]) (st' := [.inl 0]) rfl ?_
    refine h_reti (x := 0) rfl rfl ?_
    exact ⟨_, rfl, (by omega), rfl⟩
  · refine k_run 0 (pc' := 11) (l' := [(0, .inr (.inr 372)), (1, .inl a), (2, .inl b), (3, .inl ((a * 7) + b))]) (st' := []) rfl ?_
    refine k_run 1 (pc' := 12) (l' := [(0, .inr (.inr 372)), (1, .inl a), (2, .inl b), (3, .inl ((a * 7) + b))]) (st' := [.inl b]) rfl ?_
    refine h_zlt (off := 27) (t := 39) rfl rfl (by omega) (fun c2 => ?_) (fun c2 => ?_)
    · refine k_run 0 (pc' := 39) (l' := [(0, .inr (.inr 372)), (1, .inl a), (2, .inl b), (3, .inl ((a * 7) + b))]) (st' := []) rfl ?_
      refine k_run 1 (pc' := 40) (l' := [(0, .inr (.inr 372)), (1, .inl a), (2, .inl b), (3, .inl ((a * 7) + b))]) (st' := [.inl 0]) rfl ?_
      refine h_reti (x := 0) rfl rfl ?_
      exact ⟨_, rfl, (by omega), rfl⟩
    · refine k_run 0 (pc' := 15) (l' := [(0, .inr (.inr 372)), (1, .inl a), (2, .inl b), (3, .inl ((a * 7) + b))]) (st' := []) rfl ?_
      refine k_run 2 (pc' := 18) (l' := [(0, .inr (.inr 372)), (1, .inl a), (2, .inl b), (3, .inl ((a * 7) + b))]) (st' := [.inl 7, .inl b]) rfl ?_
      refine h_ige (off := 21) (t := 39) rfl rfl (by omega) (by decide) (fun c3 => ?_) (fun c3 => ?_)
      · refine k_run 0 (pc' := 39) (l' := [(0, .inr (.inr 372)), (1, .inl a), (2, .inl b), (3, .inl ((a * 7) + b))]) (st' := []) rfl ?_
        refine k_run 1 (pc' := 40) (l' := [(0, .inr (.inr 372)), (1, .inl a), (2, .inl b), (3, .inl ((a * 7) + b))]) (st' := [.inl 0]) rfl ?_
        refine h_reti (x := 0) rfl rfl ?_
        exact ⟨_, rfl, (by omega), rfl⟩
      · refine k_run 0 (pc' := 21) (l' := [(0, .inr (.inr 372)), (1, .inl a), (2, .inl b), (3, .inl ((a * 7) + b))]) (st' := []) rfl ?_
        refine k_run 3 (pc' := 26) (l' := [(0, .inr (.inr 372)), (1, .inl a), (2, .inl b), (3, .inl ((a * 7) + b))]) (st' := [.inr (.inr 373), .inl ((a * 7) + b)]) rfl ?_
        refine k_alen (c := 373) (x := kx_373) rfl rfl (by decide) rfl ?_
        refine k_run 0 (pc' := 27) (l' := [(0, .inr (.inr 372)), (1, .inl a), (2, .inl b), (3, .inl ((a * 7) + b))]) (st' := [.inl 42, .inl ((a * 7) + b)]) rfl ?_
        refine h_ige (off := 12) (t := 39) rfl rfl (by omega) (by decide) (fun c4 => ?_) (fun c4 => ?_)
        · refine k_run 0 (pc' := 39) (l' := [(0, .inr (.inr 372)), (1, .inl a), (2, .inl b), (3, .inl ((a * 7) + b))]) (st' := []) rfl ?_
          refine k_run 1 (pc' := 40) (l' := [(0, .inr (.inr 372)), (1, .inl a), (2, .inl b), (3, .inl ((a * 7) + b))]) (st' := [.inl 0]) rfl ?_
          refine h_reti (x := 0) rfl rfl ?_
          exact ⟨_, rfl, (by omega), rfl⟩
        · refine k_run 0 (pc' := 30) (l' := [(0, .inr (.inr 372)), (1, .inl a), (2, .inl b), (3, .inl ((a * 7) + b))]) (st' := []) rfl ?_
          refine k_run 3 (pc' := 35) (l' := [(0, .inr (.inr 372)), (1, .inl a), (2, .inl b), (3, .inl ((a * 7) + b))]) (st' := [.inl ((a * 7) + b), .inr (.inr 373)]) rfl ?_
          refine k_ild (c := 373) (j := (((a * 7) + b)).toNat) (i := ((a * 7) + b)) (x := kx_373) rfl rfl (by decide) rfl (by decide) (by omega) (by omega) ?_
          have g5 : -2147483648 ≤ (H.1 373 (((a * 7) + b)).toNat) ∧ (H.1 373 (((a * 7) + b)).toNat) ≤ 2147483647 := kn (x := kx_373) hI rfl (((a * 7) + b)).toNat
          refine k_run 0 (pc' := 36) (l' := [(0, .inr (.inr 372)), (1, .inl a), (2, .inl b), (3, .inl ((a * 7) + b))]) (st' := [.inl (H.1 373 (((a * 7) + b)).toNat)]) rfl ?_
          refine k_run 1 (pc' := 40) (l' := [(0, .inr (.inr 372)), (1, .inl a), (2, .inl b), (3, .inl ((a * 7) + b))]) (st' := [.inl (H.1 373 (((a * 7) + b)).toNat)]) rfl ?_
          refine h_reti (x := (H.1 373 (((a * 7) + b)).toNat)) rfl rfl ?_
          exact ⟨_, rfl, (by omega), rfl⟩

/-! Trial.tuplesOf -/
set_option maxRecDepth 100000 in
theorem qv_tuplesOf {d : Nat} (hd : 1 ≤ d) {H : hp} (hI : Inv H) {a : Int} {b : Int} {c : Int} (ha : -2147483648 ≤ a ∧ a ≤ 2147483647) (hb : -2147483648 ≤ b ∧ b ≤ 2147483647) (hc : -2147483648 ≤ c ∧ c ≤ 2147483647) (hp0 : 0 ≤ a ∧ a ≤ 15) (hp1 : 0 ≤ b ∧ b ≤ 3) (hp2 : 0 ≤ c ∧ c ≤ 6) : hG (zs zK) d mt_109 0 (zargs 0 [.inr (.inr 372), .inl a, .inl b, .inl c]) [] H (fun r9 H9 => ∃ z : Int, r9 = some (.inl z) ∧ ((-2147483648 ≤ z ∧ z ≤ 2147483647) ∧ (z = H.1 374 ((a * 4 + b) * 7 + c).toNat)) ∧ H = H9) := by
  refine k_run 0 (pc' := 0) (l' := [(0, .inr (.inr 372)), (1, .inl a), (2, .inl b), (3, .inl c)]) (st' := []) rfl ?_
  refine k_run 11 (pc' := 13) (l' := [(0, .inr (.inr 372)), (1, .inl a), (2, .inl b), (3, .inl c), (4, .inl ((((a * 4) + b) * 7) + c))]) (st' := [.inl a]) rfl ?_
  refine h_zlt (off := 42) (t := 55) rfl rfl (by omega) (fun c1 => ?_) (fun c1 => ?_)
  · refine k_run 0 (pc' := 55) (l' := [(0, .inr (.inr 372)), (1, .inl a), (2, .inl b), (3, .inl c), (4, .inl ((((a * 4) + b) * 7) + c))]) (st' := []) rfl ?_
    refine k_run 1 (pc' := 56) (l' := [(0, .inr (.inr 372)), (1, .inl a), (2, .inl b), (3, .inl c), (4, .inl ((((a * 4) + b) * 7) + c))]) (st' := [.inl 0]) rfl ?_
    refine h_reti (x := 0) rfl rfl ?_
    exact ⟨_, rfl, (by omega), rfl⟩
  · refine k_run 0 (pc' := 16) (l' := [(0, .inr (.inr 372)), (1, .inl a), (2, .inl b), (3, .inl c), (4, .inl ((((a * 4) + b) * 7) + c))]) (st' := []) rfl ?_
    refine k_run 1 (pc' := 17) (l' := [(0, .inr (.inr 372)), (1, .inl a), (2, .inl b), (3, .inl c), (4, .inl ((((a * 4) + b) * 7) + c))]) (st' := [.inl b]) rfl ?_
    refine h_zlt (off := 38) (t := 55) rfl rfl (by omega) (fun c2 => ?_) (fun c2 => ?_)
    · refine k_run 0 (pc' := 55) (l' := [(0, .inr (.inr 372)), (1, .inl a), (2, .inl b), (3, .inl c), (4, .inl ((((a * 4) + b) * 7) + c))]) (st' := []) rfl ?_
      refine k_run 1 (pc' := 56) (l' := [(0, .inr (.inr 372)), (1, .inl a), (2, .inl b), (3, .inl c), (4, .inl ((((a * 4) + b) * 7) + c))]) (st' := [.inl 0]) rfl ?_
      refine h_reti (x := 0) rfl rfl ?_
      exact ⟨_, rfl, (by omega), rfl⟩
    · refine k_run 0 (pc' := 20) (l' := [(0, .inr (.inr 372)), (1, .inl a), (2, .inl b), (3, .inl c), (4, .inl ((((a * 4) + b) * 7) + c))]) (st' := []) rfl ?_
      refine k_run 2 (pc' := 22) (l' := [(0, .inr (.inr 372)), (1, .inl a), (2, .inl b), (3, .inl c), (4, .inl ((((a * 4) + b) * 7) + c))]) (st' := [.inl 4, .inl b]) rfl ?_
      refine h_ige (off := 33) (t := 55) rfl rfl (by omega) (by decide) (fun c3 => ?_) (fun c3 => ?_)
      · refine k_run 0 (pc' := 55) (l' := [(0, .inr (.inr 372)), (1, .inl a), (2, .inl b), (3, .inl c), (4, .inl ((((a * 4) + b) * 7) + c))]) (st' := []) rfl ?_
        refine k_run 1 (pc' := 56) (l' := [(0, .inr (.inr 372)), (1, .inl a), (2, .inl b), (3, .inl c), (4, .inl ((((a * 4) + b) * 7) + c))]) (st' := [.inl 0]) rfl ?_
        refine h_reti (x := 0) rfl rfl ?_
        exact ⟨_, rfl, (by omega), rfl⟩
      · refine k_run 0 (pc' := 25) (l' := [(0, .inr (.inr 372)), (1, .inl a), (2, .inl b), (3, .inl c), (4, .inl ((((a * 4) + b) * 7) + c))]) (st' := []) rfl ?_
        refine k_run 1 (pc' := 26) (l' := [(0, .inr (.inr 372)), (1, .inl a), (2, .inl b), (3, .inl c), (4, .inl ((((a * 4) + b) * 7) + c))]) (st' := [.inl c]) rfl ?_
        refine h_zlt (off := 29) (t := 55) rfl rfl (by omega) (fun c4 => ?_) (fun c4 => ?_)
        · refine k_run 0 (pc' := 55) (l' := [(0, .inr (.inr 372)), (1, .inl a), (2, .inl b), (3, .inl c), (4, .inl ((((a * 4) + b) * 7) + c))]) (st' := []) rfl ?_
          refine k_run 1 (pc' := 56) (l' := [(0, .inr (.inr 372)), (1, .inl a), (2, .inl b), (3, .inl c), (4, .inl ((((a * 4) + b) * 7) + c))]) (st' := [.inl 0]) rfl ?_
          refine h_reti (x := 0) rfl rfl ?_
          exact ⟨_, rfl, (by omega), rfl⟩
        · refine k_run 0 (pc' := 29) (l' := [(0, .inr (.inr 372)), (1, .inl a), (2, .inl b), (3, .inl c), (4, .inl ((((a * 4) + b) * 7) + c))]) (st' := []) rfl ?_
          refine k_run 2 (pc' := 32) (l' := [(0, .inr (.inr 372)), (1, .inl a), (2, .inl b), (3, .inl c), (4, .inl ((((a * 4) + b) * 7) + c))]) (st' := [.inl 7, .inl c]) rfl ?_
          refine h_ige (off := 23) (t := 55) rfl rfl (by omega) (by decide) (fun c5 => ?_) (fun c5 => ?_)
          · refine k_run 0 (pc' := 55) (l' := [(0, .inr (.inr 372)), (1, .inl a), (2, .inl b), (3, .inl c), (4, .inl ((((a * 4) + b) * 7) + c))]) (st' := []) rfl ?_
            refine k_run 1 (pc' := 56) (l' := [(0, .inr (.inr 372)), (1, .inl a), (2, .inl b), (3, .inl c), (4, .inl ((((a * 4) + b) * 7) + c))]) (st' := [.inl 0]) rfl ?_
            refine h_reti (x := 0) rfl rfl ?_
            exact ⟨_, rfl, (by omega), rfl⟩
          · refine k_run 0 (pc' := 35) (l' := [(0, .inr (.inr 372)), (1, .inl a), (2, .inl b), (3, .inl c), (4, .inl ((((a * 4) + b) * 7) + c))]) (st' := []) rfl ?_
            refine k_run 3 (pc' := 41) (l' := [(0, .inr (.inr 372)), (1, .inl a), (2, .inl b), (3, .inl c), (4, .inl ((((a * 4) + b) * 7) + c))]) (st' := [.inr (.inr 374), .inl ((((a * 4) + b) * 7) + c)]) rfl ?_
            refine k_alen (c := 374) (x := kx_374) rfl rfl (by decide) rfl ?_
            refine k_run 0 (pc' := 42) (l' := [(0, .inr (.inr 372)), (1, .inl a), (2, .inl b), (3, .inl c), (4, .inl ((((a * 4) + b) * 7) + c))]) (st' := [.inl 448, .inl ((((a * 4) + b) * 7) + c)]) rfl ?_
            refine h_ige (off := 13) (t := 55) rfl rfl (by omega) (by decide) (fun c6 => ?_) (fun c6 => ?_)
            · refine k_run 0 (pc' := 55) (l' := [(0, .inr (.inr 372)), (1, .inl a), (2, .inl b), (3, .inl c), (4, .inl ((((a * 4) + b) * 7) + c))]) (st' := []) rfl ?_
              refine k_run 1 (pc' := 56) (l' := [(0, .inr (.inr 372)), (1, .inl a), (2, .inl b), (3, .inl c), (4, .inl ((((a * 4) + b) * 7) + c))]) (st' := [.inl 0]) rfl ?_
              refine h_reti (x := 0) rfl rfl ?_
              exact ⟨_, rfl, (by omega), rfl⟩
            · refine k_run 0 (pc' := 45) (l' := [(0, .inr (.inr 372)), (1, .inl a), (2, .inl b), (3, .inl c), (4, .inl ((((a * 4) + b) * 7) + c))]) (st' := []) rfl ?_
              refine k_run 3 (pc' := 51) (l' := [(0, .inr (.inr 372)), (1, .inl a), (2, .inl b), (3, .inl c), (4, .inl ((((a * 4) + b) * 7) + c))]) (st' := [.inl ((((a * 4) + b) * 7) + c), .inr (.inr 374)]) rfl ?_
              refine k_ild (c := 374) (j := (((((a * 4) + b) * 7) + c)).toNat) (i := ((((a * 4) + b) * 7) + c)) (x := kx_374) rfl rfl (by decide) rfl (by decide) (by omega) (by omega) ?_
              have g7 : -2147483648 ≤ (H.1 374 (((((a * 4) + b) * 7) + c)).toNat) ∧ (H.1 374 (((((a * 4) + b) * 7) + c)).toNat) ≤ 2147483647 := kn (x := kx_374) hI rfl (((((a * 4) + b) * 7) + c)).toNat
              refine k_run 0 (pc' := 52) (l' := [(0, .inr (.inr 372)), (1, .inl a), (2, .inl b), (3, .inl c), (4, .inl ((((a * 4) + b) * 7) + c))]) (st' := [.inl (H.1 374 (((((a * 4) + b) * 7) + c)).toNat)]) rfl ?_
              refine k_run 1 (pc' := 56) (l' := [(0, .inr (.inr 372)), (1, .inl a), (2, .inl b), (3, .inl c), (4, .inl ((((a * 4) + b) * 7) + c))]) (st' := [.inl (H.1 374 (((((a * 4) + b) * 7) + c)).toNat)]) rfl ?_
              refine h_reti (x := (H.1 374 (((((a * 4) + b) * 7) + c)).toNat)) rfl rfl ?_
              exact ⟨_, rfl, (by omega), rfl⟩

/-! Trial.countTuples -/
set_option maxRecDepth 100000 in
theorem qv_countTuples_cut {X : rx} {al : Bool} {d : Nat} (hd : 2 ≤ d) {H : hp} (hI : Inv H) {a : Int} {b : Int} (ha : -2147483648 ≤ a ∧ a ≤ 2147483647) (hb : -2147483648 ≤ b ∧ b ≤ 2147483647) (hp0 : 0 ≤ a ∧ a < X 0 4) (hp1 : 0 ≤ b ∧ b ≤ 5) (hX : CT9 X) (hT : TC H X) (hV : KV H X al b.toNat) : ∀ w : Nat, (∀ (H1 : hp), Inv H1 → fq [] [374] false H H1 → ∀ (x3 : Int) (x4 : Int) , (-2147483648 ≤ x3 ∧ x3 ≤ 2147483647) → (-2147483648 ≤ x4 ∧ x4 ≤ 2147483647) → (x3 = X 4 a.toNat) → (-1 ≤ x4 ∧ x4 ≤ x3) → (KT X al a.toNat b.toNat x4 H H1) → (((1000 * (x4 + 2) + 500).toNat) < w) → hG (zs zK) d mt_107 20 [(0, .inr (.inr 372)), (1, .inl a), (2, .inl b), (3, .inl x3), (4, .inl x4)] [] H1 (fun r9 H9 => ∃ z : Int, r9 = some (.inl z) ∧ ((-2147483648 ≤ z ∧ z ≤ 2147483647)) ∧ Inv H9 ∧ fq [] [374] false H H9 ∧ (z = (tN X al a.toNat 0 b.toNat : Int) ∧ KT X al a.toNat b.toNat (-1) H H9))) ∧ (∀ (H1 : hp), Inv H1 → fq [] [374] false H H1 → ∀ (x3 : Int) (x4 : Int) (x5 : Int) (x6 : Int) , (-2147483648 ≤ x3 ∧ x3 ≤ 2147483647) → (-2147483648 ≤ x4 ∧ x4 ≤ 2147483647) → (-2147483648 ≤ x5 ∧ x5 ≤ 2147483647) → (-2147483648 ≤ x6 ∧ x6 ≤ 2147483647) → (x3 = X 4 a.toNat) → (0 ≤ x4 ∧ x4 ≤ x3) → (KT X al a.toNat b.toNat x4 H H1) → (1 ≤ x6 ∧ x6 ≤ b + 1) → (0 ≤ x5 ∧ x5 ≤ 4004001 * (x6 - 1) + 1) → (x4 < x3 → cp x5.toNat = cp (sumN (f9 X al a.toNat x4.toNat b.toNat) (x6 - 1).toNat)) → (x4 = x3 → x5 = if b.toNat = 0 then 1 else 0) → (((1000 * (x4 + 2) + 100 - x6).toNat) < w) → hG (zs zK) d mt_107 45 [(0, .inr (.inr 372)), (1, .inl a), (2, .inl b), (3, .inl x3), (4, .inl x4), (5, .inl x5), (6, .inl x6)] [] H1 (fun r9 H9 => ∃ z : Int, r9 = some (.inl z) ∧ ((-2147483648 ≤ z ∧ z ≤ 2147483647)) ∧ Inv H9 ∧ fq [] [374] false H H9 ∧ (z = (tN X al a.toNat 0 b.toNat : Int) ∧ KT X al a.toNat b.toNat (-1) H H9))) := by
  intro w
  induction w with
  | zero => exact ⟨fun _ _ _ _ _ _ _ _ _ _ h => absurd h (Nat.not_lt_zero _), fun _ _ _ _ _ _ _ _ _ _ _ _ _ _ _ _ _ _ h => absurd h (Nat.not_lt_zero _)⟩
  | succ w ih =>
    refine ⟨?_, ?_⟩
    · intro H1 hI1 hf1 x3 x4 hx3 hx4 hi0 hi1 hi2 hw
      obtain ⟨hX3, hX4, hXc⟩ := id hX
      obtain ⟨hc1, hc2, hc3⟩ := hXc a.toNat (by omega)
      obtain ⟨-, -, hc4, hc5⟩ := hT.2.2.1 a.toNat (by omega)
      have haC : (aQ9 X a.toNat : Int) = X 4 a.toNat := by unfold aQ9; omega
      have hkt := hi2
      refine k_run 1 (pc' := 22) (l' := [(0, .inr (.inr 372)), (1, .inl a), (2, .inl b), (3, .inl x3), (4, .inl x4)]) (st' := [.inl x4]) rfl ?_
      refine h_zlt (off := 109) (t := 131) rfl rfl (by omega) (fun c3 => ?_) (fun c3 => ?_)
      · refine k_run 0 (pc' := 131) (l' := [(0, .inr (.inr 372)), (1, .inl a), (2, .inl b), (3, .inl x3), (4, .inl x4)]) (st' := []) rfl ?_
        refine k_run 4 (pc' := 135) (l' := [(0, .inr (.inr 372)), (1, .inl a), (2, .inl b), (3, .inl x3), (4, .inl x4)]) (st' := [.inl b, .inl 0, .inl a, .inr (.inr 372)]) rfl ?_
        refine h_cv (i := 156) (j := 109) (b := 372) (M' := mt_109) (xs := [.inl b, .inl 0, .inl a]) (rest := []) rfl rfl rfl rfl (zs_K (x := kx_372) rfl (by decide)) rfl (Nat.le_of_ble_eq_true rfl) (Nat.le_of_ble_eq_true rfl) (by omega) (qv_tuplesOf (by omega) hI1 (by omega) (by decide) (by omega) (by omega) (by omega) (by omega)) ?_
        rintro _ _ ⟨z10, rfl, g4, rfl⟩
        refine k_run 0 (pc' := 138) (l' := [(0, .inr (.inr 372)), (1, .inl a), (2, .inl b), (3, .inl x3), (4, .inl x4)]) (st' := [.inl z10]) rfl ?_
        refine h_reti (x := z10) rfl rfl ?_
        exact ⟨_, rfl, (by omega), hI1, hf1, (by have q9 := hkt.2.2.2 0 (by omega) (Nat.zero_le _); have q8 := g4.2; exact ⟨by rw [q8, ← q9]; exact congrArg (fun q5 => H1.1 374 q5) (by omega), by rw [show (-1 : Int) = x4 by omega]; exact hkt⟩)⟩
      · refine k_run 0 (pc' := 25) (l' := [(0, .inr (.inr 372)), (1, .inl a), (2, .inl b), (3, .inl x3), (4, .inl x4)]) (st' := []) rfl ?_
        refine k_run 2 (pc' := 28) (l' := [(0, .inr (.inr 372)), (1, .inl a), (2, .inl b), (3, .inl x3), (4, .inl x4)]) (st' := [.inl x3, .inl x4]) rfl ?_
        refine h_ine (off := 11) (t := 39) rfl rfl (by omega) (by omega) (fun c11 => ?_) (fun c11 => ?_)
        · refine k_run 0 (pc' := 39) (l' := [(0, .inr (.inr 372)), (1, .inl a), (2, .inl b), (3, .inl x3), (4, .inl x4)]) (st' := []) rfl ?_
          refine k_run 4 (pc' := 45) (l' := [(0, .inr (.inr 372)), (1, .inl a), (2, .inl b), (3, .inl x3), (4, .inl x4), (5, .inl 0), (6, .inl 1)]) (st' := []) rfl ?_
          exact ih.2 H1 hI1 hf1 x3 x4 (0 : Int) (1 : Int) (by omega) (by omega) (by decide) (by decide) (by omega) (by omega) hkt (by omega) (by omega) (by intro q9; first | (exfalso; omega) | rfl | (rw [show ((1 : Int) - 1).toNat = 0 from rfl]; rfl)) (by intro q9; split <;> omega) (by omega)
        · refine k_run 0 (pc' := 31) (l' := [(0, .inr (.inr 372)), (1, .inl a), (2, .inl b), (3, .inl x3), (4, .inl x4)]) (st' := []) rfl ?_
          refine k_run 1 (pc' := 32) (l' := [(0, .inr (.inr 372)), (1, .inl a), (2, .inl b), (3, .inl x3), (4, .inl x4)]) (st' := [.inl b]) rfl ?_
          refine h_zne (off := 7) (t := 39) rfl rfl (by omega) (fun c12 => ?_) (fun c12 => ?_)
          · refine k_run 0 (pc' := 39) (l' := [(0, .inr (.inr 372)), (1, .inl a), (2, .inl b), (3, .inl x3), (4, .inl x4)]) (st' := []) rfl ?_
            refine k_run 4 (pc' := 45) (l' := [(0, .inr (.inr 372)), (1, .inl a), (2, .inl b), (3, .inl x3), (4, .inl x4), (5, .inl 0), (6, .inl 1)]) (st' := []) rfl ?_
            exact ih.2 H1 hI1 hf1 x3 x4 (0 : Int) (1 : Int) (by omega) (by omega) (by decide) (by decide) (by omega) (by omega) hkt (by omega) (by omega) (by intro q9; first | (exfalso; omega) | rfl | (rw [show ((1 : Int) - 1).toNat = 0 from rfl]; rfl)) (by intro q9; split <;> omega) (by omega)
          · refine k_run 0 (pc' := 35) (l' := [(0, .inr (.inr 372)), (1, .inl a), (2, .inl b), (3, .inl x3), (4, .inl x4)]) (st' := []) rfl ?_
            refine k_run 5 (pc' := 45) (l' := [(0, .inr (.inr 372)), (1, .inl a), (2, .inl b), (3, .inl x3), (4, .inl x4), (5, .inl 1), (6, .inl 1)]) (st' := []) rfl ?_
            exact ih.2 H1 hI1 hf1 x3 x4 (1 : Int) (1 : Int) (by omega) (by omega) (by decide) (by decide) (by omega) (by omega) hkt (by omega) (by omega) (by intro q9; first | (exfalso; omega) | rfl | (rw [show ((1 : Int) - 1).toNat = 0 from rfl]; rfl)) (by intro q9; split <;> omega) (by omega)
    · intro H1 hI1 hf1 x3 x4 x5 x6 hx3 hx4 hx5 hx6 hi0 hi1 hi2 hi3 hi4 hi5 hi6 hw
      obtain ⟨hX3, hX4, hXc⟩ := id hX
      obtain ⟨hc1, hc2, hc3⟩ := hXc a.toNat (by omega)
      obtain ⟨-, -, hc4, hc5⟩ := hT.2.2.1 a.toNat (by omega)
      have haC : (aQ9 X a.toNat : Int) = X 4 a.toNat := by unfold aQ9; omega
      have hkt := hi2
      refine k_run 2 (pc' := 48) (l' := [(0, .inr (.inr 372)), (1, .inl a), (2, .inl b), (3, .inl x3), (4, .inl x4), (5, .inl x5), (6, .inl x6)]) (st' := [.inl x3, .inl x4]) rfl ?_
      refine h_ige (off := 53) (t := 101) rfl rfl (by omega) (by omega) (fun c13 => ?_) (fun c13 => ?_)
      · refine k_run 0 (pc' := 101) (l' := [(0, .inr (.inr 372)), (1, .inl a), (2, .inl b), (3, .inl x3), (4, .inl x4), (5, .inl x5), (6, .inl x6)]) (st' := []) rfl ?_
        have hsum : cp x5.toNat = cp (tuC (vv X al) X a.toNat x4.toNat b.toNat).length := by by_cases q9 : x4 < x3; { rw [tuC_sz (by omega), hi5 q9, show (x6 - 1).toNat = b.toNat by omega] }; { rw [show x4.toNat = aQ9 X a.toNat by omega, tuC_sz0]; have q8 := hi6 (by omega); split <;> (congr 1; omega) }
        refine k_run 13 (pc' := 121) (l' := [(0, .inr (.inr 372)), (1, .inl a), (2, .inl b), (3, .inl x3), (4, .inl x4), (5, .inl x5), (6, .inl x6)]) (st' := [.inl 2001, .inl x5, .inl ((((a * 4) + x4) * 7) + b), .inr (.inr 374)]) rfl ?_
        refine k_min (i := 101) (x := x5) (y := 2001) rfl rfl (Nat.le_of_ble_eq_true rfl) (by omega) (by omega) (by decide) (fun z14 hz14 => ?_)
        refine k_run 0 (pc' := 124) (l' := [(0, .inr (.inr 372)), (1, .inl a), (2, .inl b), (3, .inl x3), (4, .inl x4), (5, .inl x5), (6, .inl x6)]) (st' := [.inl z14, .inl ((((a * 4) + x4) * 7) + b), .inr (.inr 374)]) rfl ?_
        refine k_ist (z := z14) (c := 374) (j := (((((a * 4) + x4) * 7) + b)).toNat) (i := ((((a * 4) + x4) * 7) + b)) (x := kx_374) rfl rfl (by decide) (by decide) rfl (by decide) (by omega) (by omega) hI1 (by omega) (show -2147483648 ≤ z14 ∧ z14 ≤ 2147483647 by omega) (fun H15 hI16 hw17 hv18 => ?_)
        have hf19 : fq [] [374] false H H15 := fq_w hf1 hw17 (fpa (by decide) rfl)
        refine k_run 0 (pc' := 125) (l' := [(0, .inr (.inr 372)), (1, .inl a), (2, .inl b), (3, .inl x3), (4, .inl x4), (5, .inl x5), (6, .inl x6)]) (st' := []) rfl ?_
        refine k_run 2 (pc' := 20) (l' := [(0, .inr (.inr 372)), (1, .inl a), (2, .inl b), (3, .inl x3), (4, .inl (x4 + (-1))), (5, .inl x5), (6, .inl x6)]) (st' := []) rfl ?_
        refine h_loc [0, 1, 2, 3, 4] rfl ?_
        exact ih.1 H15 hI16 hf19 x3 (x4 + (-1)) (by omega) (by omega) (by omega) (by omega) (by have q9 := KT_w (k := x4.toNat) (by rw [show ((x4.toNat : Nat) : Int) = x4 by omega]; exact hkt) hw17 hv18 (by omega) (by omega) (cp_min hi4.1 hsum (by omega)); rw [show ((x4.toNat : Nat) : Int) - 1 = x4 - 1 by omega] at q9; first | exact q9 | (rw [show x4 + -1 = x4 - 1 by omega]; exact q9)) (by omega)
      · refine k_run 0 (pc' := 51) (l' := [(0, .inr (.inr 372)), (1, .inl a), (2, .inl b), (3, .inl x3), (4, .inl x4), (5, .inl x5), (6, .inl x6)]) (st' := []) rfl ?_
        refine k_run 2 (pc' := 54) (l' := [(0, .inr (.inr 372)), (1, .inl a), (2, .inl b), (3, .inl x3), (4, .inl x4), (5, .inl x5), (6, .inl x6)]) (st' := [.inl b, .inl x6]) rfl ?_
        refine h_igt (off := 47) (t := 101) rfl rfl (by omega) (by omega) (fun c20 => ?_) (fun c20 => ?_)
        · refine k_run 0 (pc' := 101) (l' := [(0, .inr (.inr 372)), (1, .inl a), (2, .inl b), (3, .inl x3), (4, .inl x4), (5, .inl x5), (6, .inl x6)]) (st' := []) rfl ?_
          have hsum : cp x5.toNat = cp (tuC (vv X al) X a.toNat x4.toNat b.toNat).length := by by_cases q9 : x4 < x3; { rw [tuC_sz (by omega), hi5 q9, show (x6 - 1).toNat = b.toNat by omega] }; { rw [show x4.toNat = aQ9 X a.toNat by omega, tuC_sz0]; have q8 := hi6 (by omega); split <;> (congr 1; omega) }
          refine k_run 13 (pc' := 121) (l' := [(0, .inr (.inr 372)), (1, .inl a), (2, .inl b), (3, .inl x3), (4, .inl x4), (5, .inl x5), (6, .inl x6)]) (st' := [.inl 2001, .inl x5, .inl ((((a * 4) + x4) * 7) + b), .inr (.inr 374)]) rfl ?_
          refine k_min (i := 101) (x := x5) (y := 2001) rfl rfl (Nat.le_of_ble_eq_true rfl) (by omega) (by omega) (by decide) (fun z21 hz21 => ?_)
          refine k_run 0 (pc' := 124) (l' := [(0, .inr (.inr 372)), (1, .inl a), (2, .inl b), (3, .inl x3), (4, .inl x4), (5, .inl x5), (6, .inl x6)]) (st' := [.inl z21, .inl ((((a * 4) + x4) * 7) + b), .inr (.inr 374)]) rfl ?_
          refine k_ist (z := z21) (c := 374) (j := (((((a * 4) + x4) * 7) + b)).toNat) (i := ((((a * 4) + x4) * 7) + b)) (x := kx_374) rfl rfl (by decide) (by decide) rfl (by decide) (by omega) (by omega) hI1 (by omega) (show -2147483648 ≤ z21 ∧ z21 ≤ 2147483647 by omega) (fun H22 hI23 hw24 hv25 => ?_)
          have hf26 : fq [] [374] false H H22 := fq_w hf1 hw24 (fpa (by decide) rfl)
          refine k_run 0 (pc' := 125) (l' := [(0, .inr (.inr 372)), (1, .inl a), (2, .inl b), (3, .inl x3), (4, .inl x4), (5, .inl x5), (6, .inl x6)]) (st' := []) rfl ?_
          refine k_run 2 (pc' := 20) (l' := [(0, .inr (.inr 372)), (1, .inl a), (2, .inl b), (3, .inl x3), (4, .inl (x4 + (-1))), (5, .inl x5), (6, .inl x6)]) (st' := []) rfl ?_
          refine h_loc [0, 1, 2, 3, 4] rfl ?_
          exact ih.1 H22 hI23 hf26 x3 (x4 + (-1)) (by omega) (by omega) (by omega) (by omega) (by have q9 := KT_w (k := x4.toNat) (by rw [show ((x4.toNat : Nat) : Int) = x4 by omega]; exact hkt) hw24 hv25 (by omega) (by omega) (cp_min hi4.1 hsum (by omega)); rw [show ((x4.toNat : Nat) : Int) - 1 = x4 - 1 by omega] at q9; first | exact q9 | (rw [show x4 + -1 = x4 - 1 by omega]; exact q9)) (by omega)
        · refine k_run 0 (pc' := 57) (l' := [(0, .inr (.inr 372)), (1, .inl a), (2, .inl b), (3, .inl x3), (4, .inl x4), (5, .inl x5), (6, .inl x6)]) (st' := []) rfl ?_
          obtain ⟨hg1, hg2⟩ := hc3 x4.toNat (by omega)
          refine k_run 7 (pc' := 70) (l' := [(0, .inr (.inr 372)), (1, .inl a), (2, .inl b), (3, .inl x3), (4, .inl x4), (5, .inl x5), (6, .inl x6)]) (st' := [.inl x4, .inl a, .inr (.inr 13), .inr (.inr 372), .inl x5]) rfl ?_
          refine h_cv (i := 150) (j := 45) (b := 13) (M' := mt_45) (xs := [.inl x4, .inl a]) (rest := [.inr (.inr 372), .inl x5]) rfl rfl rfl rfl (zs_K (x := kx_13) rfl (by decide)) rfl (Nat.le_of_ble_eq_true rfl) (Nat.le_of_ble_eq_true rfl) (by omega) (q_Symbols_argument_13 (by omega) hI1 (by omega) (by omega) (by omega)) ?_
          rintro _ _ ⟨z33, rfl, g27, hx32, rfl⟩
          refine k_run 0 (pc' := 73) (l' := [(0, .inr (.inr 372)), (1, .inl a), (2, .inl b), (3, .inl x3), (4, .inl x4), (5, .inl x5), (6, .inl x6)]) (st' := [.inl z33, .inr (.inr 372), .inl x5]) rfl ?_
          have hag : z33 = agC X a.toNat x4.toNat := by rw [hx32, hkt.2.1 17 _ (by decide), show (4 * a + x4).toNat = 4 * a.toNat + x4.toNat by omega]; exact hc5 x4.toNat (by omega)
          have hag2 : 0 ≤ z33 ∧ z33 < X 0 3 := by rw [hag]; exact ⟨hg1, hg2⟩
          refine k_run 1 (pc' := 75) (l' := [(0, .inr (.inr 372)), (1, .inl a), (2, .inl b), (3, .inl x3), (4, .inl x4), (5, .inl x5), (6, .inl x6)]) (st' := [.inl x6, .inl z33, .inr (.inr 372), .inl x5]) rfl ?_
          refine h_cv (i := 153) (j := 108) (b := 372) (M' := mt_108) (xs := [.inl x6, .inl z33]) (rest := [.inl x5]) rfl rfl rfl rfl (zs_K (x := kx_372) rfl (by decide)) rfl (Nat.le_of_ble_eq_true rfl) (Nat.le_of_ble_eq_true rfl) (by omega) (qv_valuesOf (by omega) hI1 (by omega) (by omega) (by omega) (by omega)) ?_
          rintro _ _ ⟨z40, rfl, g34, rfl⟩
          refine k_run 0 (pc' := 78) (l' := [(0, .inr (.inr 372)), (1, .inl a), (2, .inl b), (3, .inl x3), (4, .inl x4), (5, .inl x5), (6, .inl x6)]) (st' := [.inl z40, .inl x5]) rfl ?_
          refine k_run 8 (pc' := 88) (l' := [(0, .inr (.inr 372)), (1, .inl a), (2, .inl b), (3, .inl x3), (4, .inl x4), (5, .inl x5), (6, .inl x6)]) (st' := [.inl (b - x6), .inl (x4 + 1), .inl a, .inr (.inr 372), .inl z40, .inl x5]) rfl ?_
          refine h_cv (i := 156) (j := 109) (b := 372) (M' := mt_109) (xs := [.inl (b - x6), .inl (x4 + 1), .inl a]) (rest := [.inl z40, .inl x5]) rfl rfl rfl rfl (zs_K (x := kx_372) rfl (by decide)) rfl (Nat.le_of_ble_eq_true rfl) (Nat.le_of_ble_eq_true rfl) (by omega) (qv_tuplesOf (by omega) hI1 (by omega) (by omega) (by omega) (by omega) (by omega) (by omega)) ?_
          rintro _ _ ⟨z47, rfl, g41, rfl⟩
          refine k_run 0 (pc' := 91) (l' := [(0, .inr (.inr 372)), (1, .inl a), (2, .inl b), (3, .inl x3), (4, .inl x4), (5, .inl x5), (6, .inl x6)]) (st' := [.inl z47, .inl z40, .inl x5]) rfl ?_
          have hz1 : z40 = (cN X al (agC X a.toNat x4.toNat) ((x6 - 1).toNat + 1) : Int) := by rw [g34.2, hkt.2.1 373 _ (by decide), KV_v hV hag2 (by omega), hag, show x6.toNat = (x6 - 1).toNat + 1 by omega]
          have hz2 : z47 = (tN X al a.toNat (x4.toNat + 1) (b.toNat - ((x6 - 1).toNat + 1)) : Int) := by rw [g41.2, hkt.2.2.1 _ (fun k9 h9 => by omega), KV_t hV (by omega) (by omega) (by omega), show (x4 + 1).toNat = x4.toNat + 1 by omega, show (b - x6).toNat = b.toNat - ((x6 - 1).toNat + 1) by omega]
          have hup := f9_up (p := z40 * z47) hi4.1 (hi5 (by omega)) hz1 hz2 rfl
          refine k_run 5 (pc' := 45) (l' := [(0, .inr (.inr 372)), (1, .inl a), (2, .inl b), (3, .inl x3), (4, .inl x4), (5, .inl (x5 + (z40 * z47))), (6, .inl (x6 + 1))]) (st' := []) rfl ?_
          exact ih.2 H1 hI1 hf1 x3 x4 (x5 + (z40 * z47)) (x6 + 1) (by omega) (by omega) (by omega) (by omega) (by omega) (by omega) hkt (by omega) (by omega) (fun _ => by rw [show (x6 + 1 - 1).toNat = (x6 - 1).toNat + 1 by omega]; exact hup.1) (by intro q9; exact absurd q9 (by omega)) (by omega)
set_option maxRecDepth 100000 in
theorem qv_countTuples {X : rx} {al : Bool} {d : Nat} (hd : 2 ≤ d) {H : hp} (hI : Inv H) {a : Int} {b : Int} (ha : -2147483648 ≤ a ∧ a ≤ 2147483647) (hb : -2147483648 ≤ b ∧ b ≤ 2147483647) (hp0 : 0 ≤ a ∧ a < X 0 4) (hp1 : 0 ≤ b ∧ b ≤ 5) (hX : CT9 X) (hT : TC H X) (hV : KV H X al b.toNat) : hG (zs zK) d mt_107 0 (zargs 0 [.inr (.inr 372), .inl a, .inl b]) [] H (fun r9 H9 => ∃ z : Int, r9 = some (.inl z) ∧ ((-2147483648 ≤ z ∧ z ≤ 2147483647)) ∧ Inv H9 ∧ fq [] [374] false H H9 ∧ (z = (tN X al a.toNat 0 b.toNat : Int) ∧ KT X al a.toNat b.toNat (-1) H H9)) := by
  obtain ⟨hX3, hX4, hXc⟩ := id hX
  obtain ⟨hc1, hc2, hc3⟩ := hXc a.toNat (by omega)
  obtain ⟨-, -, hc4, hc5⟩ := hT.2.2.1 a.toNat (by omega)
  have haC : (aQ9 X a.toNat : Int) = X 4 a.toNat := by unfold aQ9; omega
  refine k_run 0 (pc' := 0) (l' := [(0, .inr (.inr 372)), (1, .inl a), (2, .inl b)]) (st' := []) rfl ?_
  refine k_run 5 (pc' := 11) (l' := [(0, .inr (.inr 372)), (1, .inl a), (2, .inl b)]) (st' := [.inl a, .inr (.inr 16)]) rfl ?_
  refine k_ild (c := 16) (j := (a).toNat) (i := a) (x := kx_16) rfl rfl (by decide) rfl (by decide) (by omega) (by omega) ?_
  have g1 : 0 ≤ (H.1 16 (a).toNat) ∧ (H.1 16 (a).toNat) ≤ 4 := kn (x := kx_16) hI rfl (a).toNat
  refine k_run 0 (pc' := 12) (l' := [(0, .inr (.inr 372)), (1, .inl a), (2, .inl b)]) (st' := [.inl (H.1 16 (a).toNat)]) rfl ?_
  refine k_run 1 (pc' := 13) (l' := [(0, .inr (.inr 372)), (1, .inl a), (2, .inl b)]) (st' := [.inl 3, .inl (H.1 16 (a).toNat)]) rfl ?_
  refine k_min (i := 101) (x := (H.1 16 (a).toNat)) (y := 3) rfl rfl (Nat.le_of_ble_eq_true rfl) (by omega) (by omega) (by decide) (fun z2 hz2 => ?_)
  refine k_run 0 (pc' := 16) (l' := [(0, .inr (.inr 372)), (1, .inl a), (2, .inl b)]) (st' := [.inl z2]) rfl ?_
  refine k_run 3 (pc' := 20) (l' := [(0, .inr (.inr 372)), (1, .inl a), (2, .inl b), (3, .inl z2), (4, .inl z2)]) (st' := []) rfl ?_
  exact (qv_countTuples_cut hd hI ha hb hp0 hp1 hX hT hV _).1 H hI (fq_rf _ _ _ _) z2 z2 (by omega) (by omega) (by omega) (by omega) ⟨rfl, fun _ _ _ => rfl, fun _ _ => rfl, fun k9 h9 h8 => absurd h9 (by omega)⟩ (Nat.lt_succ_self _)
