/-! the class counts all small values, and rows -/
theorem TC_lo {H H1 : hp} {X : rx} (h : TC H X) (e : ∀ c j, c < 361 → H1.1 c j = H.1 c j) : TC H1 X := by
  obtain ⟨⟨a1, a2, a3, a4, a5⟩, b, c, d, f⟩ := h
  refine ⟨⟨(e _ _ (by decide)).trans a1, (e _ _ (by decide)).trans a2, (e _ _ (by decide)).trans a3, (e _ _ (by decide)).trans a4, (e _ _ (by decide)).trans a5⟩, fun k hk => (e _ _ (by decide)).trans (b k hk), fun k hk => ?_, fun k hk => ?_, fun l hl hl2 => (e _ _ (by omega)).trans (f l hl hl2)⟩
  · obtain ⟨c1, c2, c3, c4⟩ := c k hk
    exact ⟨(e _ _ (by decide)).trans c1, (e _ _ (by decide)).trans c2, (e _ _ (by decide)).trans c3, fun a ha => (e _ _ (by decide)).trans (c4 a ha)⟩
  · obtain ⟨c1, c2, c3, c4⟩ := d k hk
    exact ⟨(e _ _ (by decide)).trans c1, (e _ _ (by decide)).trans c2, (e _ _ (by decide)).trans c3, fun a ha => (e _ _ (by decide)).trans (c4 a ha)⟩
/-- only counts changed -/
def CF9 (H H1 : hp) : Prop := H1.2 = H.2 ∧ ∀ c j, c ≠ 373 → c ≠ 374 → H1.1 c j = H.1 c j
theorem CF9_rf (H : hp) : CF9 H H := ⟨rfl, fun _ _ _ _ => rfl⟩
theorem CF9_w {H H1 H2 : hp} {j : Nat} (h : CF9 H H1) (w : wr 373 j H1 H2) : CF9 H H2 := ⟨w.1.trans h.1, fun c i a b => (w.2 _ _ (fun q => a q.1)).trans (h.2 c i a b)⟩
theorem CF9_t {H H1 H2 : hp} {X : rx} {al : Bool} {c n : Nat} {k : Int} (h : CF9 H H1) (t : KT X al c n k H1 H2) : CF9 H H2 := ⟨t.1.trans h.1, fun c i a b => (t.2.1 c i b).trans (h.2 c i a b)⟩
def uN (al : Bool) (n : Nat) : Nat := if al = true ∧ n = 1 then 1 else 0
def g9 (X : rx) (al : Bool) (t : Int) (m c : Nat) : Nat := if X 3 c = t then (tuC (vv X al) X c 0 m).length else 0
def K2 (X : rx) (al : Bool) (n : Nat) (T : Int) (H1 : hp) : Prop := ∀ t : Nat, (t : Int) < T → H1.1 373 (7 * t + n) = (uN al n : Int)
def K3 (X : rx) (al : Bool) (n c0 : Nat) (H1 : hp) : Prop := (∀ c k : Nat, c < c0 → k ≤ aQ9 X c → H1.1 374 ((4 * c + k) * 7 + (n - 1)) = (tN X al c k (n - 1) : Int)) ∧ ∀ t : Nat, (t : Int) < X 0 3 → H1.1 373 (7 * t + n) = (cp (uN al n + sumN (g9 X al t (n - 1)) c0) : Int)
theorem KV_w {H H1 : hp} {X : rx} {al : Bool} {n t j : Nat} (h : KV H X al (n - 1)) (w : wr 373 j H H1) (hj : j = 7 * t + n) (hn : 1 ≤ n ∧ n ≤ 6) : KV H1 X al (n - 1) := KV_cg h (fun t' m a b c => w.2 _ _ (fun q => by have := q.2; omega)) (fun c k m _ _ _ => w.2 _ _ (fun q => absurd q.1 (by decide)))
theorem KV_k {H H1 : hp} {X : rx} {al : Bool} {n c : Nat} {k0 : Int} (h : KV H X al (n - 1)) (t : KT X al c (n - 1) k0 H H1) (hn : n ≤ 6) (hX : CT9 X) : KV H1 X al (n - 1) := by
  refine KV_cg h (fun t' m a b c => t.2.1 _ _ (by decide)) (fun c' k m a b d => t.2.2.1 _ (fun k' hk' => ?_))
  have h1 := (hX.2.2 c' a).2.1
  have h2 : (aQ9 X c' : Int) = X 4 c' := by unfold aQ9; omega
  omega
theorem K2_w {H1 H2 : hp} {X : rx} {al : Bool} {n j : Nat} {T z : Int} (h : K2 X al n T H1) (w : wr 373 j H1 H2) (v : H2.1 373 j = z) (hT : 0 ≤ T) (hj : j = 7 * T.toNat + n) (hz : z = (uN al n : Int)) : K2 X al n (T + 1) H2 := by
  intro t ht
  by_cases e : t = T.toNat
  · subst e
    rw [← hj, v, hz]
  · rw [w.2 _ _ (fun q => by have := q.2; omega)]
    exact h t (by omega)
theorem uN_le (al : Bool) (n : Nat) : uN al n ≤ 1 := by
  unfold uN
  split <;> omega
theorem K3_0 {H1 : hp} {X : rx} {al : Bool} {n : Nat} {T : Int} (h : K2 X al n T H1) (hT : X 0 3 ≤ T) : K3 X al n 0 H1 := by
  refine ⟨fun c k h _ => absurd h (Nat.not_lt_zero _), fun t ht => ?_⟩
  rw [h t (by omega)]
  have := uN_le al n
  show ((uN al n : Nat) : Int) = ((cp (uN al n + 0) : Nat) : Int)
  unfold cp
  split <;> omega
theorem cp_add2 {x y : Nat} {z : Int} (hz : z ≤ (cp x : Int) + (cp y : Int) ∧ z ≤ 2001 ∧ (z = (cp x : Int) + (cp y : Int) ∨ z = 2001)) : z = (cp (x + y) : Int) := by
  have h1 : cp (cp x + cp y) = cp (x + y) := cp_add (cp_cp x) (cp_cp y)
  rw [← h1]
  show z = ((if cp x + cp y ≤ 2001 then cp x + cp y else 2001 : Nat) : Int)
  split <;> omega
theorem K3_s {H1 H2 H3 : hp} {X : rx} {al : Bool} {n c j : Nat} {z : Int} (h : K3 X al n c H1) (kt : KT X al c (n - 1) (-1) H1 H2) (w : wr 373 j H2 H3) (v : H3.1 373 j = z) (hX : CT9 X) (hc : (c : Int) < X 0 4) (hn : 1 ≤ n ∧ n ≤ 6) (hj : j = 7 * (X 3 c).toNat + n) (hz : z ≤ H2.1 373 j + (tN X al c 0 (n - 1) : Int) ∧ z ≤ 2001 ∧ (z = H2.1 373 j + (tN X al c 0 (n - 1) : Int) ∨ z = 2001)) : K3 X al n (c + 1) H3 := by
  obtain ⟨⟨x1, x2⟩, -, x3⟩ := hX
  obtain ⟨⟨y1, y2⟩, y3, -⟩ := x3 c hc
  refine ⟨fun c' k h1 h2 => ?_, fun t ht => ?_⟩
  · rw [w.2 _ _ (fun q => absurd q.1 (by decide))]
    by_cases e : c' = c
    · subst e
      exact kt.2.2.2 k (by omega) h2
    · rw [kt.2.2.1 _ (fun k' hk' => ?_)]
      · exact h.1 c' k (by omega) h2
      · have h3 := (x3 c' (by omega)).2.1
        have h4 : (aQ9 X c' : Int) = X 4 c' := by unfold aQ9; omega
        omega
  · show H3.1 373 (7 * t + n) = ((cp (uN al n + (sumN (g9 X al t (n - 1)) c + g9 X al t (n - 1) c)) : Nat) : Int)
    rw [← Nat.add_assoc]
    by_cases e : X 3 c = (t : Int)
    · have e2 : 7 * t + n = j := by rw [hj, e]; rfl
      have e3 : g9 X al t (n - 1) c = (tuC (vv X al) X c 0 (n - 1)).length := if_pos e
      have e4 : H2.1 373 j = ((cp (uN al n + sumN (g9 X al t (n - 1)) c) : Nat) : Int) := by
        rw [kt.2.1 _ _ (by decide), ← e2]
        exact h.2 t ht
      rw [e2, v, e3]
      rw [e4] at hz
      exact cp_add2 hz
    · have e3 : g9 X al t (n - 1) c = 0 := if_neg e
      rw [e3, Nat.add_zero, w.2 _ _ (fun q => by have q2 := q.2; rw [hj] at q2; exact e (by omega)), kt.2.1 _ _ (by decide)]
      exact h.2 t ht
theorem KV_K3 {H : hp} {X : rx} {al : Bool} {n c0 : Nat} (h : KV H X al (n - 1)) (g : K3 X al n c0 H) (hn : 1 ≤ n) (hc : X 0 4 ≤ c0 ∧ (c0 : Int) ≤ X 0 4) : KV H X al n := by
  have e0 : c0 = nC9 X := by unfold nC9; omega
  refine ⟨fun t m a b c => ?_, fun c k m a b d => ?_⟩
  · by_cases e : m = n
    · subst e
      rw [g.2 t a]
      unfold cN
      obtain ⟨n', rfl⟩ : ∃ n', m = n' + 1 := ⟨m - 1, by omega⟩
      rw [vv_sz, e0]
      rfl
    · exact h.1 t m a b (by omega)
  · by_cases e : m = n - 1
    · subst e
      exact g.1 c k (by omega) b
    · exact h.2 c k m a b (by omega)
theorem KV_le {H : hp} {X : rx} {al : Bool} {n m : Nat} (h : KV H X al n) (hm : m ≤ n) : KV H X al m := ⟨fun t i a b c => h.1 t i a b (by omega), fun c k i a b d => h.2 c k i a b (by omega)⟩

/-! Trial.countValues -/
set_option maxRecDepth 100000 in
theorem qv_countValues_cut {X : rx} {al : Bool} {d : Nat} (hd : 3 ≤ d) {H : hp} (hI : Inv H) {a : Int} (ha : -2147483648 ≤ a ∧ a ≤ 2147483647) (hp0 : 1 ≤ a ∧ a ≤ 6) (hX : CT9 X) (hT : TC H X) (hal : (al = false → H.1 372 9 = 0) ∧ (al = true → H.1 372 9 = 1)) : ∀ w : Nat, (∀ (H1 : hp), Inv H1 → fq [] [373, 374] false H H1 → ∀ (x2 : Int) , (-2147483648 ≤ x2 ∧ x2 ≤ 2147483647) → (1 ≤ x2 ∧ x2 ≤ a + 1) → (KV H1 X al (x2.toNat - 1)) → (CF9 H H1) → (((10000 * (10 - x2) + 9000).toNat) < w) → hG (zs zK) d mt_106 2 [(0, .inr (.inr 372)), (1, .inl a), (2, .inl x2)] [] H1 (fun r9 H9 => r9 = none ∧ Inv H9 ∧ fq [] [373, 374] false H H9 ∧ (KV H9 X al a.toNat ∧ CF9 H H9))) ∧ (∀ (H1 : hp), Inv H1 → fq [] [373, 374] false H H1 → ∀ (x2 : Int) (x3 : Int) , (-2147483648 ≤ x2 ∧ x2 ≤ 2147483647) → (-2147483648 ≤ x3 ∧ x3 ≤ 2147483647) → (1 ≤ x2 ∧ x2 ≤ a) → (0 ≤ x3 ∧ x3 ≤ X 0 3) → (KV H1 X al (x2.toNat - 1)) → (CF9 H H1) → (K2 X al x2.toNat x3 H1) → (((10000 * (10 - x2) + 5000 - x3).toNat) < w) → hG (zs zK) d mt_106 9 [(0, .inr (.inr 372)), (1, .inl a), (2, .inl x2), (3, .inl x3)] [] H1 (fun r9 H9 => r9 = none ∧ Inv H9 ∧ fq [] [373, 374] false H H9 ∧ (KV H9 X al a.toNat ∧ CF9 H H9))) ∧ (∀ (H1 : hp), Inv H1 → fq [] [373, 374] false H H1 → ∀ (x2 : Int) (x3 : Int) , (-2147483648 ≤ x2 ∧ x2 ≤ 2147483647) → (-2147483648 ≤ x3 ∧ x3 ≤ 2147483647) → (1 ≤ x2 ∧ x2 ≤ a) → (0 ≤ x3 ∧ x3 ≤ X 0 4) → (KV H1 X al (x2.toNat - 1)) → (CF9 H H1) → (K3 X al x2.toNat x3.toNat H1) → (((10000 * (10 - x2) + 1000 - x3).toNat) < w) → hG (zs zK) d mt_106 59 [(0, .inr (.inr 372)), (1, .inl a), (2, .inl x2), (3, .inl x3)] [] H1 (fun r9 H9 => r9 = none ∧ Inv H9 ∧ fq [] [373, 374] false H H9 ∧ (KV H9 X al a.toNat ∧ CF9 H H9))) := by
  intro w
  induction w with
  | zero => exact ⟨fun _ _ _ _ _ _ _ _ h => absurd h (Nat.not_lt_zero _), fun _ _ _ _ _ _ _ _ _ _ _ _ h => absurd h (Nat.not_lt_zero _), fun _ _ _ _ _ _ _ _ _ _ _ _ h => absurd h (Nat.not_lt_zero _)⟩
  | succ w ih =>
    refine ⟨?_, ?_, ?_⟩
    · intro H1 hI1 hf1 x2 hx2 hi0 hi1 hi2 hw
      obtain ⟨hX3, hX4, hXc⟩ := id hX
      have hT0 := hT.1
      have hcf := hi2
      have hT1 : TC H1 X := TC_lo hT (fun c j hc => hcf.2 c j (by omega) (by omega))
      have hT10 := hT1.1
      have hu9 : H1.1 372 9 = H.1 372 9 := hcf.2 _ _ (by decide) (by decide)
      have hkv := hi1
      refine k_run 2 (pc' := 4) (l' := [(0, .inr (.inr 372)), (1, .inl a), (2, .inl x2)]) (st' := [.inl a, .inl x2]) rfl ?_
      refine h_igt (off := 148) (t := 152) rfl rfl (by omega) (by omega) (fun c1 => ?_) (fun c1 => ?_)
      · refine k_run 0 (pc' := 152) (l' := [(0, .inr (.inr 372)), (1, .inl a), (2, .inl x2)]) (st' := []) rfl ?_
        refine h_ret rfl rfl ?_
        exact ⟨rfl, hI1, hf1, ⟨by rw [show a.toNat = x2.toNat - 1 by omega]; exact hkv, hcf⟩⟩
      · refine k_run 0 (pc' := 7) (l' := [(0, .inr (.inr 372)), (1, .inl a), (2, .inl x2)]) (st' := []) rfl ?_
        refine k_run 2 (pc' := 9) (l' := [(0, .inr (.inr 372)), (1, .inl a), (2, .inl x2), (3, .inl 0)]) (st' := []) rfl ?_
        exact ih.2.1 H1 hI1 hf1 x2 (0 : Int) (by omega) (by decide) (by omega) (by omega) hkv hcf (fun t9 h9 => absurd h9 (by omega)) (by omega)
    · intro H1 hI1 hf1 x2 x3 hx2 hx3 hi0 hi1 hi2 hi3 hi4 hw
      obtain ⟨hX3, hX4, hXc⟩ := id hX
      have hT0 := hT.1
      have hcf := hi3
      have hT1 : TC H1 X := TC_lo hT (fun c j hc => hcf.2 c j (by omega) (by omega))
      have hT10 := hT1.1
      have hu9 : H1.1 372 9 = H.1 372 9 := hcf.2 _ _ (by decide) (by decide)
      have hkv := hi2
      have hk2 := hi4
      refine k_run 5 (pc' := 20) (l' := [(0, .inr (.inr 372)), (1, .inl a), (2, .inl x2), (3, .inl x3)]) (st' := [.inl (H1.1 8 4), .inl x3]) rfl ?_
      have g2 : 0 ≤ (H1.1 8 4) ∧ (H1.1 8 4) ≤ 6 := kn (x := kx_8) hI1 rfl 4
      have e3 : (H1.1 8 4) = (H.1 8 4) := (hf1.1 8 4 rfl (by decide) (by decide)).1
      refine h_ige (off := 37) (t := 57) rfl rfl (by omega) (by omega) (fun c4 => ?_) (fun c4 => ?_)
      · refine k_run 0 (pc' := 57) (l' := [(0, .inr (.inr 372)), (1, .inl a), (2, .inl x2), (3, .inl x3)]) (st' := []) rfl ?_
        refine k_run 2 (pc' := 59) (l' := [(0, .inr (.inr 372)), (1, .inl a), (2, .inl x2), (3, .inl 0)]) (st' := []) rfl ?_
        exact ih.2.2 H1 hI1 hf1 x2 (0 : Int) (by omega) (by decide) (by omega) (by omega) hkv hcf (K3_0 hk2 (by omega)) (by omega)
      · refine k_run 0 (pc' := 23) (l' := [(0, .inr (.inr 372)), (1, .inl a), (2, .inl x2), (3, .inl x3)]) (st' := []) rfl ?_
        refine k_run 9 (pc' := 37) (l' := [(0, .inr (.inr 372)), (1, .inl a), (2, .inl x2), (3, .inl x3)]) (st' := [.inl (H1.1 372 9), .inl ((x3 * 7) + x2), .inr (.inr 373)]) rfl ?_
        have g5 : 0 ≤ (H1.1 372 9) ∧ (H1.1 372 9) ≤ 1 := kn (x := kx_372) hI1 rfl 9
        have e6 : (H1.1 372 9) = (H.1 372 9) := (hf1.1 372 9 rfl (by decide) (by decide)).1
        refine h_zeq (off := 12) (t := 49) rfl rfl (by omega) (fun c7 => ?_) (fun c7 => ?_)
        · refine k_run 0 (pc' := 49) (l' := [(0, .inr (.inr 372)), (1, .inl a), (2, .inl x2), (3, .inl x3)]) (st' := [.inl ((x3 * 7) + x2), .inr (.inr 373)]) rfl ?_
          refine k_run 1 (pc' := 50) (l' := [(0, .inr (.inr 372)), (1, .inl a), (2, .inl x2), (3, .inl x3)]) (st' := [.inl 0, .inl ((x3 * 7) + x2), .inr (.inr 373)]) rfl ?_
          have hun : (0 : Int) = (uN al x2.toNat : Int) := by unfold uN; cases al; { have q9 := hal.1 rfl; first | (exfalso; omega) | (rw [if_neg (fun q8 => absurd q8.1 (by decide))]; rfl) }; { have q9 := hal.2 rfl; first | (exfalso; omega) | (rw [if_pos ⟨rfl, by omega⟩]; rfl) | (rw [if_neg (fun q8 => by have := q8.2; omega)]; rfl) }
          refine k_ist (z := 0) (c := 373) (j := (((x3 * 7) + x2)).toNat) (i := ((x3 * 7) + x2)) (x := kx_373) rfl rfl (by decide) (by decide) rfl (by decide) (by omega) (by omega) hI1 (by decide) (show -2147483648 ≤ (0 : Int) ∧ (0 : Int) ≤ 2147483647 by omega) (fun H8 hI9 hw10 hv11 => ?_)
          have hf12 : fq [] [373, 374] false H H8 := fq_w hf1 hw10 (fpa (by decide) rfl)
          refine k_run 0 (pc' := 51) (l' := [(0, .inr (.inr 372)), (1, .inl a), (2, .inl x2), (3, .inl x3)]) (st' := []) rfl ?_
          refine k_run 2 (pc' := 9) (l' := [(0, .inr (.inr 372)), (1, .inl a), (2, .inl x2), (3, .inl (x3 + 1))]) (st' := []) rfl ?_
          exact ih.2.1 H8 hI9 hf12 x2 (x3 + 1) (by omega) (by omega) (by omega) (by omega) (KV_w (t := x3.toNat) hkv hw10 (by omega) (by omega)) (CF9_w hcf hw10) (K2_w hk2 hw10 hv11 (by omega) (by omega) hun) (by omega)
        · refine k_run 0 (pc' := 40) (l' := [(0, .inr (.inr 372)), (1, .inl a), (2, .inl x2), (3, .inl x3)]) (st' := [.inl ((x3 * 7) + x2), .inr (.inr 373)]) rfl ?_
          refine k_run 2 (pc' := 42) (l' := [(0, .inr (.inr 372)), (1, .inl a), (2, .inl x2), (3, .inl x3)]) (st' := [.inl 1, .inl x2, .inl ((x3 * 7) + x2), .inr (.inr 373)]) rfl ?_
          refine h_ine (off := 7) (t := 49) rfl rfl (by omega) (by decide) (fun c13 => ?_) (fun c13 => ?_)
          · refine k_run 0 (pc' := 49) (l' := [(0, .inr (.inr 372)), (1, .inl a), (2, .inl x2), (3, .inl x3)]) (st' := [.inl ((x3 * 7) + x2), .inr (.inr 373)]) rfl ?_
            refine k_run 1 (pc' := 50) (l' := [(0, .inr (.inr 372)), (1, .inl a), (2, .inl x2), (3, .inl x3)]) (st' := [.inl 0, .inl ((x3 * 7) + x2), .inr (.inr 373)]) rfl ?_
            have hun : (0 : Int) = (uN al x2.toNat : Int) := by unfold uN; cases al; { have q9 := hal.1 rfl; first | (exfalso; omega) | (rw [if_neg (fun q8 => absurd q8.1 (by decide))]; rfl) }; { have q9 := hal.2 rfl; first | (exfalso; omega) | (rw [if_pos ⟨rfl, by omega⟩]; rfl) | (rw [if_neg (fun q8 => by have := q8.2; omega)]; rfl) }
            refine k_ist (z := 0) (c := 373) (j := (((x3 * 7) + x2)).toNat) (i := ((x3 * 7) + x2)) (x := kx_373) rfl rfl (by decide) (by decide) rfl (by decide) (by omega) (by omega) hI1 (by decide) (show -2147483648 ≤ (0 : Int) ∧ (0 : Int) ≤ 2147483647 by omega) (fun H14 hI15 hw16 hv17 => ?_)
            have hf18 : fq [] [373, 374] false H H14 := fq_w hf1 hw16 (fpa (by decide) rfl)
            refine k_run 0 (pc' := 51) (l' := [(0, .inr (.inr 372)), (1, .inl a), (2, .inl x2), (3, .inl x3)]) (st' := []) rfl ?_
            refine k_run 2 (pc' := 9) (l' := [(0, .inr (.inr 372)), (1, .inl a), (2, .inl x2), (3, .inl (x3 + 1))]) (st' := []) rfl ?_
            exact ih.2.1 H14 hI15 hf18 x2 (x3 + 1) (by omega) (by omega) (by omega) (by omega) (KV_w (t := x3.toNat) hkv hw16 (by omega) (by omega)) (CF9_w hcf hw16) (K2_w hk2 hw16 hv17 (by omega) (by omega) hun) (by omega)
          · refine k_run 0 (pc' := 45) (l' := [(0, .inr (.inr 372)), (1, .inl a), (2, .inl x2), (3, .inl x3)]) (st' := [.inl ((x3 * 7) + x2), .inr (.inr 373)]) rfl ?_
            refine k_run 2 (pc' := 50) (l' := [(0, .inr (.inr 372)), (1, .inl a), (2, .inl x2), (3, .inl x3)]) (st' := [.inl 1, .inl ((x3 * 7) + x2), .inr (.inr 373)]) rfl ?_
            have hun : (1 : Int) = (uN al x2.toNat : Int) := by unfold uN; cases al; { have q9 := hal.1 rfl; first | (exfalso; omega) | (rw [if_neg (fun q8 => absurd q8.1 (by decide))]; rfl) }; { have q9 := hal.2 rfl; first | (exfalso; omega) | (rw [if_pos ⟨rfl, by omega⟩]; rfl) | (rw [if_neg (fun q8 => by have := q8.2; omega)]; rfl) }
            refine k_ist (z := 1) (c := 373) (j := (((x3 * 7) + x2)).toNat) (i := ((x3 * 7) + x2)) (x := kx_373) rfl rfl (by decide) (by decide) rfl (by decide) (by omega) (by omega) hI1 (by decide) (show -2147483648 ≤ (1 : Int) ∧ (1 : Int) ≤ 2147483647 by omega) (fun H19 hI20 hw21 hv22 => ?_)
            have hf23 : fq [] [373, 374] false H H19 := fq_w hf1 hw21 (fpa (by decide) rfl)
            refine k_run 0 (pc' := 51) (l' := [(0, .inr (.inr 372)), (1, .inl a), (2, .inl x2), (3, .inl x3)]) (st' := []) rfl ?_
            refine k_run 2 (pc' := 9) (l' := [(0, .inr (.inr 372)), (1, .inl a), (2, .inl x2), (3, .inl (x3 + 1))]) (st' := []) rfl ?_
            exact ih.2.1 H19 hI20 hf23 x2 (x3 + 1) (by omega) (by omega) (by omega) (by omega) (KV_w (t := x3.toNat) hkv hw21 (by omega) (by omega)) (CF9_w hcf hw21) (K2_w hk2 hw21 hv22 (by omega) (by omega) hun) (by omega)
    · intro H1 hI1 hf1 x2 x3 hx2 hx3 hi0 hi1 hi2 hi3 hi4 hw
      obtain ⟨hX3, hX4, hXc⟩ := id hX
      have hT0 := hT.1
      have hcf := hi3
      have hT1 : TC H1 X := TC_lo hT (fun c j hc => hcf.2 c j (by omega) (by omega))
      have hT10 := hT1.1
      have hu9 : H1.1 372 9 = H.1 372 9 := hcf.2 _ _ (by decide) (by decide)
      have hkv := hi2
      have hk3 := hi4
      refine k_run 5 (pc' := 70) (l' := [(0, .inr (.inr 372)), (1, .inl a), (2, .inl x2), (3, .inl x3)]) (st' := [.inl (H1.1 13 4), .inl x3]) rfl ?_
      have g24 : 0 ≤ (H1.1 13 4) ∧ (H1.1 13 4) ≤ 16 := kn (x := kx_13) hI1 rfl 4
      have e25 : (H1.1 13 4) = (H.1 13 4) := (hf1.1 13 4 rfl (by decide) (by decide)).1
      refine h_ige (off := 76) (t := 146) rfl rfl (by omega) (by omega) (fun c26 => ?_) (fun c26 => ?_)
      · refine k_run 0 (pc' := 146) (l' := [(0, .inr (.inr 372)), (1, .inl a), (2, .inl x2), (3, .inl x3)]) (st' := []) rfl ?_
        refine k_run 2 (pc' := 2) (l' := [(0, .inr (.inr 372)), (1, .inl a), (2, .inl (x2 + 1)), (3, .inl x3)]) (st' := []) rfl ?_
        refine h_loc [0, 1, 2] rfl ?_
        exact ih.1 H1 hI1 hf1 (x2 + 1) (by omega) (by omega) (by rw [show (x2 + 1).toNat - 1 = x2.toNat by omega]; exact KV_K3 hkv hk3 (by omega) (by omega)) hcf (by omega)
      · refine k_run 0 (pc' := 73) (l' := [(0, .inr (.inr 372)), (1, .inl a), (2, .inl x2), (3, .inl x3)]) (st' := []) rfl ?_
        obtain ⟨hc1, hc2, hc3⟩ := hXc x3.toNat (by omega)
        obtain ⟨-, hc4, -, -⟩ := hT1.2.2.1 x3.toNat (by omega)
        refine k_run 5 (pc' := 84) (l' := [(0, .inr (.inr 372)), (1, .inl a), (2, .inl x2), (3, .inl x3)]) (st' := [.inl x3, .inr (.inr 15)]) rfl ?_
        refine k_ild (c := 15) (j := (x3).toNat) (i := x3) (x := kx_15) rfl rfl (by decide) rfl (by decide) (by omega) (by omega) ?_
        have g27 : -2 ≤ (H1.1 15 (x3).toNat) ∧ (H1.1 15 (x3).toNat) ≤ 100 := kn (x := kx_15) hI1 rfl (x3).toNat
        have e28 : (H1.1 15 (x3).toNat) = (H.1 15 (x3).toNat) := (hf1.1 15 (x3).toNat rfl (by decide) (fun q => by simp at q)).1
        refine k_run 0 (pc' := 85) (l' := [(0, .inr (.inr 372)), (1, .inl a), (2, .inl x2), (3, .inl x3)]) (st' := [.inl (H1.1 15 (x3).toNat)]) rfl ?_
        refine k_run 10 (pc' := 97) (l' := [(0, .inr (.inr 372)), (1, .inl a), (2, .inl x2), (3, .inl x3), (4, .inl (((H1.1 15 (x3).toNat) * 7) + x2))]) (st' := [.inl (x2 - 1), .inl x3, .inr (.inr 372)]) rfl ?_
        refine h_cv (i := 144) (j := 107) (b := 372) (M' := mt_107) (xs := [.inl (x2 - 1), .inl x3]) (rest := []) rfl rfl rfl rfl (zs_K (x := kx_372) rfl (by decide)) rfl (Nat.le_of_ble_eq_true rfl) (Nat.le_of_ble_eq_true rfl) (by omega) (qv_countTuples (by omega) hI1 (by omega) (by omega) (by omega) (by omega) hX hT1 (by rw [show (x2 - 1).toNat = x2.toNat - 1 by omega]; exact hkv)) ?_
        rintro _ H30 ⟨z35, rfl, g29, hI31, hq32, hx34⟩
        have hf36 : fq [] [373, 374] false H H30 := fq_t hf1 hq32 rfl rfl rfl
        refine k_run 0 (pc' := 100) (l' := [(0, .inr (.inr 372)), (1, .inl a), (2, .inl x2), (3, .inl x3), (4, .inl (((H1.1 15 (x3).toNat) * 7) + x2))]) (st' := [.inl z35]) rfl ?_
        obtain ⟨hzt, hkt⟩ := hx34
        rw [show (x2 - 1).toNat = x2.toNat - 1 by omega] at hzt hkt
        have htb : tN X al x3.toNat 0 (x2.toNat - 1) ≤ 2001 := cp_le _
        have hvb : 0 ≤ H1.1 373 (H1.1 15 x3.toNat * 7 + x2).toNat ∧ H1.1 373 (H1.1 15 x3.toNat * 7 + x2).toNat ≤ 2001 := by rw [show (H1.1 15 x3.toNat * 7 + x2).toNat = 7 * (X 3 x3.toNat).toNat + x2.toNat by omega, hk3.2 _ (by omega)]; have q9 := cp_le (uN al x2.toNat + sumN (g9 X al (((X 3 x3.toNat).toNat : Nat) : Int) (x2.toNat - 1)) x3.toNat); omega
        refine k_run 2 (pc' := 104) (l' := [(0, .inr (.inr 372)), (1, .inl a), (2, .inl x2), (3, .inl x3), (4, .inl (((H1.1 15 (x3).toNat) * 7) + x2)), (5, .inl z35)]) (st' := [.inl (((H1.1 15 (x3).toNat) * 7) + x2)]) rfl ?_
        refine h_zlt (off := 36) (t := 140) rfl rfl (by omega) (fun c37 => ?_) (fun c37 => ?_)
        · refine k_run 0 (pc' := 140) (l' := [(0, .inr (.inr 372)), (1, .inl a), (2, .inl x2), (3, .inl x3), (4, .inl (((H1.1 15 (x3).toNat) * 7) + x2)), (5, .inl z35)]) (st' := []) rfl ?_
          exfalso
          omega
        · refine k_run 0 (pc' := 107) (l' := [(0, .inr (.inr 372)), (1, .inl a), (2, .inl x2), (3, .inl x3), (4, .inl (((H1.1 15 (x3).toNat) * 7) + x2)), (5, .inl z35)]) (st' := []) rfl ?_
          refine k_run 3 (pc' := 113) (l' := [(0, .inr (.inr 372)), (1, .inl a), (2, .inl x2), (3, .inl x3), (4, .inl (((H1.1 15 (x3).toNat) * 7) + x2)), (5, .inl z35)]) (st' := [.inr (.inr 373), .inl (((H1.1 15 (x3).toNat) * 7) + x2)]) rfl ?_
          refine k_alen (c := 373) (x := kx_373) rfl rfl (by decide) rfl ?_
          refine k_run 0 (pc' := 114) (l' := [(0, .inr (.inr 372)), (1, .inl a), (2, .inl x2), (3, .inl x3), (4, .inl (((H1.1 15 (x3).toNat) * 7) + x2)), (5, .inl z35)]) (st' := [.inl 42, .inl (((H1.1 15 (x3).toNat) * 7) + x2)]) rfl ?_
          refine h_ige (off := 26) (t := 140) rfl rfl (by omega) (by decide) (fun c38 => ?_) (fun c38 => ?_)
          · refine k_run 0 (pc' := 140) (l' := [(0, .inr (.inr 372)), (1, .inl a), (2, .inl x2), (3, .inl x3), (4, .inl (((H1.1 15 (x3).toNat) * 7) + x2)), (5, .inl z35)]) (st' := []) rfl ?_
            exfalso
            omega
          · refine k_run 0 (pc' := 117) (l' := [(0, .inr (.inr 372)), (1, .inl a), (2, .inl x2), (3, .inl x3), (4, .inl (((H1.1 15 (x3).toNat) * 7) + x2)), (5, .inl z35)]) (st' := []) rfl ?_
            refine k_run 6 (pc' := 129) (l' := [(0, .inr (.inr 372)), (1, .inl a), (2, .inl x2), (3, .inl x3), (4, .inl (((H1.1 15 (x3).toNat) * 7) + x2)), (5, .inl z35)]) (st' := [.inl (((H1.1 15 (x3).toNat) * 7) + x2), .inr (.inr 373), .inl (((H1.1 15 (x3).toNat) * 7) + x2), .inr (.inr 373)]) rfl ?_
            refine k_ild (c := 373) (j := ((((H1.1 15 (x3).toNat) * 7) + x2)).toNat) (i := (((H1.1 15 (x3).toNat) * 7) + x2)) (x := kx_373) rfl rfl (by decide) rfl (by decide) (by omega) (by omega) ?_
            have g39 : -2147483648 ≤ (H30.1 373 ((((H1.1 15 (x3).toNat) * 7) + x2)).toNat) ∧ (H30.1 373 ((((H1.1 15 (x3).toNat) * 7) + x2)).toNat) ≤ 2147483647 := kn (x := kx_373) hI31 rfl ((((H1.1 15 (x3).toNat) * 7) + x2)).toNat
            have e40 : (H30.1 373 ((((H1.1 15 (x3).toNat) * 7) + x2)).toNat) = (H1.1 373 ((((H1.1 15 (x3).toNat) * 7) + x2)).toNat) := (hq32.1 373 ((((H1.1 15 (x3).toNat) * 7) + x2)).toNat rfl (by decide) (fun q => by simp at q)).1
            refine k_run 0 (pc' := 130) (l' := [(0, .inr (.inr 372)), (1, .inl a), (2, .inl x2), (3, .inl x3), (4, .inl (((H1.1 15 (x3).toNat) * 7) + x2)), (5, .inl z35)]) (st' := [.inl (H30.1 373 ((((H1.1 15 (x3).toNat) * 7) + x2)).toNat), .inl (((H1.1 15 (x3).toNat) * 7) + x2), .inr (.inr 373)]) rfl ?_
            refine k_run 3 (pc' := 136) (l' := [(0, .inr (.inr 372)), (1, .inl a), (2, .inl x2), (3, .inl x3), (4, .inl (((H1.1 15 (x3).toNat) * 7) + x2)), (5, .inl z35)]) (st' := [.inl 2001, .inl ((H30.1 373 ((((H1.1 15 (x3).toNat) * 7) + x2)).toNat) + z35), .inl (((H1.1 15 (x3).toNat) * 7) + x2), .inr (.inr 373)]) rfl ?_
            refine k_min (i := 101) (x := ((H30.1 373 ((((H1.1 15 (x3).toNat) * 7) + x2)).toNat) + z35)) (y := 2001) rfl rfl (Nat.le_of_ble_eq_true rfl) (by omega) (by omega) (by decide) (fun z41 hz41 => ?_)
            refine k_run 0 (pc' := 139) (l' := [(0, .inr (.inr 372)), (1, .inl a), (2, .inl x2), (3, .inl x3), (4, .inl (((H1.1 15 (x3).toNat) * 7) + x2)), (5, .inl z35)]) (st' := [.inl z41, .inl (((H1.1 15 (x3).toNat) * 7) + x2), .inr (.inr 373)]) rfl ?_
            refine k_ist (z := z41) (c := 373) (j := ((((H1.1 15 (x3).toNat) * 7) + x2)).toNat) (i := (((H1.1 15 (x3).toNat) * 7) + x2)) (x := kx_373) rfl rfl (by decide) (by decide) rfl (by decide) (by omega) (by omega) hI31 (by omega) (show -2147483648 ≤ z41 ∧ z41 ≤ 2147483647 by omega) (fun H42 hI43 hw44 hv45 => ?_)
            have hf46 : fq [] [373, 374] false H H42 := fq_w hf36 hw44 (fpa (by decide) rfl)
            refine k_run 0 (pc' := 140) (l' := [(0, .inr (.inr 372)), (1, .inl a), (2, .inl x2), (3, .inl x3), (4, .inl (((H1.1 15 (x3).toNat) * 7) + x2)), (5, .inl z35)]) (st' := []) rfl ?_
            refine k_run 2 (pc' := 59) (l' := [(0, .inr (.inr 372)), (1, .inl a), (2, .inl x2), (3, .inl (x3 + 1)), (4, .inl (((H1.1 15 (x3).toNat) * 7) + x2)), (5, .inl z35)]) (st' := []) rfl ?_
            refine h_loc [0, 1, 2, 3] rfl ?_
            exact ih.2.2 H42 hI43 hf46 x2 (x3 + 1) (by omega) (by omega) (by omega) (by omega) (KV_w (t := (X 3 x3.toNat).toNat) (KV_k hkv hkt (by omega) hX) hw44 (by omega) (by omega)) (CF9_w (CF9_t hcf hkt) hw44) (by rw [show (x3 + 1).toNat = x3.toNat + 1 by omega]; exact K3_s hk3 hkt hw44 hv45 hX (by omega) (by omega) (by omega) (by rw [← hzt]; omega)) (by omega)
set_option maxRecDepth 100000 in
theorem qv_countValues {X : rx} {al : Bool} {d : Nat} (hd : 3 ≤ d) {H : hp} (hI : Inv H) {a : Int} (ha : -2147483648 ≤ a ∧ a ≤ 2147483647) (hp0 : 1 ≤ a ∧ a ≤ 6) (hX : CT9 X) (hT : TC H X) (hal : (al = false → H.1 372 9 = 0) ∧ (al = true → H.1 372 9 = 1)) : hG (zs zK) d mt_106 0 (zargs 0 [.inr (.inr 372), .inl a]) [] H (fun r9 H9 => r9 = none ∧ Inv H9 ∧ fq [] [373, 374] false H H9 ∧ (KV H9 X al a.toNat ∧ CF9 H H9)) := by
  refine k_run 0 (pc' := 0) (l' := [(0, .inr (.inr 372)), (1, .inl a)]) (st' := []) rfl ?_
  refine k_run 2 (pc' := 2) (l' := [(0, .inr (.inr 372)), (1, .inl a), (2, .inl 1)]) (st' := []) rfl ?_
  exact (qv_countValues_cut hd hI ha hp0 hX hT hal _).1 H hI (fq_rf _ _ _ _) (1 : Int) (by decide) (by omega) ⟨fun t9 m9 _ h9 h8 => absurd h8 (by show ¬ m9 ≤ 0; omega), fun c9 k9 m9 _ _ h9 => absurd h9 (Nat.not_lt_zero _)⟩ (CF9_rf _) (Nat.lt_succ_self _)

theorem tot_sum {X : rx} {al : Bool} {ty : Nat → Int} {n v : Nat} : tot9 X al ty n v = sumN (fun i => (vv X al (i + 1) (ty v)).length) n := fmN_len _ _
/-- a law's variables, as the class keeps them -/
def LV9 (H : hp) (X : rx) (e nv : Nat) (ty : Nat → Int) : Prop := (H.1 e 3 = (nv : Int) ∧ nv ≤ 6) ∧ ∀ v : Nat, v < nv → H.1 (e + 5) v = ty v ∧ 0 ≤ ty v ∧ ty v < X 0 3
theorem LV_cg {H H1 : hp} {X : rx} {e nv : Nat} {ty : Nat → Int} (h : LV9 H X e nv ty) (h1 : ∀ j, H1.1 e j = H.1 e j) (h2 : ∀ j, H1.1 (e + 5) j = H.1 (e + 5) j) : LV9 H1 X e nv ty := ⟨⟨(h1 _).trans h.1.1, h.1.2⟩, fun v hv => ⟨(h2 _).trans (h.2 v hv).1, (h.2 v hv).2⟩⟩
def TF9 (H H1 : hp) : Prop := H1.2 = H.2 ∧ ∀ c j, c ≠ 375 → H1.1 c j = H.1 c j
theorem TF9_w {H H1 H2 : hp} {j : Nat} (h : TF9 H H1) (w : wr 375 j H1 H2) : TF9 H H2 := ⟨w.1.trans h.1, fun c i a => (w.2 _ _ (fun q => a q.1)).trans (h.2 c i a)⟩
theorem cp_pm {x y : Nat} {z s1 s2 : Int} (h1 : s1 = (cp x : Int)) (h2 : s2 = (cp y : Int)) (hz : z ≤ s1 * s2 ∧ z ≤ 2001 ∧ (z = s1 * s2 ∨ z = 2001)) : z = (cp (x * y) : Int) := by
  have e : s1 * s2 = ((cp x * cp y : Nat) : Int) := by rw [h1, h2]; exact (Int.natCast_mul _ _).symm
  rw [e] at hz
  rw [← cp_mul]
  show z = ((if cp x * cp y ≤ 2001 then cp x * cp y else 2001 : Nat) : Int)
  split <;> omega

/-! Trial.countRows -/
set_option maxRecDepth 100000 in
theorem qv_countRows_cut {X : rx} {al : Bool} {nv : Nat} {ty : Nat → Int} {d : Nat} (hd : 2 ≤ d) {H : hp} (hI : Inv H) {e : Nat} {b : Int} (he : isE e) (hb : -2147483648 ≤ b ∧ b ≤ 2147483647) (hp0 : 1 ≤ b ∧ b ≤ 6) (hX : CT9 X) (he9 : e + 5 < 375) (hV : KV H X al b.toNat) (hL : LV9 H X e nv ty) : ∀ w : Nat, (∀ (H1 : hp), Inv H1 → fq [] [375] false H H1 → ∀ (x3 : Int) (x4 : Int) , (-2147483648 ≤ x3 ∧ x3 ≤ 2147483647) → (-2147483648 ≤ x4 ∧ x4 ≤ 2147483647) → (0 ≤ x4 ∧ x4 ≤ nv) → (TF9 H H1) → (x3 = (cp (prN (tot9 X al ty b.toNat) x4.toNat) : Int)) → (∀ v : Nat, (v : Int) < x4 → H1.1 375 v = (cp (tot9 X al ty b.toNat v) : Int)) → (((1000 * (100 - x4) + 500).toNat) < w) → hG (zs zK) d mt_110 5 [(0, .inr (.inr 372)), (1, .inr (.inr e)), (2, .inl b), (3, .inl x3), (4, .inl x4)] [] H1 (fun r9 H9 => ∃ z : Int, r9 = some (.inl z) ∧ ((-2147483648 ≤ z ∧ z ≤ 2147483647)) ∧ Inv H9 ∧ fq [] [375] false H H9 ∧ (z = (cp (prN (tot9 X al ty b.toNat) nv) : Int) ∧ (∀ v : Nat, v < nv → H9.1 375 v = (cp (tot9 X al ty b.toNat v) : Int)) ∧ TF9 H H9))) ∧ (∀ (H1 : hp), Inv H1 → fq [] [375] false H H1 → ∀ (x3 : Int) (x4 : Int) (x5 : Int) (x6 : Int) , (-2147483648 ≤ x3 ∧ x3 ≤ 2147483647) → (-2147483648 ≤ x4 ∧ x4 ≤ 2147483647) → (-2147483648 ≤ x5 ∧ x5 ≤ 2147483647) → (-2147483648 ≤ x6 ∧ x6 ≤ 2147483647) → (0 ≤ x4 ∧ x4 ≤ nv) → (TF9 H H1) → (x3 = (cp (prN (tot9 X al ty b.toNat) x4.toNat) : Int)) → (∀ v : Nat, (v : Int) < x4 → H1.1 375 v = (cp (tot9 X al ty b.toNat v) : Int)) → (x4 < nv) → (0 ≤ x5 ∧ x5 ≤ 2001 * (x6 - 1)) → (cp x5.toNat = cp (sumN (fun i => (vv X al (i + 1) (ty x4.toNat)).length) (x6 - 1).toNat)) → (1 ≤ x6 ∧ x6 ≤ b + 1) → (((1000 * (100 - x4) + 100 - x6).toNat) < w) → hG (zs zK) d mt_110 27 [(0, .inr (.inr 372)), (1, .inr (.inr e)), (2, .inl b), (3, .inl x3), (4, .inl x4), (5, .inl x5), (6, .inl x6)] [] H1 (fun r9 H9 => ∃ z : Int, r9 = some (.inl z) ∧ ((-2147483648 ≤ z ∧ z ≤ 2147483647)) ∧ Inv H9 ∧ fq [] [375] false H H9 ∧ (z = (cp (prN (tot9 X al ty b.toNat) nv) : Int) ∧ (∀ v : Nat, v < nv → H9.1 375 v = (cp (tot9 X al ty b.toNat v) : Int)) ∧ TF9 H H9))) := by
  intro w
  induction w with
  | zero => exact ⟨fun _ _ _ _ _ _ _ _ _ _ _ h => absurd h (Nat.not_lt_zero _), fun _ _ _ _ _ _ _ _ _ _ _ _ _ _ _ _ _ _ _ h => absurd h (Nat.not_lt_zero _)⟩
  | succ w ih =>
    refine ⟨?_, ?_⟩
    · intro H1 hI1 hf1 x3 x4 hx3 hx4 hi0 hi1 hi2 hi3 hw
      obtain ⟨hX3, hX4, hXc⟩ := id hX
      have htf := hi1
      have hL1 : LV9 H1 X e nv ty := LV_cg hL (fun j => htf.2 _ _ (by omega)) (fun j => htf.2 _ _ (by omega))
      have hL11 := hL1.1
      have hKV1 : KV H1 X al b.toNat := KV_cg hV (fun _ _ _ _ _ => htf.2 _ _ (by decide)) (fun _ _ _ _ _ _ => htf.2 _ _ (by decide))
      refine k_run 2 (pc' := 8) (l' := [(0, .inr (.inr 372)), (1, .inr (.inr e)), (2, .inl b), (3, .inl x3), (4, .inl x4)]) (st' := [.inr (.inr e), .inl x4]) rfl ?_
      refine k_get (a := e) (x := (kEo e)) (v := .inl (H1.1 e 3)) rfl rfl he.1 (iE0 he) rfl rfl rfl ?_
      have g1 : 0 ≤ (H1.1 e 3) ∧ (H1.1 e 3) ≤ 40 := kn hI1 he.1 3
      have e2 : (H1.1 e 3) = (H.1 e 3) := (hf1.2 rfl e 3 (iEt he)).1
      refine k_run 0 (pc' := 11) (l' := [(0, .inr (.inr 372)), (1, .inr (.inr e)), (2, .inl b), (3, .inl x3), (4, .inl x4)]) (st' := [.inl (H1.1 e 3), .inl x4]) rfl ?_
      refine h_ige (off := 83) (t := 94) rfl rfl (by omega) (by omega) (fun c3 => ?_) (fun c3 => ?_)
      · refine k_run 0 (pc' := 94) (l' := [(0, .inr (.inr 372)), (1, .inr (.inr e)), (2, .inl b), (3, .inl x3), (4, .inl x4)]) (st' := []) rfl ?_
        refine k_run 1 (pc' := 95) (l' := [(0, .inr (.inr 372)), (1, .inr (.inr e)), (2, .inl b), (3, .inl x3), (4, .inl x4)]) (st' := [.inl x3]) rfl ?_
        refine h_reti (x := x3) rfl rfl ?_
        exact ⟨_, rfl, (by omega), hI1, hf1, ⟨by rw [hi2, show x4.toNat = nv by omega], fun v9 h9 => hi3 v9 (by omega), htf⟩⟩
      · refine k_run 0 (pc' := 14) (l' := [(0, .inr (.inr 372)), (1, .inr (.inr e)), (2, .inl b), (3, .inl x3), (4, .inl x4)]) (st' := []) rfl ?_
        refine k_run 2 (pc' := 18) (l' := [(0, .inr (.inr 372)), (1, .inr (.inr e)), (2, .inl b), (3, .inl x3), (4, .inl x4)]) (st' := [.inl 6, .inl x4]) rfl ?_
        refine h_ige (off := 76) (t := 94) rfl rfl (by omega) (by decide) (fun c4 => ?_) (fun c4 => ?_)
        · refine k_run 0 (pc' := 94) (l' := [(0, .inr (.inr 372)), (1, .inr (.inr e)), (2, .inl b), (3, .inl x3), (4, .inl x4)]) (st' := []) rfl ?_
          refine k_run 1 (pc' := 95) (l' := [(0, .inr (.inr 372)), (1, .inr (.inr e)), (2, .inl b), (3, .inl x3), (4, .inl x4)]) (st' := [.inl x3]) rfl ?_
          refine h_reti (x := x3) rfl rfl ?_
          exact ⟨_, rfl, (by omega), hI1, hf1, ⟨by rw [hi2, show x4.toNat = nv by omega], fun v9 h9 => hi3 v9 (by omega), htf⟩⟩
        · refine k_run 0 (pc' := 21) (l' := [(0, .inr (.inr 372)), (1, .inr (.inr e)), (2, .inl b), (3, .inl x3), (4, .inl x4)]) (st' := []) rfl ?_
          refine k_run 4 (pc' := 27) (l' := [(0, .inr (.inr 372)), (1, .inr (.inr e)), (2, .inl b), (3, .inl x3), (4, .inl x4), (5, .inl 0), (6, .inl 1)]) (st' := []) rfl ?_
          exact ih.2 H1 hI1 hf1 x3 x4 (0 : Int) (1 : Int) (by omega) (by omega) (by decide) (by decide) (by omega) htf hi2 hi3 (by omega) (by omega) rfl (by omega) (by omega)
    · intro H1 hI1 hf1 x3 x4 x5 x6 hx3 hx4 hx5 hx6 hi0 hi1 hi2 hi3 hi4 hi5 hi6 hi7 hw
      obtain ⟨hX3, hX4, hXc⟩ := id hX
      have htf := hi1
      have hL1 : LV9 H1 X e nv ty := LV_cg hL (fun j => htf.2 _ _ (by omega)) (fun j => htf.2 _ _ (by omega))
      have hL11 := hL1.1
      have hKV1 : KV H1 X al b.toNat := KV_cg hV (fun _ _ _ _ _ => htf.2 _ _ (by decide)) (fun _ _ _ _ _ _ => htf.2 _ _ (by decide))
      refine k_run 2 (pc' := 30) (l' := [(0, .inr (.inr 372)), (1, .inr (.inr e)), (2, .inl b), (3, .inl x3), (4, .inl x4), (5, .inl x5), (6, .inl x6)]) (st' := [.inl b, .inl x6]) rfl ?_
      refine h_igt (off := 27) (t := 57) rfl rfl (by omega) (by omega) (fun c5 => ?_) (fun c5 => ?_)
      · refine k_run 0 (pc' := 57) (l' := [(0, .inr (.inr 372)), (1, .inr (.inr e)), (2, .inl b), (3, .inl x3), (4, .inl x4), (5, .inl x5), (6, .inl x6)]) (st' := []) rfl ?_
        refine k_run 5 (pc' := 68) (l' := [(0, .inr (.inr 372)), (1, .inr (.inr e)), (2, .inl b), (3, .inl x3), (4, .inl x4), (5, .inl x5), (6, .inl x6)]) (st' := [.inl 2001, .inl x5, .inl x4, .inr (.inr 375)]) rfl ?_
        refine k_min (i := 101) (x := x5) (y := 2001) rfl rfl (Nat.le_of_ble_eq_true rfl) (by omega) (by omega) (by decide) (fun z6 hz6 => ?_)
        refine k_run 0 (pc' := 71) (l' := [(0, .inr (.inr 372)), (1, .inr (.inr e)), (2, .inl b), (3, .inl x3), (4, .inl x4), (5, .inl x5), (6, .inl x6)]) (st' := [.inl z6, .inl x4, .inr (.inr 375)]) rfl ?_
        refine k_ist (z := z6) (c := 375) (j := (x4).toNat) (i := x4) (x := kx_375) rfl rfl (by decide) (by decide) rfl (by decide) (by omega) (by omega) hI1 (by omega) (show -2147483648 ≤ z6 ∧ z6 ≤ 2147483647 by omega) (fun H7 hI8 hw9 hv10 => ?_)
        have hf11 : fq [] [375] false H H7 := fq_w hf1 hw9 (fpa (by decide) rfl)
        refine k_run 0 (pc' := 72) (l' := [(0, .inr (.inr 372)), (1, .inr (.inr e)), (2, .inl b), (3, .inl x3), (4, .inl x4), (5, .inl x5), (6, .inl x6)]) (st' := []) rfl ?_
        have htot : H7.1 375 x4.toNat = (cp (tot9 X al ty b.toNat x4.toNat) : Int) := by rw [hv10]; refine cp_min hi5.1 ?_ (by omega); rw [tot_sum, hi6, show (x6 - 1).toNat = b.toNat by omega]
        have htl := cp_le (tot9 X al ty b.toNat x4.toNat)
        refine k_run 4 (pc' := 79) (l' := [(0, .inr (.inr 372)), (1, .inr (.inr e)), (2, .inl b), (3, .inl x3), (4, .inl x4), (5, .inl x5), (6, .inl x6)]) (st' := [.inl x4, .inr (.inr 375), .inl x3]) rfl ?_
        refine k_ild (c := 375) (j := (x4).toNat) (i := x4) (x := kx_375) rfl rfl (by decide) rfl (by decide) (by omega) (by omega) ?_
        have g12 : -2147483648 ≤ (H7.1 375 (x4).toNat) ∧ (H7.1 375 (x4).toNat) ≤ 2147483647 := kn (x := kx_375) hI8 rfl (x4).toNat
        refine k_run 0 (pc' := 80) (l' := [(0, .inr (.inr 372)), (1, .inr (.inr e)), (2, .inl b), (3, .inl x3), (4, .inl x4), (5, .inl x5), (6, .inl x6)]) (st' := [.inl (H7.1 375 (x4).toNat), .inl x3]) rfl ?_
        have hpm : 0 ≤ x3 * (H7.1 375 (x4).toNat) ∧ x3 * (H7.1 375 (x4).toNat) ≤ 4004001 := by rw [hi2, htot, ← Int.natCast_mul]; have q9 : cp (prN (tot9 X al ty b.toNat) x4.toNat) * cp (tot9 X al ty b.toNat x4.toNat) ≤ 2001 * 2001 := Nat.mul_le_mul (cp_le _) (cp_le _); omega
        refine k_run 2 (pc' := 84) (l' := [(0, .inr (.inr 372)), (1, .inr (.inr e)), (2, .inl b), (3, .inl x3), (4, .inl x4), (5, .inl x5), (6, .inl x6)]) (st' := [.inl 2001, .inl (x3 * (H7.1 375 (x4).toNat))]) rfl ?_
        refine k_min (i := 101) (x := (x3 * (H7.1 375 (x4).toNat))) (y := 2001) rfl rfl (Nat.le_of_ble_eq_true rfl) (by omega) (by omega) (by decide) (fun z13 hz13 => ?_)
        refine k_run 0 (pc' := 87) (l' := [(0, .inr (.inr 372)), (1, .inr (.inr e)), (2, .inl b), (3, .inl x3), (4, .inl x4), (5, .inl x5), (6, .inl x6)]) (st' := [.inl z13]) rfl ?_
        refine k_run 3 (pc' := 5) (l' := [(0, .inr (.inr 372)), (1, .inr (.inr e)), (2, .inl b), (3, .inl z13), (4, .inl (x4 + 1)), (5, .inl x5), (6, .inl x6)]) (st' := []) rfl ?_
        refine h_loc [0, 1, 2, 3, 4] rfl ?_
        exact ih.1 H7 hI8 hf11 z13 (x4 + 1) (by omega) (by omega) (by omega) (TF9_w htf hw9) (by rw [show (x4 + 1).toNat = x4.toNat + 1 by omega]; exact cp_pm hi2 htot (by omega)) (fun v9 h9 => by by_cases q9 : v9 = x4.toNat; { subst q9; exact htot }; { rw [hw9.2 _ _ (fun q8 => q9 (by have := q8.2; omega))]; exact hi3 v9 (by omega) }) (by omega)
      · refine k_run 0 (pc' := 33) (l' := [(0, .inr (.inr 372)), (1, .inr (.inr e)), (2, .inl b), (3, .inl x3), (4, .inl x4), (5, .inl x5), (6, .inl x6)]) (st' := []) rfl ?_
        obtain ⟨ht1, ht2⟩ := hL1.2 x4.toNat (by omega)
        refine k_run 3 (pc' := 37) (l' := [(0, .inr (.inr 372)), (1, .inr (.inr e)), (2, .inl b), (3, .inl x3), (4, .inl x4), (5, .inl x5), (6, .inl x6)]) (st' := [.inr (.inr e), .inr (.inr 372), .inl x5]) rfl ?_
        refine k_get (a := e) (x := (kEo e)) (v := .inr (.inr (e + 5))) rfl rfl he.1 (iE0 he) rfl rfl rfl ?_
        refine k_run 0 (pc' := 40) (l' := [(0, .inr (.inr 372)), (1, .inr (.inr e)), (2, .inl b), (3, .inl x3), (4, .inl x4), (5, .inl x5), (6, .inl x6)]) (st' := [.inr (.inr (e + 5)), .inr (.inr 372), .inl x5]) rfl ?_
        refine k_run 1 (pc' := 42) (l' := [(0, .inr (.inr 372)), (1, .inr (.inr e)), (2, .inl b), (3, .inl x3), (4, .inl x4), (5, .inl x5), (6, .inl x6)]) (st' := [.inl x4, .inr (.inr (e + 5)), .inr (.inr 372), .inl x5]) rfl ?_
        refine k_ild (c := (e + 5)) (j := (x4).toNat) (i := x4) (x := kEt) rfl he.2.1 (iE5 he) rfl (by decide) (by omega) (by omega) ?_
        have g14 : -2 ≤ (H1.1 (e + 5) (x4).toNat) ∧ (H1.1 (e + 5) (x4).toNat) ≤ 100 := kn hI1 he.2.1 (x4).toNat
        refine k_run 0 (pc' := 43) (l' := [(0, .inr (.inr 372)), (1, .inr (.inr e)), (2, .inl b), (3, .inl x3), (4, .inl x4), (5, .inl x5), (6, .inl x6)]) (st' := [.inl (H1.1 (e + 5) (x4).toNat), .inr (.inr 372), .inl x5]) rfl ?_
        refine k_run 1 (pc' := 45) (l' := [(0, .inr (.inr 372)), (1, .inr (.inr e)), (2, .inl b), (3, .inl x3), (4, .inl x4), (5, .inl x5), (6, .inl x6)]) (st' := [.inl x6, .inl (H1.1 (e + 5) (x4).toNat), .inr (.inr 372), .inl x5]) rfl ?_
        refine h_cv (i := 153) (j := 108) (b := 372) (M' := mt_108) (xs := [.inl x6, .inl (H1.1 (e + 5) (x4).toNat)]) (rest := [.inl x5]) rfl rfl rfl rfl (zs_K (x := kx_372) rfl (by decide)) rfl (Nat.le_of_ble_eq_true rfl) (Nat.le_of_ble_eq_true rfl) (by omega) (qv_valuesOf (by omega) hI1 (by omega) (by omega) (by omega) (by omega)) ?_
        rintro _ _ ⟨z21, rfl, g15, rfl⟩
        refine k_run 0 (pc' := 48) (l' := [(0, .inr (.inr 372)), (1, .inr (.inr e)), (2, .inl b), (3, .inl x3), (4, .inl x4), (5, .inl x5), (6, .inl x6)]) (st' := [.inl z21, .inl x5]) rfl ?_
        have hz1 : z21 = (cN X al (ty x4.toNat) ((x6 - 1).toNat + 1) : Int) := by rw [g15.2, KV_v hKV1 (by omega) (by omega), ht1, show x6.toNat = (x6 - 1).toNat + 1 by omega]
        have hz2 : cN X al (ty x4.toNat) ((x6 - 1).toNat + 1) ≤ 2001 := cp_le _
        refine k_run 4 (pc' := 27) (l' := [(0, .inr (.inr 372)), (1, .inr (.inr e)), (2, .inl b), (3, .inl x3), (4, .inl x4), (5, .inl (x5 + z21)), (6, .inl (x6 + 1))]) (st' := []) rfl ?_
        exact ih.2 H1 hI1 hf1 x3 x4 (x5 + z21) (x6 + 1) (by omega) (by omega) (by omega) (by omega) (by omega) htf hi2 hi3 (by omega) (by omega) (by rw [show (x6 + 1 - 1).toNat = (x6 - 1).toNat + 1 by omega, show ((x5 + z21)).toNat = x5.toNat + cN X al (ty x4.toNat) ((x6 - 1).toNat + 1) by omega]; exact cp_add hi6 (cp_cp _)) (by omega) (by omega)
set_option maxRecDepth 100000 in
theorem qv_countRows {X : rx} {al : Bool} {nv : Nat} {ty : Nat → Int} {d : Nat} (hd : 2 ≤ d) {H : hp} (hI : Inv H) {e : Nat} {b : Int} (he : isE e) (hb : -2147483648 ≤ b ∧ b ≤ 2147483647) (hp0 : 1 ≤ b ∧ b ≤ 6) (hX : CT9 X) (he9 : e + 5 < 375) (hV : KV H X al b.toNat) (hL : LV9 H X e nv ty) : hG (zs zK) d mt_110 0 (zargs 0 [.inr (.inr 372), .inr (.inr e), .inl b]) [] H (fun r9 H9 => ∃ z : Int, r9 = some (.inl z) ∧ ((-2147483648 ≤ z ∧ z ≤ 2147483647)) ∧ Inv H9 ∧ fq [] [375] false H H9 ∧ (z = (cp (prN (tot9 X al ty b.toNat) nv) : Int) ∧ (∀ v : Nat, v < nv → H9.1 375 v = (cp (tot9 X al ty b.toNat v) : Int)) ∧ TF9 H H9)) := by
  have hL11 := hL.1
  refine k_run 0 (pc' := 0) (l' := [(0, .inr (.inr 372)), (1, .inr (.inr e)), (2, .inl b)]) (st' := []) rfl ?_
  refine k_run 4 (pc' := 5) (l' := [(0, .inr (.inr 372)), (1, .inr (.inr e)), (2, .inl b), (3, .inl 1), (4, .inl 0)]) (st' := []) rfl ?_
  exact (qv_countRows_cut hd hI he hb hp0 hX he9 hV hL _).1 H hI (fq_rf _ _ _ _) (1 : Int) (0 : Int) (by decide) (by decide) (by omega) ⟨rfl, fun _ _ _ => rfl⟩ rfl (fun v9 h9 => absurd h9 (by omega)) (Nat.lt_succ_self _)
