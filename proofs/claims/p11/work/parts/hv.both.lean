/-! test, both answer the same -/
/-- what the machine's rows say of a law, the reference's way -/
theorem lw_PW {H : hp} {X : rx} {m : Int} (hP : PWc H) (hA : TA m H X) (hR : RS9 H X) {l : Nat} (hl : (l : Int) < X 0 7) : H.1 1845 l = (nvX X l : Int) ∧ nvX X l ≤ 6 ∧ X (4 * l + 103) 1000 = (nvX X l : Int) ∧ (∀ v : Nat, v < nvX X l → H.1 1846 (6 * l + v) = tyX X l v ∧ 0 ≤ tyX X l v ∧ tyX X l v < X 0 3) ∧ ∀ s : Nat, s < 2 → ∃ k : Nat, k ≤ 40 ∧ H.1 1843 (2 * l + s) = (k : Int) ∧ X (4 * l + 102 + s) 0 = (k : Int) ∧ (∀ x : Nat, x < k → H.1 1842 (48 * (2 * l + s) + x) = X (4 * l + 102 + s) (x + 1)) ∧ tm (ma (H.1 1833) (H.1 1830)) (m_sg (H.1 1826 3) (H.1 1826 8) (nvX X l)) (fun k => X (4 * l + 102 + s) (k + 1)) k 0 1 := by
  obtain ⟨⟨b1, b2, b3, b4, b5⟩, -, -, -, p4⟩ := (id hP : PW H (H.1 1826 1) (H.1 1826 3) (H.1 1826 8) (H.1 1826 13) (H.1 1826 19))
  have a3 := hA.1.1
  have a7 := hA.2.2.2.1.1.2
  obtain ⟨v, ⟨v1, v2⟩, v3, v4⟩ := p4 l (by omega)
  obtain ⟨w0, w1, ⟨w2, w3⟩, w4⟩ := hR.2 l hl
  have e : nvX X l = v := by
    unfold nvX
    omega
  rw [e]
  refine ⟨v1, v2, by omega, fun x hx => ?_, fun s hs => ?_⟩
  · have h1 := v3 x hx
    have h2 := w4 x (by omega)
    unfold tyX
    omega
  · obtain ⟨k, ⟨k1, k2⟩, k3⟩ := v4 s hs
    have hq : H.1 1843 (2 * l + s) = X (4 * l + 102 + s) 0 ∧ ∀ x : Nat, (x : Int) < X (4 * l + 102 + s) 0 → H.1 1842 (48 * (2 * l + s) + x) = X (4 * l + 102 + s) (x + 1) := by
      rcases (show s = 0 ∨ s = 1 by omega) with rfl | rfl
      · exact w0
      · exact w1
    refine ⟨k, k2, k1, by omega, fun x hx => hq.2 x (by omega), ?_⟩
    exact tm_at k3 (fun x hx => by rw [Nat.zero_add]; exact (hq.2 x (by omega)).symm)
theorem RT9_of {H : hp} {X : rx} {m : Int} (hA : TA m H X) : RT9 H X := by
  obtain ⟨⟨a1, -⟩, ⟨a2, a3⟩, -⟩ := hA
  refine ⟨⟨a1.symm, a2.symm⟩, fun c hc => ?_⟩
  obtain ⟨-, c2, c3, c4⟩ := a3 c (by omega)
  exact ⟨c2.symm, c3.symm, fun k hk => (c4 k (by omega)).symm⟩
theorem CT9_of {H : hp} {X : rx} {m : Int} (hP : PWc H) (hA : TA m H X) : CT9 X := by
  obtain ⟨⟨b1, b2, b3, b4, b5⟩, p1, -⟩ := (id hP : PW H (H.1 1826 1) (H.1 1826 3) (H.1 1826 8) (H.1 1826 13) (H.1 1826 19))
  obtain ⟨⟨a1, -⟩, ⟨a2, a3⟩, -⟩ := hA
  refine ⟨by omega, by omega, fun c hc => ?_⟩
  obtain ⟨-, c2, c3, c4⟩ := a3 c hc
  obtain ⟨d1, d2, d3⟩ := p1 c (by omega)
  refine ⟨by omega, by omega, fun k hk => ?_⟩
  have h1 := c4 k hk
  have h2 := d3 k (by omega)
  omega
theorem LA9_of {H : hp} {X : rx} {m : Int} (hP : PWc H) (hA : TA m H X) (hR : RS9 H X) : LA9 H X := by
  have a7 := hA.2.2.2.1.1.2
  refine ⟨a7.symm, fun l hl => ?_⟩
  obtain ⟨h1, h2, h3, h4, h5⟩ := lw_PW hP hA hR (l := l) (by omega)
  refine ⟨fun s hs => ?_, h1, fun v hv => (h4 v hv).1⟩
  obtain ⟨k, -, k1, k2, k3, -⟩ := h5 s hs
  exact ⟨by rw [k1, k2], fun x hx => k3 x (by omega)⟩
theorem TW9_of {H : hp} {X : rx} {m : Int} (hP : PWc H) (hT : TC H X) (hA : TA m H X) (hR : RS9 H X) {R : Nat} (hRR : X 0 6 = (R : Int)) {l : Nat} (hl : (l : Int) < X 0 7) : TW9 (ma (H.1 1833) (H.1 1830)) (H.1 1826 3) (H.1 1826 8) X (nvX X l) l R := by
  have hZ := RZ9_of hA hR
  have hb : (0 ≤ H.1 1826 8 ∧ H.1 1826 8 ≤ 16) ∧ 0 ≤ H.1 1826 3 ∧ H.1 1826 3 ≤ 16 := by
    obtain ⟨⟨b1, b2, b3, b4, b5⟩, -⟩ := (id hP : PW H (H.1 1826 1) (H.1 1826 3) (H.1 1826 8) (H.1 1826 13) (H.1 1826 19))
    exact ⟨b3, b2⟩
  obtain ⟨h1, h2, h3, h4, h5⟩ := lw_PW hP hA hR (l := l) hl
  have hc4 := hA.2.1
  refine ⟨⟨CT9_of hP hA, hc4.1, fun c hc => ?_⟩, fun s hs => KF_of hP hT hA (by decide) hs, ⟨fun r hr => RW9r_of hZ hP (by rw [← hZ.1]; omega), hRR, by omega, by omega⟩, ⟨fun s hs => ma_0 (Or.inl hs), ma_0 (Or.inr rfl)⟩, h2, fun s hs => ?_⟩
  · have h9 := hc4.1
    rw [ma_c (by omega), show (1 + (c : Int) - 1).toNat = c by omega]
    exact (hc4.2 c hc).2.2.1
  · obtain ⟨t, ht, et⟩ : ∃ t : Nat, t < 2 ∧ s = 4 * l + 102 + t := by
      rcases hs with hs | hs
      · exact ⟨0, by decide, by omega⟩
      · exact ⟨1, by decide, by omega⟩
    obtain ⟨k, k0, -, k2, -, k4⟩ := h5 t ht
    rw [et, show (X (4 * l + 102 + t) 0).toNat = k by omega]
    refine ⟨k0, tm_mono k4 (fun j _ _ hz => ⟨rfl, ?_, rfl⟩), fun x hx hv => ?_⟩
    · unfold m_sg at hz ⊢
      omega
    · have h9 := tm_ok k4 x hx
      rw [Nat.zero_add] at h9
      have h9 : m_sg (H.1 1826 3) (H.1 1826 8) (nvX X l) (X (4 * l + 102 + t) (x + 1)) := h9
      unfold m_sg at h9
      omega
theorem LV9_of {H : hp} {X : rx} {m : Int} (hP : PWc H) (hA : TA m H X) (hR : RS9 H X) (hS : SC H X) {l : Nat} (hl : (l : Int) < X 0 7) (h16 : l < 16) : LV9 H X (265 + 6 * l) (nvX X l) (tyX X l) := by
  obtain ⟨h1, h2, h3, h4, h5⟩ := lw_PW hP hA hR (l := l) hl
  obtain ⟨-, -, ⟨c1, c2⟩, c3⟩ := hS.2.1 l h16 hl
  exact ⟨⟨by omega, h2⟩, fun v hv => ⟨c3 v (by omega), (h4 v hv).2⟩⟩
theorem CM_of {H : hp} {X : rx} {t s : Nat} (h : SD H t X s) (hM : MI X) (hs : 100 ≤ s) : CM H t X (X s 0).toNat (fun k => X s (k + 1)) := by
  have h1 := (hM.2.2 s hs).1
  have h2 := h.1
  exact ⟨by omega, fun x hx => h.2 x (by omega)⟩
/-- what test answers -/
def TZ9 (ar : Int → Int) (X : rx) (al : Bool) (a b z : Int) : Prop := ((a < 0 ∨ X 0 7 ≤ a) ∧ z = -101) ∨ ((0 ≤ a ∧ a < X 0 7) ∧ (b < 1 ∨ 6 < b) ∧ z = -102) ∨ ((0 ≤ a ∧ a < X 0 7) ∧ (1 ≤ b ∧ b ≤ 6) ∧ z = (tst9 ar X al a.toNat (tyX X a.toNat) (nvX X a.toNat) b.toNat).1)
theorem TZ_eq {ar : Int → Int} {X : rx} {al : Bool} {a b z z' : Int} (h : TZ9 ar X al a b z) (g : TZ9 ar X al a b z') : z = z' := by
  rcases h with ⟨h1, h2⟩ | ⟨h1, h2, h3⟩ | ⟨h1, h2, h3⟩
  · rcases g with ⟨g1, g2⟩ | ⟨g1, g2, g3⟩ | ⟨g1, g2, g3⟩
    · rw [h2, g2]
    · omega
    · omega
  · rcases g with ⟨g1, g2⟩ | ⟨g1, g2, g3⟩ | ⟨g1, g2, g3⟩
    · omega
    · rw [h3, g3]
    · omega
  · rcases g with ⟨g1, g2⟩ | ⟨g1, g2, g3⟩ | ⟨g1, g2, g3⟩
    · omega
    · omega
    · rw [h3, g3]
theorem TZ_c {ar : Int → Int} {X : rx} {al : Bool} {a b z : Int} {H K : hp} (h : RTV ar X al a b H K z) : TZ9 ar X al a b z := by
  rcases h with ⟨h1, h2, -⟩ | ⟨h1, h2, h3, -⟩ | ⟨h1, h2, h3, -⟩
  · exact Or.inl ⟨h1, h2⟩
  · exact Or.inr (Or.inl ⟨h1, h2, h3⟩)
  · exact Or.inr (Or.inr ⟨h1, h2, h3⟩)
theorem TZ_r {ar : Int → Int} {X : rx} {al : Bool} {a b z tl tl2 : Int} {tv tv2 : Nat → Int} (h : TRV ar X al a b tl tl2 tv tv2 z) : TZ9 ar X al a b z := by
  rcases h with ⟨h1, h2, -⟩ | ⟨h1, h2, h3, -⟩ | ⟨h1, h2, h3, -⟩
  · exact Or.inl ⟨h1, h2⟩
  · exact Or.inr (Or.inl ⟨h1, h2, h3⟩)
  · exact Or.inr (Or.inr ⟨h1, h2, h3⟩)
/-- two contracts of one method -/
theorem h_two {zC : Nat → Option zsh} {d : Nat} {M : am_M} {l : zl} {H : hp} {Q : Option zv → hp → Prop} {P : Int → hp → Prop} (h1 : hG (zs zC) d M 0 l [] H Q) (h2 : hG (zs zC) d M 0 l [] H (fun r9 H9 => ∃ z : Int, r9 = some (.inl z) ∧ P z H9)) : hG (zs zC) d M 0 l [] H (fun r9 H9 => ∃ z : Int, r9 = some (.inl z) ∧ (∃ r1 : Option zv, Q r1 H9) ∧ ∃ K, P z K) := by
  intro S lc hz hl
  obtain ⟨f1, r1, S1, c1, n1, e1, hc1, hn1, r1', K1, hr1, hz1, hk1, hQ⟩ := h1 S lc hz hl
  obtain ⟨f2, r2, S2, c2, n2, e2, hc2, hn2, r2', K2, hr2, hz2, hk2, z, hz9, hP⟩ := h2 S lc hz hl
  subst hz9
  have d1 := am_run_le e1 f2
  have d2 := am_run_le e2 f1
  rw [Nat.add_comm f2 f1, d1] at d2
  have d3 := Option.some.inj d2
  have dr : r1 = r2 := congrArg (fun q => q.1) d3
  exact ⟨f1, r1, S1, c1, n1, e1, hc1, hn1, _, K1, dr.trans hr2, hz1, hk1, z, rfl, ⟨r1', hQ⟩, K2, hP⟩
theorem hal_of {c : Int} (h : 0 ≤ c ∧ c ≤ 1) : (decide (c = 1) = false → c = 0) ∧ (decide (c = 1) = true → c = 1) := ⟨fun q => by have q2 := of_decide_eq_false q; omega, fun q => of_decide_eq_true q⟩
