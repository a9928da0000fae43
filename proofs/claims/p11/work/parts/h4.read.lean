/-! the reference's reading against the machine: terms -/
def me (e t : Int) : Int := if t = -1 then e else t
theorem me_or (e t : Int) : (t = -1 ∧ me e t = e) ∨ (t ≠ -1 ∧ me e t = t) := by
  unfold me
  by_cases h : t = -1
  · exact Or.inl ⟨h, if_pos h⟩
  · exact Or.inr ⟨h, if_neg h⟩
/-- what stands open, as the machine's tasks -/
def sk (e : Int) (ou no bt : Nat → Int) : Nat → List tq
  | 0 => []
  | n + 1 => (if ou n = 5000 then (if no n = 0 then [(2, me e (bt n), cb ou (n + 1), 0), (1, 41, 0, 0)] else [(1, 41, 0, 0)]) else [(3, ou n, no n, cb ou n)]) ++ sk e ou no bt n
theorem sk_cg {e : Int} {ou no bt ou' no' bt' : Nat → Int} : ∀ {n : Nat}, (∀ i, i < n → ou' i = ou i ∧ no' i = no i ∧ bt' i = bt i) → sk e ou' no' bt' n = sk e ou no bt n
  | 0, _ => rfl
  | n + 1, h => by
    obtain ⟨h1, h2, h3⟩ := h n (by omega)
    unfold sk
    rw [sk_cg (fun i hi => h i (by omega)), h1, h2, h3, cb_eq (ou := ou) (ou' := ou') (n := n + 1) (fun i hi => (h i hi).1), cb_eq (ou := ou) (ou' := ou') (n := n) (fun i hi => (h i (by omega)).1)]
theorem sk_ok {e : Int} {ou no bt : Nat → Int} : ∀ {n : Nat}, ∀ t ∈ sk e ou no bt n, t.1 ≠ 0 ∧ (t.1 = 1 → t.2.1 ≠ 1)
  | 0, t, h => absurd h List.not_mem_nil
  | n + 1, t, h => by
    unfold sk at h
    rcases List.mem_append.mp h with h | h
    · split at h
      · split at h
        · simp only [List.mem_cons, List.not_mem_nil, or_false] at h
          rcases h with rfl | rfl
          · exact ⟨(by decide : (2 : Nat) ≠ 0), fun q => absurd q (by decide : (2 : Nat) ≠ 1)⟩
          · exact ⟨by decide, fun _ => (by decide : (41 : Int) ≠ 1)⟩
        · simp only [List.mem_cons, List.not_mem_nil, or_false] at h
          subst h
          exact ⟨by decide, fun _ => (by decide : (41 : Int) ≠ 1)⟩
      · simp only [List.mem_cons, List.not_mem_nil, or_false] at h
        subst h
        exact ⟨(by decide : (3 : Nat) ≠ 0), fun q => absurd q (by decide : (3 : Nat) ≠ 1)⟩
    · exact sk_ok t h
def SK (e : Int) (H : hp) : List tq := sk e (H.1 1852) (H.1 1853) (H.1 1854) ((H.1 1826 47)).toNat
theorem SK_lk {e : Int} {H : hp} {K : List tq} (h : lkK K) : lkK (SK e H ++ K) := lk_app h sk_ok
theorem SK_same {e : Int} {H K : hp} (k2 : (K.1 1826 47) = (H.1 1826 47)) (k3 : (K.1 1852) = (H.1 1852)) (k4 : (K.1 1853) = (H.1 1853)) (k5 : (K.1 1854) = (H.1 1854)) : SK e K = SK e H := by
  unfold SK
  rw [k2, k3, k4, k5]
theorem SK_name {e s t : Int} {H K : hp} (ho : 0 ≤ (H.1 1826 47)) (hs : s ≠ 5000) (k2 : (K.1 1826 47) = (H.1 1826 47) + 1) (k3 : (K.1 1852) = up (H.1 1852) ((H.1 1826 47)).toNat s) (k4 : (K.1 1853) = up (H.1 1853) ((H.1 1826 47)).toNat 0) (k5 : (K.1 1854) = up (H.1 1854) ((H.1 1826 47)).toNat t) : SK e K = (3, s, 0, cb (H.1 1852) ((H.1 1826 47)).toNat) :: SK e H := by
  unfold SK
  rw [k2, k3, k4, k5, show ((H.1 1826 47) + 1).toNat = ((H.1 1826 47)).toNat + 1 by omega]
  show (if up (H.1 1852) ((H.1 1826 47)).toNat s ((H.1 1826 47)).toNat = 5000 then _ else _) ++ _ = _
  rw [up_eq, if_neg hs, up_eq, sk_cg (ou := (H.1 1852)) (no := (H.1 1853)) (bt := (H.1 1854)) (fun i hi => ⟨up_ne _ _ (by omega), up_ne _ _ (by omega), up_ne _ _ (by omega)⟩), cb_eq (ou := (H.1 1852)) (fun i hi => up_ne _ _ (by omega))]
  rfl
theorem SK_open {e t : Int} {H K : hp} (ho : 0 ≤ (H.1 1826 47)) (k2 : (K.1 1826 47) = (H.1 1826 47) + 1) (k3 : (K.1 1852) = up (H.1 1852) ((H.1 1826 47)).toNat 5000) (k4 : (K.1 1853) = up (H.1 1853) ((H.1 1826 47)).toNat 0) (k5 : (K.1 1854) = up (H.1 1854) ((H.1 1826 47)).toNat t) : SK e K = (2, me e t, cb (H.1 1852) ((H.1 1826 47)).toNat + 1, 0) :: (1, 41, 0, 0) :: SK e H := by
  unfold SK
  rw [k2, k3, k4, k5, show ((H.1 1826 47) + 1).toNat = ((H.1 1826 47)).toNat + 1 by omega]
  show (if up (H.1 1852) ((H.1 1826 47)).toNat 5000 ((H.1 1826 47)).toNat = 5000 then (if up (H.1 1853) ((H.1 1826 47)).toNat 0 ((H.1 1826 47)).toNat = 0 then [(2, me e (up (H.1 1854) ((H.1 1826 47)).toNat t ((H.1 1826 47)).toNat), cb (up (H.1 1852) ((H.1 1826 47)).toNat 5000) (((H.1 1826 47)).toNat + 1), 0), (1, 41, 0, 0)] else _) else _) ++ _ = _
  rw [up_eq, if_pos rfl, up_eq, if_pos rfl, up_eq, sk_cg (ou := (H.1 1852)) (no := (H.1 1853)) (bt := (H.1 1854)) (fun i hi => ⟨up_ne _ _ (by omega), up_ne _ _ (by omega), up_ne _ _ (by omega)⟩)]
  have e9 : cb (up (H.1 1852) ((H.1 1826 47)).toNat 5000) (((H.1 1826 47)).toNat + 1) = cb (H.1 1852) ((H.1 1826 47)).toNat + 1 := by
    show cb (up (H.1 1852) ((H.1 1826 47)).toNat 5000) ((H.1 1826 47)).toNat + (if up (H.1 1852) ((H.1 1826 47)).toNat 5000 ((H.1 1826 47)).toNat = 5000 then 1 else 0) = _
    rw [up_eq, if_pos rfl, cb_eq (ou := (H.1 1852)) (fun i hi => up_ne _ _ (by omega))]
  rw [e9]
  rfl
/-- what is on top -/
theorem SK_top {e : Int} {H : hp} {n : Nat} (hn : (H.1 1826 47) = n + 1) : SK e H = (if (H.1 1852) n = 5000 then (if (H.1 1853) n = 0 then [(2, me e ((H.1 1854) n), cb (H.1 1852) (n + 1), 0), (1, 41, 0, 0)] else [(1, 41, 0, 0)]) else [(3, (H.1 1852) n, (H.1 1853) n, cb (H.1 1852) n)]) ++ sk e (H.1 1852) (H.1 1853) (H.1 1854) n := by
  unfold SK
  rw [show ((H.1 1826 47)).toNat = n + 1 by omega]
  rfl
theorem SK_pop {e : Int} {H K : hp} {n : Nat} (k2 : (K.1 1826 47) = n) (k3 : (K.1 1852) = (H.1 1852)) (k4 : (K.1 1853) = (H.1 1853)) (k5 : (K.1 1854) = (H.1 1854)) : SK e K = sk e (H.1 1852) (H.1 1853) (H.1 1854) n := by
  unfold SK
  rw [k2, k3, k4, k5]
  rfl
theorem SK_ask {e z : Int} {H K : hp} {n : Nat} (hn : (H.1 1826 47) = n + 1) (k2 : (K.1 1826 47) = (H.1 1826 47)) (k3 : (K.1 1852) = (H.1 1852)) (k4 : (K.1 1853) = up (H.1 1853) n z) (k5 : (K.1 1854) = (H.1 1854)) (hz : z ≠ 0) : SK e K = (if (H.1 1852) n = 5000 then [(1, 41, 0, 0)] else [(3, (H.1 1852) n, z, cb (H.1 1852) n)]) ++ sk e (H.1 1852) (H.1 1853) (H.1 1854) n := by
  unfold SK
  rw [k2, k3, k4, k5, show ((H.1 1826 47)).toNat = n + 1 by omega]
  show (if (H.1 1852) n = 5000 then (if up (H.1 1853) n z n = 0 then _ else _) else [(3, (H.1 1852) n, up (H.1 1853) n z n, cb (H.1 1852) n)]) ++ _ = _
  rw [up_eq, if_neg hz, sk_cg (ou := (H.1 1852)) (no := (H.1 1853)) (bt := (H.1 1854)) (fun i hi => ⟨rfl, up_ne _ _ (by omega), rfl⟩)]
/-- variables, names, what is read -/
def VR (H : hp) (X : rx) : Prop := ((H.1 1826 40) = X 0 2 ∧ (H.1 1826 44) = X 0 8 + 1 ∧ 0 ≤ X 0 2) ∧ (X 0 8 ≠ 2 → ((H.1 1826 39) = X 0 1 ∧ 0 ≤ X 0 1) ∧ ∀ v : Nat, (v : Int) < X 0 1 → (H.1 1849) v = X 10 v ∧ (H.1 1850) v = X 11 v)
def B0 (t0 : Int) (H : hp) : Prop := ((H.1 1826 40) = 0 → ∀ i : Nat, (i : Int) < (H.1 1826 47) → (H.1 1852) i = 5000 ∧ (H.1 1854) i = t0) ∧ ((H.1 1826 44) = 1 → ∀ i : Nat, (i : Int) < (H.1 1826 47) → (H.1 1852) i = 5000 → 0 ≤ (H.1 1854) i)
/-- the first sign's type -/
def FI (t0 : Int) (X : rx) (fi : Int) : Prop := X 0 8 = 1 → t0 = -1 → ((X 0 2 = 0 ∧ fi = -1) ∨ (0 ≤ fi ∧ fi = thd X ∧ X 13 0 < 1000 ∧ 0 < X 0 2))
/-- the signs read -/
def RD (H : hp) (X : rx) : Prop := (H.1 1826 43) = X 0 2 ∧ ∀ k : Nat, (k : Int) < X 0 2 → (H.1 1851) k = X 13 k
theorem sW_rf (X : rx) : sW X X := ⟨sT_rf X, fun _ _ => rfl⟩
def FH (t0 : Int) (X X2 : rx) (r0 : Int) : Prop := sW X X2 ∧ ∀ fi : Int, FI t0 X fi → FI t0 X2 (if fi = -1 then r0 else fi)
def RU (Y : yx) (m t0 : Int) (H : hp) (X : rx) : Prop := RK Y m H X ∧ VR H X ∧ B0 t0 H ∧ RD H X
theorem xpt_s (X : rx) (s : Int) : xput X s 0 0 = X 0 0 + 1 ∧ xput X s 0 1 = X 0 1 ∧ xput X s 0 2 = X 0 2 + 1 ∧ xput X s 0 8 = X 0 8 ∧ xput X s 10 = X 10 ∧ xput X s 11 = X 11 ∧ xput X s 13 = up (X 13) (X 0 2).toNat s := by
  unfold xput adv
  refine ⟨?_, ?_, ?_, ?_, ?_, ?_, ?_⟩
  · rw [xu_1, xu_0 _ _ (by omega), xu_0 _ _ (by omega)]
  · rw [xu_0 _ _ (by omega), xu_0 _ _ (by omega), xu_0 _ _ (by omega)]
  · rw [xu_0 _ _ (by omega), xu_1]
  · rw [xu_0 _ _ (by omega), xu_0 _ _ (by omega), xu_0 _ _ (by omega)]
  · rw [xu_ne _ _ _ (by decide), xu_ne _ _ _ (by decide), xu_ne _ _ _ (by decide)]
  · rw [xu_ne _ _ _ (by decide), xu_ne _ _ _ (by decide), xu_ne _ _ _ (by decide)]
  · rw [xu_ne _ _ _ (by decide), xu_ne _ _ _ (by decide), xu_eq]
theorem xvr_s (X : rx) (x ty : Int) : xvar X x ty 0 0 = X 0 0 ∧ xvar X x ty 0 1 = X 0 1 + 1 ∧ xvar X x ty 0 2 = X 0 2 ∧ xvar X x ty 0 8 = X 0 8 ∧ xvar X x ty 10 = up (X 10) (X 0 1).toNat x ∧ xvar X x ty 11 = up (X 11) (X 0 1).toNat ty ∧ xvar X x ty 13 = X 13 := by
  unfold xvar
  refine ⟨?_, ?_, ?_, ?_, ?_, ?_, ?_⟩
  · rw [xu_0 _ _ (by omega), xu_0 _ _ (by omega), xu_0 _ _ (by omega)]
  · rw [xu_1]
  · rw [xu_0 _ _ (by omega), xu_0 _ _ (by omega), xu_0 _ _ (by omega)]
  · rw [xu_0 _ _ (by omega), xu_0 _ _ (by omega), xu_0 _ _ (by omega)]
  · rw [xu_ne _ _ _ (by decide), xu_ne _ _ _ (by decide), xu_eq]
  · rw [xu_ne _ _ _ (by decide), xu_eq, xu_ne _ _ _ (by decide)]
  · rw [xu_ne _ _ _ (by decide), xu_ne _ _ _ (by decide), xu_ne _ _ _ (by decide)]
theorem adv_s (X : rx) : adv X 0 1 = X 0 1 ∧ adv X 0 2 = X 0 2 ∧ adv X 0 8 = X 0 8 ∧ adv X 10 = X 10 ∧ adv X 11 = X 11 ∧ adv X 13 = X 13 := by
  unfold adv
  exact ⟨xu_0 _ _ (by omega), xu_0 _ _ (by omega), xu_0 _ _ (by omega), xu_ne _ _ _ (by decide), xu_ne _ _ _ (by decide), xu_ne _ _ _ (by decide)⟩
theorem thd_cg {X X2 : rx} (e : sT X X2) (h0 : X2 13 0 = X 13 0) (h : X 13 0 < 1000) : thd X2 = thd X := by
  have q : ¬ (1000 ≤ X 13 0) := by omega
  unfold thd
  rw [h0, e.1 7 (by decide) (by decide), e.1 3 (by decide) (by decide), if_neg q, if_neg q]
theorem FH_keep {t0 r0 : Int} {X X2 : rx} (e : sW X X2) (e8 : X2 0 8 = X 0 8) (e13 : 0 < X 0 2 → X2 13 0 = X 13 0) (e2 : X 0 2 ≤ X2 0 2) (h0 : X 0 2 = 0 → X 0 8 = 1 → t0 = -1 → (X2 0 2 = 0 ∧ r0 = -1) ∨ (0 ≤ r0 ∧ r0 = thd X2 ∧ X2 13 0 < 1000 ∧ 0 < X2 0 2)) : FH t0 X X2 r0 := by
  refine ⟨e, ?_⟩
  intro fi h q1 q2
  rw [e8] at q1
  rcases h q1 q2 with ⟨a, b⟩ | ⟨a, b, c, d⟩
  · rw [if_pos b]
    exact h0 a q1 q2
  · rw [if_neg (by omega)]
    refine Or.inr ⟨a, ?_, ?_, by omega⟩
    · rw [thd_cg e.1 (e13 d) c]
      exact b
    · rw [e13 d]
      exact c
theorem FH_app {t0 r0 s : Int} {X : rx} (hs : s < 1000) (h2 : 0 ≤ X 0 2) (hr : 0 ≤ r0) (ht : r0 = if 100 ≤ s then X 7 (s - 100).toNat else if s = 0 then -1 else X 3 (s - 1).toNat) : FH t0 X (xput X s) r0 := by
  obtain ⟨-, -, e2, e8, -, -, e13⟩ := xpt_s X s
  refine FH_keep (sW_put X s) e8 (fun q => ?_) (by omega) (fun q _ _ => Or.inr ⟨hr, ?_, ?_, by omega⟩)
  · rw [e13, up_ne _ _ (by omega)]
  · unfold thd
    rw [e13, up_e (by omega), if_neg (by omega), ht, (sT_put X s).1 7 (by decide) (by decide), (sT_put X s).1 3 (by decide) (by decide)]
  · rw [e13, up_e (by omega)]
    exact hs
theorem FH_leaf {t0 r0 s : Int} {X X1 : rx} (e : sW X X1) (e2 : X1 0 2 = X 0 2) (e8 : X1 0 8 = X 0 8) (e13 : X1 13 = X 13) (h2 : 0 ≤ X 0 2) (h : ¬ (X 0 2 = 0 ∧ X 0 8 = 1 ∧ t0 = -1)) : FH t0 X (xput X1 s) r0 := by
  obtain ⟨-, -, f2, f8, -, -, f13⟩ := xpt_s X1 s
  refine FH_keep (sW_tr e (sW_put X1 s)) (f8.trans e8) (fun q => ?_) (by omega) (fun q q1 q2 => absurd ⟨q, q1, q2⟩ h)
  rw [f13, up_ne _ _ (by omega), e13]
theorem FH_adv {t0 r0 : Int} {X : rx} (h : X 0 2 = 0 → r0 = t0) : FH t0 X (adv X) r0 := by
  obtain ⟨-, e2, e8, -, -, e13⟩ := adv_s X
  exact FH_keep (sW_adv X) e8 (fun _ => by rw [e13]) (by omega) (fun q _ q2 => Or.inl ⟨by omega, by rw [h q]; exact q2⟩)
theorem RD_put {H K : hp} {X X1 : rx} {s : Int} (h : RD H X) (h2 : 0 ≤ X 0 2) (e2 : X1 0 2 = X 0 2) (e13 : X1 13 = X 13) (e1 : (K.1 1826 43) = (H.1 1826 43) + 1) (e3 : (K.1 1851) = up (H.1 1851) ((H.1 1826 43)).toNat s) : RD K (xput X1 s) := by
  obtain ⟨-, -, x2, -, -, -, x13⟩ := xpt_s X1 s
  obtain ⟨a, b⟩ := h
  refine ⟨by omega, fun k hk => ?_⟩
  rw [x13, e3, a, e2, e13]
  by_cases e : k = (X 0 2).toNat
  · rw [e, up_eq, up_eq]
  · rw [up_ne _ _ e, up_ne _ _ e]
    exact b k (by omega)
theorem RD_same {H K : hp} {X X1 : rx} (h : RD H X) (e2 : X1 0 2 = X 0 2) (e13 : X1 13 = X 13) (e1 : (K.1 1826 43) = (H.1 1826 43)) (e3 : (K.1 1851) = (H.1 1851)) : RD K X1 := by
  unfold RD
  rw [e2, e13, e1, e3]
  exact h
theorem VR_put {H K : hp} {X : rx} {s : Int} (h : VR H X) (e1 : (K.1 1826 40) = (H.1 1826 40) + 1) (es : (K.1 1826 44) = (H.1 1826 44)) (ev : (K.1 1826 39) = (H.1 1826 39)) (e3 : (K.1 1849) = (H.1 1849)) (e4 : (K.1 1850) = (H.1 1850)) : VR K (xput X s) := by
  obtain ⟨-, x1, x2, x8, x10, x11, -⟩ := xpt_s X s
  obtain ⟨⟨a1, a2, a3⟩, b⟩ := h
  refine ⟨⟨by omega, by omega, by omega⟩, fun q => ?_⟩
  rw [x1, x10, x11, ev, e3, e4]
  exact b (by omega)
theorem VR_var {H K : hp} {X : rx} {x t s : Int} (h : VR H X) (h8 : X 0 8 ≠ 2) (e1 : (K.1 1826 40) = (H.1 1826 40) + 1) (es : (K.1 1826 44) = (H.1 1826 44)) (ev : (K.1 1826 39) = (H.1 1826 39) + 1) (e3 : (K.1 1849) = up (H.1 1849) ((H.1 1826 39)).toNat x) (e4 : (K.1 1850) = up (H.1 1850) ((H.1 1826 39)).toNat t) : VR K (xput (xvar X x t) s) := by
  obtain ⟨-, x1, x2, x8, x10, x11, -⟩ := xpt_s (xvar X x t) s
  obtain ⟨-, y1, y2, y8, y10, y11, -⟩ := xvr_s X x t
  obtain ⟨⟨a1, a2, a3⟩, b⟩ := h
  obtain ⟨⟨b1, b2⟩, b3⟩ := b h8
  refine ⟨⟨by omega, by omega, by omega⟩, fun q => ⟨⟨by omega, by omega⟩, fun v hv => ?_⟩⟩
  rw [x10, x11, y10, y11, e3, e4, b1]
  by_cases e : v = (X 0 1).toNat
  · rw [e, up_eq, up_eq, up_eq, up_eq]
    exact ⟨rfl, rfl⟩
  · rw [up_ne _ _ e, up_ne _ _ e, up_ne _ _ e, up_ne _ _ e]
    exact b3 v (by omega)
theorem VR_adv {H K : hp} {X : rx} (h : VR H X) (e1 : (K.1 1826 40) = (H.1 1826 40)) (es : (K.1 1826 44) = (H.1 1826 44)) (ev : (K.1 1826 39) = (H.1 1826 39)) (e3 : (K.1 1849) = (H.1 1849)) (e4 : (K.1 1850) = (H.1 1850)) : VR K (adv X) := by
  obtain ⟨x1, x2, x8, x10, x11, -⟩ := adv_s X
  unfold VR
  rw [x1, x2, x8, x10, x11, e1, es, ev, e3, e4]
  exact h
theorem B0_same {t0 : Int} {H K : hp} (h : B0 t0 H) (hn : (K.1 1826 40) ≠ 0) (es : (K.1 1826 44) = (H.1 1826 44)) (k2 : (K.1 1826 47) = (H.1 1826 47)) (k3 : (K.1 1852) = (H.1 1852)) (k5 : (K.1 1854) = (H.1 1854)) : B0 t0 K := by
  refine ⟨fun q => absurd q hn, ?_⟩
  rw [es, k2, k3, k5]
  exact h.2
theorem B0_name {t0 s t : Int} {H K : hp} (h : B0 t0 H) (hn : (K.1 1826 40) ≠ 0) (es : (K.1 1826 44) = (H.1 1826 44)) (hs : s ≠ 5000) (ho : 0 ≤ (H.1 1826 47)) (k2 : (K.1 1826 47) = (H.1 1826 47) + 1) (k3 : (K.1 1852) = up (H.1 1852) ((H.1 1826 47)).toNat s) (k5 : (K.1 1854) = up (H.1 1854) ((H.1 1826 47)).toNat t) : B0 t0 K := by
  refine ⟨fun q => absurd q hn, fun q i hi => ?_⟩
  rw [k3, k5]
  by_cases e : i = ((H.1 1826 47)).toNat
  · rw [e, up_eq, up_eq]
    exact fun q => absurd q hs
  · rw [up_ne _ _ e, up_ne _ _ e]
    exact h.2 (es.symm.trans q) i (by omega)
theorem B0_open {t0 t : Int} {H K : hp} (h : B0 t0 H) (e1 : (K.1 1826 40) = (H.1 1826 40)) (es : (K.1 1826 44) = (H.1 1826 44)) (ho : 0 ≤ (H.1 1826 47)) (k2 : (K.1 1826 47) = (H.1 1826 47) + 1) (k3 : (K.1 1852) = up (H.1 1852) ((H.1 1826 47)).toNat 5000) (k5 : (K.1 1854) = up (H.1 1854) ((H.1 1826 47)).toNat t) (ht : (H.1 1826 40) = 0 → t = t0) (hy : (H.1 1826 44) = 1 → 0 ≤ t) : B0 t0 K := by
  refine ⟨fun q i hi => ?_, fun q i hi => ?_⟩
  · rw [e1] at q
    rw [k3, k5]
    by_cases e : i = ((H.1 1826 47)).toNat
    · rw [e, up_eq, up_eq]
      exact ⟨rfl, ht q⟩
    · rw [up_ne _ _ e, up_ne _ _ e]
      exact h.1 q i (by omega)
  · rw [es] at q
    rw [k3, k5]
    by_cases e : i = ((H.1 1826 47)).toNat
    · rw [e, up_eq, up_eq]
      exact fun _ => hy q
    · rw [up_ne _ _ e, up_ne _ _ e]
      exact h.2 q i (by omega)
theorem RU_vf {Y : yx} {m t0 : Int} {H : hp} {X : rx} (h : RU Y m t0 H X) (ht : (H.1 1826 31) = 1 ∨ (H.1 1826 31) = 2) : ((H.1 1826 44) ≠ 3 → fnd (H.1 1849) (H.1 1826 39) (H.1 1826 33) = vfd Y X) ∧ ((H.1 1826 44) = 3 → vfd Y X = -1) := by
  obtain ⟨hR, ⟨⟨a1, a2, a3⟩, b⟩, -⟩ := h
  unfold vfd
  constructor
  · intro q
    obtain ⟨⟨b1, b2⟩, b3⟩ := b (by omega)
    rw [if_neg (by omega), RK_n hR ht, b1]
    exact fnd_cg (fun k hk => (b3 k hk).1)
  · intro q
    rw [if_pos (by omega)]
theorem ffd_k {Y : yx} {m : Int} {H : hp} {X : rx} {k : Nat} (h : RK Y m H X) (hm : (H.1 1826 8) = m) (hk : (k : Int) < (H.1 1826 8)) : (H.1 1833) k = X 8 k ∧ (H.1 1835) k = X 7 k := ⟨(h.2.2.2.2.2.2.1.2 k (by have := h.2.2.2.2.2.2.1.1; omega)).2.1, h.2.2.2.2.2.2.2.2 k (by omega)⟩
theorem cfd_k {Y : yx} {m : Int} {H : hp} {X : rx} {k : Nat} (h : RK Y m H X) (hk : (k : Int) < (H.1 1826 3)) : (H.1 1830) k = X 4 k ∧ (H.1 1829) k = X 3 k := ⟨(h.2.2.2.2.2.1.2 k (by have := h.2.2.2.2.2.1.1; omega)).2.2.1, (h.2.2.2.2.2.1.2 k (by have := h.2.2.2.2.2.1.1; omega)).2.1⟩

/-! great -/
set_option maxRecDepth 100000 in
theorem n_great {zC : Nat → Option zsh} {d : Nat} (hd : 5 ≤ d) {H : hp} {t h : Int} {Y : yx} {m : Int} {c0 : cf} {K : List tq} {X : rx} {e t0 : Int} (h0 : 0 ≤ (H.1 1826 30) ∧ (H.1 1826 30) ≤ (H.1 1826 29) ∧ (H.1 1826 29) ≤ 1000) (hw : 0 ≤ (H.1 1826 35) ∧ (H.1 1826 35) ≤ 5) (hst : 0 ≤ (H.1 1826 32) ∧ (H.1 1826 32) ≤ 1000) (hw0 : (H.1 1826 35) = 0) (hP : PWc H) (hTT : TT H 1) (hso : 1 ≤ (H.1 1826 44) ∧ (H.1 1826 44) ≤ 3) (ht : -1 ≤ t ∧ t < (H.1 1826 1)) (hh : 0 ≤ h ∧ h ≤ 1) (hU : RU Y m t0 H X) (hmf : (H.1 1826 8) = m) (he : ((H.1 1826 44) = 2 ∧ e = -2) ∨ ((H.1 1826 44) ≠ 2 ∧ e = -1)) (hq : rch Y c0 ((2, me e t, (H.1 1826 41), 1 - h) :: (SK e H ++ K), X)) (hK : lkK K) (ht0 : (H.1 1826 40) = 0 → t = t0) (hty : (H.1 1826 44) = 1 → 0 ≤ t) (htt : (H.1 1826 31) = 2) : hG (zs zC) d mt_183 0 (zargs 0 [.inr (.inr 1826), .inl t, .inl h]) [] H (fun r H2 => (∃ r0 : Int, r = some (.inl r0) ∧ -1 ≤ r0 ∧ r0 < (H.1 1826 1) ∧ GB Y m c0 H2 (∃ X2 : rx, rch Y c0 (SK e H2 ++ K, X2) ∧ RU Y m t0 H2 X2 ∧ FH t0 X X2 r0)) ∧ fr [30, 31, 32, 33, 35, 36, 39, 40, 41, 43, 47] [1849, 1850, 1851, 1852, 1853, 1854] H H2 ∧ ((H.1 1826 30) ≤ (H2.1 1826 30) ∧ (H2.1 1826 30) ≤ (H.1 1826 29)) ∧ (0 ≤ (H2.1 1826 35) ∧ (H2.1 1826 35) ≤ 5) ∧ (0 ≤ (H2.1 1826 32) ∧ (H2.1 1826 32) ≤ 1000) ∧ ((H2.1 1826 35) = 0 → (H2.1 1826 31) = 0 ∨ (H.1 1826 30) < (H2.1 1826 30)) ∧ (((H.1 1826 44) ≠ 2 → (H2.1 1826 39) = (H.1 1826 39)) ∧ (H.1 1826 39) ≤ (H2.1 1826 39)) ∧ hid ((H2.1 1826 35) = 0 → TT H2 0)) := by
  refine h_rng (fun hrg0 => ?_)
  refine h_run 0 (pc' := 0) (l' := [(0, .inr (.inr 1826)), (1, .inl t), (2, .inl h)]) (st' := []) rfl ?_
  obtain ⟨⟨pb1, pb2, pb3, pb4, pb5⟩, pw1, pw2, pw3, pw4⟩ := (id hP : PW H (H.1 1826 1) (H.1 1826 3) (H.1 1826 8) (H.1 1826 13) (H.1 1826 19))
  obtain ⟨n, m9, k9, ⟨ta1, ta2, ta3, ta4⟩, ⟨tb1, tb2, tb3⟩, ⟨tc1, tc2, tc3⟩, -, -, -⟩ := id hTT
  have tcb := cb_nn (ou := (H.1 1852)) (n := n)
  have hR := hU.1
  have htk := RK_t hR
  have hme := me_or e t
  have hnm := hU.2.1.1
  have hcn4 := hR.2.2.2.2.2.1.1
  have hcn5 := hR.2.2.2.2.2.2.1.1
  have hto : ((H.1 1826 47)).toNat = n := by omega
  refine h_run 4 (pc' := 8) (l' := [(0, .inr (.inr 1826)), (1, .inl t), (2, .inl h)]) (st' := [.inl (H.1 1826 3), .inr (.inr 1828)]) rfl ?_
  have g1 : -2147483648 ≤ (H.1 1826 3) ∧ (H.1 1826 3) ≤ 2147483647 := hrg0.1 1826 13 3 _ .int rfl rfl
  refine h_run 2 (pc' := 12) (l' := [(0, .inr (.inr 1826)), (1, .inl t), (2, .inl h)]) (st' := [.inr (.inl (H.1 1826 33)), .inl (H.1 1826 3), .inr (.inr 1828)]) rfl ?_
  have g2 : -9223372036854775808 ≤ (H.1 1826 33) ∧ (H.1 1826 33) ≤ 9223372036854775807 := hrg0.1 1826 13 33 _ .long rfl rfl
  refine h_cs (i := 309) (j := 167) (M' := mt_167) (xs := [.inr (.inl (H.1 1826 33)), .inl (H.1 1826 3), .inr (.inr 1828)]) (rest := []) rfl rfl rfl rfl rfl (Nat.le_of_ble_eq_true rfl) (Nat.le_of_ble_eq_true rfl) (by omega) (n_find (by omega) (m := 16) (z := cfd Y X) rfl (by omega : 0 ≤ (H.1 1826 3) ∧ (H.1 1826 3) ≤ ((16 : Nat) : Int) ∧ 16 ≤ 100) (by omega) (RK_cf hR (Or.inr (by omega)))) ?_
  rintro _ _ ⟨⟨k3, rfl, f4, f4x⟩ | ⟨rfl, f4⟩, rfl⟩
  · refine h_run 0 (pc' := 15) (l' := [(0, .inr (.inr 1826)), (1, .inl t), (2, .inl h)]) (st' := [.inl (k3 : Int)]) rfl ?_
    refine h_run 3 (pc' := 18) (l' := [(0, .inr (.inr 1826)), (1, .inl t), (2, .inl h), (3, .inl (k3 : Int))]) (st' := [.inl (-1), .inl (k3 : Int)]) rfl ?_
    refine h_ine (off := 10) (t := 28) rfl rfl (by omega) (by decide) (fun c5 => ?_) (fun c5 => ?_)
    · have hct := (pw1 k3 (by omega)).2.1
      obtain ⟨hk4, hk3⟩ := cfd_k (k := k3) hR (by omega)
      refine h_run 1 (pc' := 29) (l' := [(0, .inr (.inr 1826)), (1, .inl t), (2, .inl h), (3, .inl (k3 : Int))]) (st' := [.inl h]) rfl ?_
      refine h_zne (off := 17) (t := 46) rfl rfl (by omega) (fun c6 => ?_) (fun c6 => ?_)
      · refine h_run 1 (pc' := 47) (l' := [(0, .inr (.inr 1826)), (1, .inl t), (2, .inl h), (3, .inl (k3 : Int))]) (st' := [.inr (.inr 1826)]) rfl ?_
        have g7 : -2147483648 ≤ (H.1 1826 35) ∧ (H.1 1826 35) ≤ 2147483647 := hrg0.1 1826 13 35 _ .int rfl rfl
        refine h_cv (i := 293) (j := 158) (b := 1826) (M' := mt_158) (xs := []) (rest := []) rfl rfl rfl rfl rfl rfl (Nat.le_of_ble_eq_true rfl) (Nat.le_of_ble_eq_true rfl) (by omega) (m_good1 (by omega) (by omega : (H.1 1826 35) = 0)) ?_
        rintro _ _ ⟨rfl, rfl⟩
        refine h_run 0 (pc' := 50) (l' := [(0, .inr (.inr 1826)), (1, .inl t), (2, .inl h), (3, .inl (k3 : Int))]) (st' := [.inl 1]) rfl ?_
        refine h_zeq (off := 23) (t := 73) rfl rfl (by decide) (fun c => absurd c (by decide)) (fun _ => ?_)
        refine h_run 2 (pc' := 55) (l' := [(0, .inr (.inr 1826)), (1, .inl t), (2, .inl h), (3, .inl (k3 : Int))]) (st' := [.inl (-1), .inl t]) rfl ?_
        refine h_ieq (off := 18) (t := 73) rfl rfl (by omega) (by decide) (fun c8 => ?_) (fun c8 => ?_)
        · refine h_run 1 (pc' := 74) (l' := [(0, .inr (.inr 1826)), (1, .inl t), (2, .inl h), (3, .inl (k3 : Int))]) (st' := [.inr (.inr 1826)]) rfl ?_
          have g9 : -2147483648 ≤ (H.1 1826 40) ∧ (H.1 1826 40) ≤ 2147483647 := hrg0.1 1826 13 40 _ .int rfl rfl
          by_cases b10 : (H.1 1826 40) = 40
          · refine h_cv (i := 344) (j := 168) (b := 1826) (M' := mt_168) (xs := []) (rest := []) rfl rfl rfl rfl rfl rfl (Nat.le_of_ble_eq_true rfl) (Nat.le_of_ble_eq_true rfl) (by omega) (m_countB (by omega) (by omega : (H.1 1826 35) = 0) (by omega : (H.1 1826 40) = 40)) ?_
            rintro _ _ ⟨rfl, rfl⟩
            refine h_run 0 (pc' := 77) (l' := [(0, .inr (.inr 1826)), (1, .inl t), (2, .inl h), (3, .inl (k3 : Int))]) (st' := []) rfl ?_
            refine h_run 4 (pc' := 81) (l' := [(0, .inr (.inr 1826)), (1, .inl t), (2, .inl h), (3, .inl (k3 : Int))]) (st' := [.inl (1 + (k3 : Int)), .inr (.inr 1826)]) rfl ?_
            refine h_cv (i := 350) (j := 169) (b := 1826) (M' := mt_169) (xs := [.inl (1 + (k3 : Int))]) (rest := []) rfl rfl rfl rfl rfl rfl (Nat.le_of_ble_eq_true rfl) (Nat.le_of_ble_eq_true rfl) (by omega) (m_put0 (by omega) (by omega : (5 : Int) ≠ 0)) ?_
            rintro _ _ ⟨rfl, rfl⟩
            refine h_run 0 (pc' := 84) (l' := [(0, .inr (.inr 1826)), (1, .inl t), (2, .inl h), (3, .inl (k3 : Int))]) (st' := []) rfl ?_
            refine h_run 1 (pc' := 85) (l' := [(0, .inr (.inr 1826)), (1, .inl t), (2, .inl h), (3, .inl (k3 : Int))]) (st' := [.inr (.inr 1826)]) rfl ?_
            refine h_cv (i := 293) (j := 158) (b := 1826) (M' := mt_158) (xs := []) (rest := []) rfl rfl rfl rfl rfl rfl (Nat.le_of_ble_eq_true rfl) (Nat.le_of_ble_eq_true rfl) (by omega) (m_good0 (by omega) (by omega : (5 : Int) ≠ 0)) ?_
            rintro _ _ ⟨rfl, rfl⟩
            refine h_run 0 (pc' := 88) (l' := [(0, .inr (.inr 1826)), (1, .inl t), (2, .inl h), (3, .inl (k3 : Int))]) (st' := [.inl 0]) rfl ?_
            refine h_zeq (off := 15) (t := 103) rfl rfl (by decide) (fun _ => ?_) (fun c => absurd c (by decide))
            refine h_run 3 (pc' := 108) (l' := [(0, .inr (.inr 1826)), (1, .inl t), (2, .inl h), (3, .inl (k3 : Int))]) (st' := [.inl (k3 : Int), .inr (.inr 1829)]) rfl ?_
            refine h_ild (c := 1829) (j := k3) (i := (k3 : Int)) rfl rfl (by decide) rfl (by omega) ?_
            have g11 : -2147483648 ≤ (H.1 1829 k3) ∧ (H.1 1829 k3) ≤ 2147483647 := hrg0.2 1829 k3 16 .int rfl (by omega)
            refine h_run 0 (pc' := 109) (l' := [(0, .inr (.inr 1826)), (1, .inl t), (2, .inl h), (3, .inl (k3 : Int))]) (st' := [.inl (H.1 1829 k3)]) rfl ?_
            refine h_reti (x := (H.1 1829 k3)) rfl rfl ?_
            have g12 : -2147483648 ≤ (H.1 1826 30) ∧ (H.1 1826 30) ≤ 2147483647 := hrg0.1 1826 13 30 _ .int rfl rfl
            have g13 : -2147483648 ≤ (H.1 1826 32) ∧ (H.1 1826 32) ≤ 2147483647 := hrg0.1 1826 13 32 _ .int rfl rfl
            have g14 : -2147483648 ≤ (H.1 1826 29) ∧ (H.1 1826 29) ≤ 2147483647 := hrg0.1 1826 13 29 _ .int rfl rfl
            have g15 : -2147483648 ≤ (H.1 1826 31) ∧ (H.1 1826 31) ≤ 2147483647 := hrg0.1 1826 13 31 _ .int rfl rfl
            have g16 : -2147483648 ≤ (H.1 1826 1) ∧ (H.1 1826 1) ≤ 2147483647 := hrg0.1 1826 13 1 _ .int rfl rfl
            have g17 : -2147483648 ≤ (H.1 1826 39) ∧ (H.1 1826 39) ≤ 2147483647 := hrg0.1 1826 13 39 _ .int rfl rfl
            have g18 : -2147483648 ≤ (H.1 1826 44) ∧ (H.1 1826 44) ≤ 2147483647 := hrg0.1 1826 13 44 _ .int rfl rfl
            exact ⟨⟨(H.1 1829 k3), rfl, by omega, by omega, (Or.inr ⟨(by omega : (5 : Int) ≠ 0), (BD_mk hR (fr_o (fr_o (fr_o (fr_rf [35, 36, 40] [] H) (by decide)) (by decide)) (by decide)) (by decide) (by decide) (by decide : (5 : Int) ≠ 0) rfl rfl (rch_st hq (by show stTerm Y (me e t) (H.1 1826 41) (1 - h) (SK e H ++ K) X = _; unfold stTerm stApp stVar miss; rw [show cfd Y X = ((k3 : Nat) : Int) by omega, Int.toNat_natCast]; (repeat (first | rw [if_pos (by omega)] | rw [if_neg (by omega)])); try (first | rfl | (exfalso; omega)))))⟩)⟩, (fr_o (fr_o (fr_o (fr_rf _ _ _) (by decide)) (by decide)) (by decide)), (by omega : (H.1 1826 30) ≤ (H.1 1826 30) ∧ (H.1 1826 30) ≤ (H.1 1826 29)), (by omega : 0 ≤ (5 : Int) ∧ (5 : Int) ≤ 5), (by omega : 0 ≤ (H.1 1826 32) ∧ (H.1 1826 32) ≤ 1000), (by omega : (5 : Int) = 0 → (H.1 1826 31) = 0 ∨ (H.1 1826 30) < (H.1 1826 30)), (by omega : ((H.1 1826 44) ≠ 2 → (H.1 1826 39) = (H.1 1826 39)) ∧ (H.1 1826 39) ≤ (H.1 1826 39)), (fun (q : (5 : Int) = 0) => absurd q (by omega))⟩
          · refine h_cv (i := 344) (j := 168) (b := 1826) (M' := mt_168) (xs := []) (rest := []) rfl rfl rfl rfl rfl rfl (Nat.le_of_ble_eq_true rfl) (Nat.le_of_ble_eq_true rfl) (by omega) (m_countA (by omega) (by omega : (H.1 1826 35) = 0) (by omega : 0 ≤ (H.1 1826 40) ∧ (H.1 1826 40) ≤ 1000) (by omega : (H.1 1826 40) ≠ 40)) ?_
            rintro _ _ ⟨rfl, rfl⟩
            refine h_run 0 (pc' := 77) (l' := [(0, .inr (.inr 1826)), (1, .inl t), (2, .inl h), (3, .inl (k3 : Int))]) (st' := []) rfl ?_
            refine h_run 4 (pc' := 81) (l' := [(0, .inr (.inr 1826)), (1, .inl t), (2, .inl h), (3, .inl (k3 : Int))]) (st' := [.inl (1 + (k3 : Int)), .inr (.inr 1826)]) rfl ?_
            have g19 : -2147483648 ≤ (H.1 1826 43) ∧ (H.1 1826 43) ≤ 2147483647 := hrg0.1 1826 13 43 _ .int rfl rfl
            refine h_cv (i := 350) (j := 169) (b := 1826) (M' := mt_169) (xs := [.inl (1 + (k3 : Int))]) (rest := []) rfl rfl rfl rfl rfl rfl (Nat.le_of_ble_eq_true rfl) (Nat.le_of_ble_eq_true rfl) (by omega) (m_put1 (by omega) (by omega : (H.1 1826 35) = 0) (by omega : 0 ≤ (H.1 1826 43) ∧ (H.1 1826 43) ≤ 47) (by omega)) ?_
            rintro _ _ ⟨rfl, rfl⟩
            refine h_run 0 (pc' := 84) (l' := [(0, .inr (.inr 1826)), (1, .inl t), (2, .inl h), (3, .inl (k3 : Int))]) (st' := []) rfl ?_
            refine h_run 1 (pc' := 85) (l' := [(0, .inr (.inr 1826)), (1, .inl t), (2, .inl h), (3, .inl (k3 : Int))]) (st' := [.inr (.inr 1826)]) rfl ?_
            refine h_cv (i := 293) (j := 158) (b := 1826) (M' := mt_158) (xs := []) (rest := []) rfl rfl rfl rfl rfl rfl (Nat.le_of_ble_eq_true rfl) (Nat.le_of_ble_eq_true rfl) (by omega) (m_good1 (by omega) (by omega : (H.1 1826 35) = 0)) ?_
            rintro _ _ ⟨rfl, rfl⟩
            refine h_run 0 (pc' := 88) (l' := [(0, .inr (.inr 1826)), (1, .inl t), (2, .inl h), (3, .inl (k3 : Int))]) (st' := [.inl 1]) rfl ?_
            refine h_zeq (off := 15) (t := 103) rfl rfl (by decide) (fun c => absurd c (by decide)) (fun _ => ?_)
            refine h_run 5 (pc' := 96) (l' := [(0, .inr (.inr 1826)), (1, .inl t), (2, .inl h), (3, .inl (k3 : Int))]) (st' := [.inl (-1), .inl (1 + (k3 : Int)), .inr (.inr 1826)]) rfl ?_
            have g20 : -2147483648 ≤ (H.1 1826 47) ∧ (H.1 1826 47) ≤ 2147483647 := hrg0.1 1826 13 47 _ .int rfl rfl
            refine h_cv (i := 364) (j := 181) (b := 1826) (M' := mt_181) (xs := [.inl (-1), .inl (1 + (k3 : Int))]) (rest := []) rfl rfl rfl rfl rfl rfl (Nat.le_of_ble_eq_true rfl) (Nat.le_of_ble_eq_true rfl) (by omega) (m_enter (by omega) (by omega : 0 ≤ (H.1 1826 47) ∧ (H.1 1826 47) ≤ 63) (by omega) (by omega)) ?_
            rintro _ _ ⟨rfl, rfl⟩
            refine h_run 0 (pc' := 99) (l' := [(0, .inr (.inr 1826)), (1, .inl t), (2, .inl h), (3, .inl (k3 : Int))]) (st' := []) rfl ?_
            have hq9 : rch Y c0 ((3, (1 + (k3 : Int)), 0, (H.1 1826 41)) :: (SK e H ++ K), xput X (1 + (k3 : Int))) := (rch_st hq (by show stTerm Y (me e t) (H.1 1826 41) (1 - h) (SK e H ++ K) X = _; unfold stTerm stApp stVar miss; rw [show cfd Y X = ((k3 : Nat) : Int) by omega, Int.toNat_natCast]; (repeat (first | rw [if_pos (by omega)] | rw [if_neg (by omega)])); try (first | rfl | (exfalso; omega))))
            refine h_run 1 (pc' := 100) (l' := [(0, .inr (.inr 1826)), (1, .inl t), (2, .inl h), (3, .inl (k3 : Int))]) (st' := [.inr (.inr 1826)]) rfl ?_
            have g21 : -2147483648 ≤ (H.1 1826 30) ∧ (H.1 1826 30) ≤ 2147483647 := hrg0.1 1826 13 30 _ .int rfl rfl
            have g22 : -2147483648 ≤ (H.1 1826 29) ∧ (H.1 1826 29) ≤ 2147483647 := hrg0.1 1826 13 29 _ .int rfl rfl
            have g23 : -2147483648 ≤ (H.1 1826 32) ∧ (H.1 1826 32) ≤ 2147483647 := hrg0.1 1826 13 32 _ .int rfl rfl
            refine h_cv (i := 297) (j := 165) (b := 1826) (M' := mt_165) (xs := []) (rest := []) rfl rfl rfl rfl rfl rfl (Nat.le_of_ble_eq_true rfl) (Nat.le_of_ble_eq_true rfl) (by omega) (n_nx (by omega) (by omega : 0 ≤ (H.1 1826 30) ∧ (H.1 1826 30) ≤ (H.1 1826 29) ∧ (H.1 1826 29) ≤ 1000) (by omega : 0 ≤ (H.1 1826 35) ∧ (H.1 1826 35) ≤ 5) (by omega : 0 ≤ (H.1 1826 32) ∧ (H.1 1826 32) ≤ 1000) (by omega : (H.1 1826 35) = 0) (X := (xput X (1 + (k3 : Int)))) (RN_mk hR (fr_o (fr_a (fr_a (fr_a (fr_o (fr_a (fr_o (fr_rf [40, 43, 47] [1851, 1852, 1853, 1854] H) (by decide)) (by decide)) (by decide)) (by decide)) (by decide)) (by decide)) (by decide)) (by decide) (by decide) (xpt_s _ _).1 (TA_sT (TA_fr hR.2.2.2.2 (fr_o (fr_a (fr_a (fr_a (fr_o (fr_a (fr_o (fr_rf [40, 43, 47] [1851, 1852, 1853, 1854] H) (by decide)) (by decide)) (by decide)) (by decide)) (by decide)) (by decide)) (by decide)) (by decide) (by decide)) (sT_put X _))) hq9 (lk_c (SK_lk hK) (by decide : (3 : Nat) ≠ 0) (fun q => absurd q (by decide : (3 : Nat) ≠ 1)))) ?_
            rintro _ H24 ⟨rfl, hx24n, hx24f, hx24a, hx24b, hx24c, -, hx24e, hx24g⟩
            refine h_rng (fun hrg25 => ?_)
            have hf26 : fr [30, 31, 32, 33, 35, 36, 39, 40, 41, 43, 47] [1849, 1850, 1851, 1852, 1853, 1854] H H24 := fr_t (fr_o (fr_a (fr_a (fr_a (fr_o (fr_a (fr_o (fr_rf _ _ _) (by decide)) (by decide)) (by decide)) (by decide)) (by decide)) (by decide)) (by decide)) hx24f (by decide) (by decide)
            replace hx24a : (H.1 1826 30) ≤ (H24.1 1826 30) := hx24a
            replace hx24b : (H24.1 1826 30) ≤ (H.1 1826 29) := hx24b
            replace hx24g : (H24.1 1826 35) = 0 → ((H24.1 1826 31) = 0 ∨ (H.1 1826 30) < (H24.1 1826 30)) := hx24g
            refine h_run 0 (pc' := 103) (l' := [(0, .inr (.inr 1826)), (1, .inl t), (2, .inl h), (3, .inl (k3 : Int))]) (st' := []) rfl ?_
            refine h_run 3 (pc' := 108) (l' := [(0, .inr (.inr 1826)), (1, .inl t), (2, .inl h), (3, .inl (k3 : Int))]) (st' := [.inl (k3 : Int), .inr (.inr 1829)]) rfl ?_
            refine h_ild (c := 1829) (j := k3) (i := (k3 : Int)) rfl rfl (by decide) rfl (by omega) ?_
            have g27 : -2147483648 ≤ (H24.1 1829 k3) ∧ (H24.1 1829 k3) ≤ 2147483647 := hrg25.2 1829 k3 16 .int rfl (by omega)
            have e28 : (H24.1 1829 k3) = (H.1 1829 k3) := congrFun (hx24f.2.1 1829 (by decide) (by decide)) k3
            refine h_run 0 (pc' := 109) (l' := [(0, .inr (.inr 1826)), (1, .inl t), (2, .inl h), (3, .inl (k3 : Int))]) (st' := [.inl (H24.1 1829 k3)]) rfl ?_
            refine h_reti (x := (H24.1 1829 k3)) rfl rfl ?_
            have g29 : -2147483648 ≤ (H24.1 1826 30) ∧ (H24.1 1826 30) ≤ 2147483647 := hrg25.1 1826 13 30 _ .int rfl rfl
            have g30 : -2147483648 ≤ (H24.1 1826 35) ∧ (H24.1 1826 35) ≤ 2147483647 := hrg25.1 1826 13 35 _ .int rfl rfl
            have g31 : -2147483648 ≤ (H24.1 1826 32) ∧ (H24.1 1826 32) ≤ 2147483647 := hrg25.1 1826 13 32 _ .int rfl rfl
            have g32 : -2147483648 ≤ (H24.1 1826 29) ∧ (H24.1 1826 29) ≤ 2147483647 := hrg25.1 1826 13 29 _ .int rfl rfl
            have e33 : (H24.1 1826 29) = (H.1 1826 29) := hx24f.2.2 29 (by decide)
            have g34 : -2147483648 ≤ (H24.1 1826 31) ∧ (H24.1 1826 31) ≤ 2147483647 := hrg25.1 1826 13 31 _ .int rfl rfl
            have g35 : -2147483648 ≤ (H24.1 1826 1) ∧ (H24.1 1826 1) ≤ 2147483647 := hrg25.1 1826 13 1 _ .int rfl rfl
            have e36 : (H24.1 1826 1) = (H.1 1826 1) := hx24f.2.2 1 (by decide)
            have g37 : -2147483648 ≤ (H24.1 1826 39) ∧ (H24.1 1826 39) ≤ 2147483647 := hrg25.1 1826 13 39 _ .int rfl rfl
            have e38 : (H24.1 1826 39) = (H.1 1826 39) := hx24f.2.2 39 (by decide)
            have g39 : -2147483648 ≤ (H24.1 1826 44) ∧ (H24.1 1826 44) ≤ 2147483647 := hrg25.1 1826 13 44 _ .int rfl rfl
            have e40 : (H24.1 1826 44) = (H.1 1826 44) := hx24f.2.2 44 (by decide)
            exact ⟨⟨(H24.1 1829 k3), rfl, by omega, by omega, (GB_i hx24n (fun q => ⟨_, (by rw [SK_name (H := H) (s := (1 + (k3 : Int))) (t := -1) (by omega) (by omega) (hx24f.2.2 47 (by decide)) (hx24f.2.1 1852 (by decide) (by decide)) (hx24f.2.1 1853 (by decide) (by decide)) (hx24f.2.1 1854 (by decide) (by decide)), hto, ← ta3]; exact hq9), ⟨q, VR_put hU.2.1 (hx24f.2.2 40 (by decide)) (hx24f.2.2 44 (by decide)) (hx24f.2.2 39 (by decide)) (hx24f.2.1 1849 (by decide) (by decide)) (hx24f.2.1 1850 (by decide) (by decide)), B0_name (s := (1 + (k3 : Int))) (t := -1) hU.2.2.1 (by have q8 : (H24.1 1826 40) = ((H.1 1826 40) + 1) := (hx24f.2.2 40 (by decide)); omega) (hx24f.2.2 44 (by decide)) (by omega) (by omega) (hx24f.2.2 47 (by decide)) (hx24f.2.1 1852 (by decide) (by decide)) (hx24f.2.1 1854 (by decide) (by decide)), RD_put hU.2.2.2 (by omega) rfl rfl (hx24f.2.2 43 (by decide)) (hx24f.2.1 1851 (by decide) (by decide))⟩, FH_app (by omega) (by omega) (by omega) (by rw [if_neg (by omega), if_neg (by omega), show ((1 + (k3 : Int)) - 1).toNat = k3 by omega]; omega)⟩))⟩, hf26, (by omega : (H.1 1826 30) ≤ (H24.1 1826 30) ∧ (H24.1 1826 30) ≤ (H.1 1826 29)), (by omega : 0 ≤ (H24.1 1826 35) ∧ (H24.1 1826 35) ≤ 5), (by omega : 0 ≤ (H24.1 1826 32) ∧ (H24.1 1826 32) ≤ 1000), (by omega : (H24.1 1826 35) = 0 → (H24.1 1826 31) = 0 ∨ (H.1 1826 30) < (H24.1 1826 30)), (by omega : ((H.1 1826 44) ≠ 2 → (H24.1 1826 39) = (H.1 1826 39)) ∧ (H.1 1826 39) ≤ (H24.1 1826 39)), fun _ => TT_sign (s := (1 + (k3 : Int))) (q := ((H.1 1830) k3).toNat) hP hTT ⟨⟨(hx24f.2.2 1 (by decide)), (hx24f.2.2 3 (by decide)), (hx24f.2.2 8 (by decide)), (hx24f.2.2 44 (by decide))⟩, (hx24f.2.1 1833 (by decide) (by decide)), (hx24f.2.1 1830 (by decide) (by decide))⟩ (Or.inr (Or.inl ⟨by omega, by omega⟩)) (by rw [ma_c (by omega), show ((1 + (k3 : Int)) - 1).toNat = k3 by omega]; have := (pw1 k3 (by omega)).1; omega) (by have := (pw1 k3 (by omega)).1; omega) (by omega) ⟨(hx24f.2.2 40 (by decide)), (hx24f.2.2 43 (by decide)), (hx24f.2.2 41 (by decide))⟩ (hx24f.2.1 1851 (by decide) (by decide)) (Or.inl ⟨(hx24f.2.2 39 (by decide)), (hx24f.2.1 1850 (by decide) (by decide))⟩) (Or.inr ⟨(Or.inl ⟨by omega, by omega⟩), (hx24f.2.2 47 (by decide)), (hx24f.2.1 1852 (by decide) (by decide)), (hx24f.2.1 1853 (by decide) (by decide)), -1, (hx24f.2.1 1854 (by decide) (by decide))⟩)⟩
        · refine h_run 3 (pc' := 63) (l' := [(0, .inr (.inr 1826)), (1, .inl t), (2, .inl h), (3, .inl (k3 : Int))]) (st' := [.inl (k3 : Int), .inr (.inr 1829)]) rfl ?_
          refine h_ild (c := 1829) (j := k3) (i := (k3 : Int)) rfl rfl (by decide) rfl (by omega) ?_
          have g41 : -2147483648 ≤ (H.1 1829 k3) ∧ (H.1 1829 k3) ≤ 2147483647 := hrg0.2 1829 k3 16 .int rfl (by omega)
          refine h_run 0 (pc' := 64) (l' := [(0, .inr (.inr 1826)), (1, .inl t), (2, .inl h), (3, .inl (k3 : Int))]) (st' := [.inl (H.1 1829 k3)]) rfl ?_
          refine h_run 1 (pc' := 65) (l' := [(0, .inr (.inr 1826)), (1, .inl t), (2, .inl h), (3, .inl (k3 : Int))]) (st' := [.inl t, .inl (H.1 1829 k3)]) rfl ?_
          refine h_ieq (off := 8) (t := 73) rfl rfl (by omega) (by omega) (fun c42 => ?_) (fun c42 => ?_)
          · refine h_run 1 (pc' := 74) (l' := [(0, .inr (.inr 1826)), (1, .inl t), (2, .inl h), (3, .inl (k3 : Int))]) (st' := [.inr (.inr 1826)]) rfl ?_
            have g43 : -2147483648 ≤ (H.1 1826 40) ∧ (H.1 1826 40) ≤ 2147483647 := hrg0.1 1826 13 40 _ .int rfl rfl
            by_cases b44 : (H.1 1826 40) = 40
            · refine h_cv (i := 344) (j := 168) (b := 1826) (M' := mt_168) (xs := []) (rest := []) rfl rfl rfl rfl rfl rfl (Nat.le_of_ble_eq_true rfl) (Nat.le_of_ble_eq_true rfl) (by omega) (m_countB (by omega) (by omega : (H.1 1826 35) = 0) (by omega : (H.1 1826 40) = 40)) ?_
              rintro _ _ ⟨rfl, rfl⟩
              refine h_run 0 (pc' := 77) (l' := [(0, .inr (.inr 1826)), (1, .inl t), (2, .inl h), (3, .inl (k3 : Int))]) (st' := []) rfl ?_
              refine h_run 4 (pc' := 81) (l' := [(0, .inr (.inr 1826)), (1, .inl t), (2, .inl h), (3, .inl (k3 : Int))]) (st' := [.inl (1 + (k3 : Int)), .inr (.inr 1826)]) rfl ?_
              refine h_cv (i := 350) (j := 169) (b := 1826) (M' := mt_169) (xs := [.inl (1 + (k3 : Int))]) (rest := []) rfl rfl rfl rfl rfl rfl (Nat.le_of_ble_eq_true rfl) (Nat.le_of_ble_eq_true rfl) (by omega) (m_put0 (by omega) (by omega : (5 : Int) ≠ 0)) ?_
              rintro _ _ ⟨rfl, rfl⟩
              refine h_run 0 (pc' := 84) (l' := [(0, .inr (.inr 1826)), (1, .inl t), (2, .inl h), (3, .inl (k3 : Int))]) (st' := []) rfl ?_
              refine h_run 1 (pc' := 85) (l' := [(0, .inr (.inr 1826)), (1, .inl t), (2, .inl h), (3, .inl (k3 : Int))]) (st' := [.inr (.inr 1826)]) rfl ?_
              refine h_cv (i := 293) (j := 158) (b := 1826) (M' := mt_158) (xs := []) (rest := []) rfl rfl rfl rfl rfl rfl (Nat.le_of_ble_eq_true rfl) (Nat.le_of_ble_eq_true rfl) (by omega) (m_good0 (by omega) (by omega : (5 : Int) ≠ 0)) ?_
              rintro _ _ ⟨rfl, rfl⟩
              refine h_run 0 (pc' := 88) (l' := [(0, .inr (.inr 1826)), (1, .inl t), (2, .inl h), (3, .inl (k3 : Int))]) (st' := [.inl 0]) rfl ?_
              refine h_zeq (off := 15) (t := 103) rfl rfl (by decide) (fun _ => ?_) (fun c => absurd c (by decide))
              refine h_run 3 (pc' := 108) (l' := [(0, .inr (.inr 1826)), (1, .inl t), (2, .inl h), (3, .inl (k3 : Int))]) (st' := [.inl (k3 : Int), .inr (.inr 1829)]) rfl ?_
              refine h_ild (c := 1829) (j := k3) (i := (k3 : Int)) rfl rfl (by decide) rfl (by omega) ?_
              refine h_run 0 (pc' := 109) (l' := [(0, .inr (.inr 1826)), (1, .inl t), (2, .inl h), (3, .inl (k3 : Int))]) (st' := [.inl (H.1 1829 k3)]) rfl ?_
              refine h_reti (x := (H.1 1829 k3)) rfl rfl ?_
              have g45 : -2147483648 ≤ (H.1 1826 30) ∧ (H.1 1826 30) ≤ 2147483647 := hrg0.1 1826 13 30 _ .int rfl rfl
              have g46 : -2147483648 ≤ (H.1 1826 32) ∧ (H.1 1826 32) ≤ 2147483647 := hrg0.1 1826 13 32 _ .int rfl rfl
              have g47 : -2147483648 ≤ (H.1 1826 29) ∧ (H.1 1826 29) ≤ 2147483647 := hrg0.1 1826 13 29 _ .int rfl rfl
              have g48 : -2147483648 ≤ (H.1 1826 31) ∧ (H.1 1826 31) ≤ 2147483647 := hrg0.1 1826 13 31 _ .int rfl rfl
              have g49 : -2147483648 ≤ (H.1 1826 1) ∧ (H.1 1826 1) ≤ 2147483647 := hrg0.1 1826 13 1 _ .int rfl rfl
              have g50 : -2147483648 ≤ (H.1 1826 39) ∧ (H.1 1826 39) ≤ 2147483647 := hrg0.1 1826 13 39 _ .int rfl rfl
              have g51 : -2147483648 ≤ (H.1 1826 44) ∧ (H.1 1826 44) ≤ 2147483647 := hrg0.1 1826 13 44 _ .int rfl rfl
              exact ⟨⟨(H.1 1829 k3), rfl, by omega, by omega, (Or.inr ⟨(by omega : (5 : Int) ≠ 0), (BD_mk hR (fr_o (fr_o (fr_o (fr_rf [35, 36, 40] [] H) (by decide)) (by decide)) (by decide)) (by decide) (by decide) (by decide : (5 : Int) ≠ 0) rfl rfl (rch_st hq (by show stTerm Y (me e t) (H.1 1826 41) (1 - h) (SK e H ++ K) X = _; unfold stTerm stApp stVar miss; rw [show cfd Y X = ((k3 : Nat) : Int) by omega, Int.toNat_natCast]; (repeat (first | rw [if_pos (by omega)] | rw [if_neg (by omega)])); try (first | rfl | (exfalso; omega)))))⟩)⟩, (fr_o (fr_o (fr_o (fr_rf _ _ _) (by decide)) (by decide)) (by decide)), (by omega : (H.1 1826 30) ≤ (H.1 1826 30) ∧ (H.1 1826 30) ≤ (H.1 1826 29)), (by omega : 0 ≤ (5 : Int) ∧ (5 : Int) ≤ 5), (by omega : 0 ≤ (H.1 1826 32) ∧ (H.1 1826 32) ≤ 1000), (by omega : (5 : Int) = 0 → (H.1 1826 31) = 0 ∨ (H.1 1826 30) < (H.1 1826 30)), (by omega : ((H.1 1826 44) ≠ 2 → (H.1 1826 39) = (H.1 1826 39)) ∧ (H.1 1826 39) ≤ (H.1 1826 39)), (fun (q : (5 : Int) = 0) => absurd q (by omega))⟩
            · refine h_cv (i := 344) (j := 168) (b := 1826) (M' := mt_168) (xs := []) (rest := []) rfl rfl rfl rfl rfl rfl (Nat.le_of_ble_eq_true rfl) (Nat.le_of_ble_eq_true rfl) (by omega) (m_countA (by omega) (by omega : (H.1 1826 35) = 0) (by omega : 0 ≤ (H.1 1826 40) ∧ (H.1 1826 40) ≤ 1000) (by omega : (H.1 1826 40) ≠ 40)) ?_
              rintro _ _ ⟨rfl, rfl⟩
              refine h_run 0 (pc' := 77) (l' := [(0, .inr (.inr 1826)), (1, .inl t), (2, .inl h), (3, .inl (k3 : Int))]) (st' := []) rfl ?_
              refine h_run 4 (pc' := 81) (l' := [(0, .inr (.inr 1826)), (1, .inl t), (2, .inl h), (3, .inl (k3 : Int))]) (st' := [.inl (1 + (k3 : Int)), .inr (.inr 1826)]) rfl ?_
              have g52 : -2147483648 ≤ (H.1 1826 43) ∧ (H.1 1826 43) ≤ 2147483647 := hrg0.1 1826 13 43 _ .int rfl rfl
              refine h_cv (i := 350) (j := 169) (b := 1826) (M' := mt_169) (xs := [.inl (1 + (k3 : Int))]) (rest := []) rfl rfl rfl rfl rfl rfl (Nat.le_of_ble_eq_true rfl) (Nat.le_of_ble_eq_true rfl) (by omega) (m_put1 (by omega) (by omega : (H.1 1826 35) = 0) (by omega : 0 ≤ (H.1 1826 43) ∧ (H.1 1826 43) ≤ 47) (by omega)) ?_
              rintro _ _ ⟨rfl, rfl⟩
              refine h_run 0 (pc' := 84) (l' := [(0, .inr (.inr 1826)), (1, .inl t), (2, .inl h), (3, .inl (k3 : Int))]) (st' := []) rfl ?_
              refine h_run 1 (pc' := 85) (l' := [(0, .inr (.inr 1826)), (1, .inl t), (2, .inl h), (3, .inl (k3 : Int))]) (st' := [.inr (.inr 1826)]) rfl ?_
              refine h_cv (i := 293) (j := 158) (b := 1826) (M' := mt_158) (xs := []) (rest := []) rfl rfl rfl rfl rfl rfl (Nat.le_of_ble_eq_true rfl) (Nat.le_of_ble_eq_true rfl) (by omega) (m_good1 (by omega) (by omega : (H.1 1826 35) = 0)) ?_
              rintro _ _ ⟨rfl, rfl⟩
              refine h_run 0 (pc' := 88) (l' := [(0, .inr (.inr 1826)), (1, .inl t), (2, .inl h), (3, .inl (k3 : Int))]) (st' := [.inl 1]) rfl ?_
              refine h_zeq (off := 15) (t := 103) rfl rfl (by decide) (fun c => absurd c (by decide)) (fun _ => ?_)
              refine h_run 5 (pc' := 96) (l' := [(0, .inr (.inr 1826)), (1, .inl t), (2, .inl h), (3, .inl (k3 : Int))]) (st' := [.inl (-1), .inl (1 + (k3 : Int)), .inr (.inr 1826)]) rfl ?_
              have g53 : -2147483648 ≤ (H.1 1826 47) ∧ (H.1 1826 47) ≤ 2147483647 := hrg0.1 1826 13 47 _ .int rfl rfl
              refine h_cv (i := 364) (j := 181) (b := 1826) (M' := mt_181) (xs := [.inl (-1), .inl (1 + (k3 : Int))]) (rest := []) rfl rfl rfl rfl rfl rfl (Nat.le_of_ble_eq_true rfl) (Nat.le_of_ble_eq_true rfl) (by omega) (m_enter (by omega) (by omega : 0 ≤ (H.1 1826 47) ∧ (H.1 1826 47) ≤ 63) (by omega) (by omega)) ?_
              rintro _ _ ⟨rfl, rfl⟩
              refine h_run 0 (pc' := 99) (l' := [(0, .inr (.inr 1826)), (1, .inl t), (2, .inl h), (3, .inl (k3 : Int))]) (st' := []) rfl ?_
              have hq9 : rch Y c0 ((3, (1 + (k3 : Int)), 0, (H.1 1826 41)) :: (SK e H ++ K), xput X (1 + (k3 : Int))) := (rch_st hq (by show stTerm Y (me e t) (H.1 1826 41) (1 - h) (SK e H ++ K) X = _; unfold stTerm stApp stVar miss; rw [show cfd Y X = ((k3 : Nat) : Int) by omega, Int.toNat_natCast]; (repeat (first | rw [if_pos (by omega)] | rw [if_neg (by omega)])); try (first | rfl | (exfalso; omega))))
              refine h_run 1 (pc' := 100) (l' := [(0, .inr (.inr 1826)), (1, .inl t), (2, .inl h), (3, .inl (k3 : Int))]) (st' := [.inr (.inr 1826)]) rfl ?_
              have g54 : -2147483648 ≤ (H.1 1826 30) ∧ (H.1 1826 30) ≤ 2147483647 := hrg0.1 1826 13 30 _ .int rfl rfl
              have g55 : -2147483648 ≤ (H.1 1826 29) ∧ (H.1 1826 29) ≤ 2147483647 := hrg0.1 1826 13 29 _ .int rfl rfl
              have g56 : -2147483648 ≤ (H.1 1826 32) ∧ (H.1 1826 32) ≤ 2147483647 := hrg0.1 1826 13 32 _ .int rfl rfl
              refine h_cv (i := 297) (j := 165) (b := 1826) (M' := mt_165) (xs := []) (rest := []) rfl rfl rfl rfl rfl rfl (Nat.le_of_ble_eq_true rfl) (Nat.le_of_ble_eq_true rfl) (by omega) (n_nx (by omega) (by omega : 0 ≤ (H.1 1826 30) ∧ (H.1 1826 30) ≤ (H.1 1826 29) ∧ (H.1 1826 29) ≤ 1000) (by omega : 0 ≤ (H.1 1826 35) ∧ (H.1 1826 35) ≤ 5) (by omega : 0 ≤ (H.1 1826 32) ∧ (H.1 1826 32) ≤ 1000) (by omega : (H.1 1826 35) = 0) (X := (xput X (1 + (k3 : Int)))) (RN_mk hR (fr_o (fr_a (fr_a (fr_a (fr_o (fr_a (fr_o (fr_rf [40, 43, 47] [1851, 1852, 1853, 1854] H) (by decide)) (by decide)) (by decide)) (by decide)) (by decide)) (by decide)) (by decide)) (by decide) (by decide) (xpt_s _ _).1 (TA_sT (TA_fr hR.2.2.2.2 (fr_o (fr_a (fr_a (fr_a (fr_o (fr_a (fr_o (fr_rf [40, 43, 47] [1851, 1852, 1853, 1854] H) (by decide)) (by decide)) (by decide)) (by decide)) (by decide)) (by decide)) (by decide)) (by decide) (by decide)) (sT_put X _))) hq9 (lk_c (SK_lk hK) (by decide : (3 : Nat) ≠ 0) (fun q => absurd q (by decide : (3 : Nat) ≠ 1)))) ?_
              rintro _ H57 ⟨rfl, hx57n, hx57f, hx57a, hx57b, hx57c, -, hx57e, hx57g⟩
              refine h_rng (fun hrg58 => ?_)
              have hf59 : fr [30, 31, 32, 33, 35, 36, 39, 40, 41, 43, 47] [1849, 1850, 1851, 1852, 1853, 1854] H H57 := fr_t (fr_o (fr_a (fr_a (fr_a (fr_o (fr_a (fr_o (fr_rf _ _ _) (by decide)) (by decide)) (by decide)) (by decide)) (by decide)) (by decide)) (by decide)) hx57f (by decide) (by decide)
              replace hx57a : (H.1 1826 30) ≤ (H57.1 1826 30) := hx57a
              replace hx57b : (H57.1 1826 30) ≤ (H.1 1826 29) := hx57b
              replace hx57g : (H57.1 1826 35) = 0 → ((H57.1 1826 31) = 0 ∨ (H.1 1826 30) < (H57.1 1826 30)) := hx57g
              refine h_run 0 (pc' := 103) (l' := [(0, .inr (.inr 1826)), (1, .inl t), (2, .inl h), (3, .inl (k3 : Int))]) (st' := []) rfl ?_
              refine h_run 3 (pc' := 108) (l' := [(0, .inr (.inr 1826)), (1, .inl t), (2, .inl h), (3, .inl (k3 : Int))]) (st' := [.inl (k3 : Int), .inr (.inr 1829)]) rfl ?_
              refine h_ild (c := 1829) (j := k3) (i := (k3 : Int)) rfl rfl (by decide) rfl (by omega) ?_
              have g60 : -2147483648 ≤ (H57.1 1829 k3) ∧ (H57.1 1829 k3) ≤ 2147483647 := hrg58.2 1829 k3 16 .int rfl (by omega)
              have e61 : (H57.1 1829 k3) = (H.1 1829 k3) := congrFun (hx57f.2.1 1829 (by decide) (by decide)) k3
              refine h_run 0 (pc' := 109) (l' := [(0, .inr (.inr 1826)), (1, .inl t), (2, .inl h), (3, .inl (k3 : Int))]) (st' := [.inl (H57.1 1829 k3)]) rfl ?_
              refine h_reti (x := (H57.1 1829 k3)) rfl rfl ?_
              have g62 : -2147483648 ≤ (H57.1 1826 30) ∧ (H57.1 1826 30) ≤ 2147483647 := hrg58.1 1826 13 30 _ .int rfl rfl
              have g63 : -2147483648 ≤ (H57.1 1826 35) ∧ (H57.1 1826 35) ≤ 2147483647 := hrg58.1 1826 13 35 _ .int rfl rfl
              have g64 : -2147483648 ≤ (H57.1 1826 32) ∧ (H57.1 1826 32) ≤ 2147483647 := hrg58.1 1826 13 32 _ .int rfl rfl
              have g65 : -2147483648 ≤ (H57.1 1826 29) ∧ (H57.1 1826 29) ≤ 2147483647 := hrg58.1 1826 13 29 _ .int rfl rfl
              have e66 : (H57.1 1826 29) = (H.1 1826 29) := hx57f.2.2 29 (by decide)
              have g67 : -2147483648 ≤ (H57.1 1826 31) ∧ (H57.1 1826 31) ≤ 2147483647 := hrg58.1 1826 13 31 _ .int rfl rfl
              have g68 : -2147483648 ≤ (H57.1 1826 1) ∧ (H57.1 1826 1) ≤ 2147483647 := hrg58.1 1826 13 1 _ .int rfl rfl
              have e69 : (H57.1 1826 1) = (H.1 1826 1) := hx57f.2.2 1 (by decide)
              have g70 : -2147483648 ≤ (H57.1 1826 39) ∧ (H57.1 1826 39) ≤ 2147483647 := hrg58.1 1826 13 39 _ .int rfl rfl
              have e71 : (H57.1 1826 39) = (H.1 1826 39) := hx57f.2.2 39 (by decide)
              have g72 : -2147483648 ≤ (H57.1 1826 44) ∧ (H57.1 1826 44) ≤ 2147483647 := hrg58.1 1826 13 44 _ .int rfl rfl
              have e73 : (H57.1 1826 44) = (H.1 1826 44) := hx57f.2.2 44 (by decide)
              exact ⟨⟨(H57.1 1829 k3), rfl, by omega, by omega, (GB_i hx57n (fun q => ⟨_, (by rw [SK_name (H := H) (s := (1 + (k3 : Int))) (t := -1) (by omega) (by omega) (hx57f.2.2 47 (by decide)) (hx57f.2.1 1852 (by decide) (by decide)) (hx57f.2.1 1853 (by decide) (by decide)) (hx57f.2.1 1854 (by decide) (by decide)), hto, ← ta3]; exact hq9), ⟨q, VR_put hU.2.1 (hx57f.2.2 40 (by decide)) (hx57f.2.2 44 (by decide)) (hx57f.2.2 39 (by decide)) (hx57f.2.1 1849 (by decide) (by decide)) (hx57f.2.1 1850 (by decide) (by decide)), B0_name (s := (1 + (k3 : Int))) (t := -1) hU.2.2.1 (by have q8 : (H57.1 1826 40) = ((H.1 1826 40) + 1) := (hx57f.2.2 40 (by decide)); omega) (hx57f.2.2 44 (by decide)) (by omega) (by omega) (hx57f.2.2 47 (by decide)) (hx57f.2.1 1852 (by decide) (by decide)) (hx57f.2.1 1854 (by decide) (by decide)), RD_put hU.2.2.2 (by omega) rfl rfl (hx57f.2.2 43 (by decide)) (hx57f.2.1 1851 (by decide) (by decide))⟩, FH_app (by omega) (by omega) (by omega) (by rw [if_neg (by omega), if_neg (by omega), show ((1 + (k3 : Int)) - 1).toNat = k3 by omega]; omega)⟩))⟩, hf59, (by omega : (H.1 1826 30) ≤ (H57.1 1826 30) ∧ (H57.1 1826 30) ≤ (H.1 1826 29)), (by omega : 0 ≤ (H57.1 1826 35) ∧ (H57.1 1826 35) ≤ 5), (by omega : 0 ≤ (H57.1 1826 32) ∧ (H57.1 1826 32) ≤ 1000), (by omega : (H57.1 1826 35) = 0 → (H57.1 1826 31) = 0 ∨ (H.1 1826 30) < (H57.1 1826 30)), (by omega : ((H.1 1826 44) ≠ 2 → (H57.1 1826 39) = (H.1 1826 39)) ∧ (H.1 1826 39) ≤ (H57.1 1826 39)), fun _ => TT_sign (s := (1 + (k3 : Int))) (q := ((H.1 1830) k3).toNat) hP hTT ⟨⟨(hx57f.2.2 1 (by decide)), (hx57f.2.2 3 (by decide)), (hx57f.2.2 8 (by decide)), (hx57f.2.2 44 (by decide))⟩, (hx57f.2.1 1833 (by decide) (by decide)), (hx57f.2.1 1830 (by decide) (by decide))⟩ (Or.inr (Or.inl ⟨by omega, by omega⟩)) (by rw [ma_c (by omega), show ((1 + (k3 : Int)) - 1).toNat = k3 by omega]; have := (pw1 k3 (by omega)).1; omega) (by have := (pw1 k3 (by omega)).1; omega) (by omega) ⟨(hx57f.2.2 40 (by decide)), (hx57f.2.2 43 (by decide)), (hx57f.2.2 41 (by decide))⟩ (hx57f.2.1 1851 (by decide) (by decide)) (Or.inl ⟨(hx57f.2.2 39 (by decide)), (hx57f.2.1 1850 (by decide) (by decide))⟩) (Or.inr ⟨(Or.inl ⟨by omega, by omega⟩), (hx57f.2.2 47 (by decide)), (hx57f.2.1 1852 (by decide) (by decide)), (hx57f.2.1 1853 (by decide) (by decide)), -1, (hx57f.2.1 1854 (by decide) (by decide))⟩)⟩
          · refine h_run 2 (pc' := 70) (l' := [(0, .inr (.inr 1826)), (1, .inl t), (2, .inl h), (3, .inl (k3 : Int))]) (st' := [.inl 4, .inr (.inr 1826)]) rfl ?_
            refine h_cv (i := 278) (j := 159) (b := 1826) (M' := mt_159) (xs := [.inl 4]) (rest := []) rfl rfl rfl rfl rfl rfl (Nat.le_of_ble_eq_true rfl) (Nat.le_of_ble_eq_true rfl) (by omega) (m_bad0 (by omega) (by omega) (by omega : (H.1 1826 35) = 0)) ?_
            rintro _ _ ⟨rfl, rfl⟩
            refine h_run 0 (pc' := 73) (l' := [(0, .inr (.inr 1826)), (1, .inl t), (2, .inl h), (3, .inl (k3 : Int))]) (st' := []) rfl ?_
            refine h_run 1 (pc' := 74) (l' := [(0, .inr (.inr 1826)), (1, .inl t), (2, .inl h), (3, .inl (k3 : Int))]) (st' := [.inr (.inr 1826)]) rfl ?_
            have g74 : -2147483648 ≤ (H.1 1826 40) ∧ (H.1 1826 40) ≤ 2147483647 := hrg0.1 1826 13 40 _ .int rfl rfl
            refine h_cv (i := 344) (j := 168) (b := 1826) (M' := mt_168) (xs := []) (rest := []) rfl rfl rfl rfl rfl rfl (Nat.le_of_ble_eq_true rfl) (Nat.le_of_ble_eq_true rfl) (by omega) (m_countC (by omega) (by omega : (4 : Int) ≠ 0) (by omega : 0 ≤ (H.1 1826 40) ∧ (H.1 1826 40) ≤ 1000)) ?_
            rintro _ _ ⟨rfl, rfl⟩
            refine h_run 0 (pc' := 77) (l' := [(0, .inr (.inr 1826)), (1, .inl t), (2, .inl h), (3, .inl (k3 : Int))]) (st' := []) rfl ?_
            refine h_run 4 (pc' := 81) (l' := [(0, .inr (.inr 1826)), (1, .inl t), (2, .inl h), (3, .inl (k3 : Int))]) (st' := [.inl (1 + (k3 : Int)), .inr (.inr 1826)]) rfl ?_
            refine h_cv (i := 350) (j := 169) (b := 1826) (M' := mt_169) (xs := [.inl (1 + (k3 : Int))]) (rest := []) rfl rfl rfl rfl rfl rfl (Nat.le_of_ble_eq_true rfl) (Nat.le_of_ble_eq_true rfl) (by omega) (m_put0 (by omega) (by omega : (4 : Int) ≠ 0)) ?_
            rintro _ _ ⟨rfl, rfl⟩
            refine h_run 0 (pc' := 84) (l' := [(0, .inr (.inr 1826)), (1, .inl t), (2, .inl h), (3, .inl (k3 : Int))]) (st' := []) rfl ?_
            refine h_run 1 (pc' := 85) (l' := [(0, .inr (.inr 1826)), (1, .inl t), (2, .inl h), (3, .inl (k3 : Int))]) (st' := [.inr (.inr 1826)]) rfl ?_
            refine h_cv (i := 293) (j := 158) (b := 1826) (M' := mt_158) (xs := []) (rest := []) rfl rfl rfl rfl rfl rfl (Nat.le_of_ble_eq_true rfl) (Nat.le_of_ble_eq_true rfl) (by omega) (m_good0 (by omega) (by omega : (4 : Int) ≠ 0)) ?_
            rintro _ _ ⟨rfl, rfl⟩
            refine h_run 0 (pc' := 88) (l' := [(0, .inr (.inr 1826)), (1, .inl t), (2, .inl h), (3, .inl (k3 : Int))]) (st' := [.inl 0]) rfl ?_
            refine h_zeq (off := 15) (t := 103) rfl rfl (by decide) (fun _ => ?_) (fun c => absurd c (by decide))
            refine h_run 3 (pc' := 108) (l' := [(0, .inr (.inr 1826)), (1, .inl t), (2, .inl h), (3, .inl (k3 : Int))]) (st' := [.inl (k3 : Int), .inr (.inr 1829)]) rfl ?_
            refine h_ild (c := 1829) (j := k3) (i := (k3 : Int)) rfl rfl (by decide) rfl (by omega) ?_
            refine h_run 0 (pc' := 109) (l' := [(0, .inr (.inr 1826)), (1, .inl t), (2, .inl h), (3, .inl (k3 : Int))]) (st' := [.inl (H.1 1829 k3)]) rfl ?_
            refine h_reti (x := (H.1 1829 k3)) rfl rfl ?_
            have g75 : -2147483648 ≤ (H.1 1826 30) ∧ (H.1 1826 30) ≤ 2147483647 := hrg0.1 1826 13 30 _ .int rfl rfl
            have g76 : -2147483648 ≤ (H.1 1826 32) ∧ (H.1 1826 32) ≤ 2147483647 := hrg0.1 1826 13 32 _ .int rfl rfl
            have g77 : -2147483648 ≤ (H.1 1826 29) ∧ (H.1 1826 29) ≤ 2147483647 := hrg0.1 1826 13 29 _ .int rfl rfl
            have g78 : -2147483648 ≤ (H.1 1826 31) ∧ (H.1 1826 31) ≤ 2147483647 := hrg0.1 1826 13 31 _ .int rfl rfl
            have g79 : -2147483648 ≤ (H.1 1826 1) ∧ (H.1 1826 1) ≤ 2147483647 := hrg0.1 1826 13 1 _ .int rfl rfl
            have g80 : -2147483648 ≤ (H.1 1826 39) ∧ (H.1 1826 39) ≤ 2147483647 := hrg0.1 1826 13 39 _ .int rfl rfl
            have g81 : -2147483648 ≤ (H.1 1826 44) ∧ (H.1 1826 44) ≤ 2147483647 := hrg0.1 1826 13 44 _ .int rfl rfl
            exact ⟨⟨(H.1 1829 k3), rfl, by omega, by omega, (Or.inr ⟨(by omega : (4 : Int) ≠ 0), (BD_mk hR (fr_o (fr_o (fr_o (fr_rf [35, 36, 40] [] H) (by decide)) (by decide)) (by decide)) (by decide) (by decide) (by decide : (4 : Int) ≠ 0) rfl rfl (rch_st hq (by show stTerm Y (me e t) (H.1 1826 41) (1 - h) (SK e H ++ K) X = _; unfold stTerm stApp stVar miss; rw [show cfd Y X = ((k3 : Nat) : Int) by omega, Int.toNat_natCast]; (repeat (first | rw [if_pos (by omega)] | rw [if_neg (by omega)])); try (first | rfl | (exfalso; omega)))))⟩)⟩, (fr_o (fr_o (fr_o (fr_rf _ _ _) (by decide)) (by decide)) (by decide)), (by omega : (H.1 1826 30) ≤ (H.1 1826 30) ∧ (H.1 1826 30) ≤ (H.1 1826 29)), (by omega : 0 ≤ (4 : Int) ∧ (4 : Int) ≤ 5), (by omega : 0 ≤ (H.1 1826 32) ∧ (H.1 1826 32) ≤ 1000), (by omega : (4 : Int) = 0 → (H.1 1826 31) = 0 ∨ (H.1 1826 30) < (H.1 1826 30)), (by omega : ((H.1 1826 44) ≠ 2 → (H.1 1826 39) = (H.1 1826 39)) ∧ (H.1 1826 39) ≤ (H.1 1826 39)), (fun (q : (4 : Int) = 0) => absurd q (by omega))⟩
      · refine h_run 3 (pc' := 37) (l' := [(0, .inr (.inr 1826)), (1, .inl t), (2, .inl h), (3, .inl (k3 : Int))]) (st' := [.inl (k3 : Int), .inr (.inr 1830)]) rfl ?_
        refine h_ild (c := 1830) (j := k3) (i := (k3 : Int)) rfl rfl (by decide) rfl (by omega) ?_
        have g82 : -2147483648 ≤ (H.1 1830 k3) ∧ (H.1 1830 k3) ≤ 2147483647 := hrg0.2 1830 k3 16 .int rfl (by omega)
        refine h_run 0 (pc' := 38) (l' := [(0, .inr (.inr 1826)), (1, .inl t), (2, .inl h), (3, .inl (k3 : Int))]) (st' := [.inl (H.1 1830 k3)]) rfl ?_
        refine h_zle (off := 8) (t := 46) rfl rfl (by omega) (fun c83 => ?_) (fun c83 => ?_)
        · refine h_run 1 (pc' := 47) (l' := [(0, .inr (.inr 1826)), (1, .inl t), (2, .inl h), (3, .inl (k3 : Int))]) (st' := [.inr (.inr 1826)]) rfl ?_
          have g84 : -2147483648 ≤ (H.1 1826 35) ∧ (H.1 1826 35) ≤ 2147483647 := hrg0.1 1826 13 35 _ .int rfl rfl
          refine h_cv (i := 293) (j := 158) (b := 1826) (M' := mt_158) (xs := []) (rest := []) rfl rfl rfl rfl rfl rfl (Nat.le_of_ble_eq_true rfl) (Nat.le_of_ble_eq_true rfl) (by omega) (m_good1 (by omega) (by omega : (H.1 1826 35) = 0)) ?_
          rintro _ _ ⟨rfl, rfl⟩
          refine h_run 0 (pc' := 50) (l' := [(0, .inr (.inr 1826)), (1, .inl t), (2, .inl h), (3, .inl (k3 : Int))]) (st' := [.inl 1]) rfl ?_
          refine h_zeq (off := 23) (t := 73) rfl rfl (by decide) (fun c => absurd c (by decide)) (fun _ => ?_)
          refine h_run 2 (pc' := 55) (l' := [(0, .inr (.inr 1826)), (1, .inl t), (2, .inl h), (3, .inl (k3 : Int))]) (st' := [.inl (-1), .inl t]) rfl ?_
          refine h_ieq (off := 18) (t := 73) rfl rfl (by omega) (by decide) (fun c85 => ?_) (fun c85 => ?_)
          · refine h_run 1 (pc' := 74) (l' := [(0, .inr (.inr 1826)), (1, .inl t), (2, .inl h), (3, .inl (k3 : Int))]) (st' := [.inr (.inr 1826)]) rfl ?_
            have g86 : -2147483648 ≤ (H.1 1826 40) ∧ (H.1 1826 40) ≤ 2147483647 := hrg0.1 1826 13 40 _ .int rfl rfl
            by_cases b87 : (H.1 1826 40) = 40
            · refine h_cv (i := 344) (j := 168) (b := 1826) (M' := mt_168) (xs := []) (rest := []) rfl rfl rfl rfl rfl rfl (Nat.le_of_ble_eq_true rfl) (Nat.le_of_ble_eq_true rfl) (by omega) (m_countB (by omega) (by omega : (H.1 1826 35) = 0) (by omega : (H.1 1826 40) = 40)) ?_
              rintro _ _ ⟨rfl, rfl⟩
              refine h_run 0 (pc' := 77) (l' := [(0, .inr (.inr 1826)), (1, .inl t), (2, .inl h), (3, .inl (k3 : Int))]) (st' := []) rfl ?_
              refine h_run 4 (pc' := 81) (l' := [(0, .inr (.inr 1826)), (1, .inl t), (2, .inl h), (3, .inl (k3 : Int))]) (st' := [.inl (1 + (k3 : Int)), .inr (.inr 1826)]) rfl ?_
              refine h_cv (i := 350) (j := 169) (b := 1826) (M' := mt_169) (xs := [.inl (1 + (k3 : Int))]) (rest := []) rfl rfl rfl rfl rfl rfl (Nat.le_of_ble_eq_true rfl) (Nat.le_of_ble_eq_true rfl) (by omega) (m_put0 (by omega) (by omega : (5 : Int) ≠ 0)) ?_
              rintro _ _ ⟨rfl, rfl⟩
              refine h_run 0 (pc' := 84) (l' := [(0, .inr (.inr 1826)), (1, .inl t), (2, .inl h), (3, .inl (k3 : Int))]) (st' := []) rfl ?_
              refine h_run 1 (pc' := 85) (l' := [(0, .inr (.inr 1826)), (1, .inl t), (2, .inl h), (3, .inl (k3 : Int))]) (st' := [.inr (.inr 1826)]) rfl ?_
              refine h_cv (i := 293) (j := 158) (b := 1826) (M' := mt_158) (xs := []) (rest := []) rfl rfl rfl rfl rfl rfl (Nat.le_of_ble_eq_true rfl) (Nat.le_of_ble_eq_true rfl) (by omega) (m_good0 (by omega) (by omega : (5 : Int) ≠ 0)) ?_
              rintro _ _ ⟨rfl, rfl⟩
              refine h_run 0 (pc' := 88) (l' := [(0, .inr (.inr 1826)), (1, .inl t), (2, .inl h), (3, .inl (k3 : Int))]) (st' := [.inl 0]) rfl ?_
              refine h_zeq (off := 15) (t := 103) rfl rfl (by decide) (fun _ => ?_) (fun c => absurd c (by decide))
              refine h_run 3 (pc' := 108) (l' := [(0, .inr (.inr 1826)), (1, .inl t), (2, .inl h), (3, .inl (k3 : Int))]) (st' := [.inl (k3 : Int), .inr (.inr 1829)]) rfl ?_
              refine h_ild (c := 1829) (j := k3) (i := (k3 : Int)) rfl rfl (by decide) rfl (by omega) ?_
              have g88 : -2147483648 ≤ (H.1 1829 k3) ∧ (H.1 1829 k3) ≤ 2147483647 := hrg0.2 1829 k3 16 .int rfl (by omega)
              refine h_run 0 (pc' := 109) (l' := [(0, .inr (.inr 1826)), (1, .inl t), (2, .inl h), (3, .inl (k3 : Int))]) (st' := [.inl (H.1 1829 k3)]) rfl ?_
              refine h_reti (x := (H.1 1829 k3)) rfl rfl ?_
              have g89 : -2147483648 ≤ (H.1 1826 30) ∧ (H.1 1826 30) ≤ 2147483647 := hrg0.1 1826 13 30 _ .int rfl rfl
              have g90 : -2147483648 ≤ (H.1 1826 32) ∧ (H.1 1826 32) ≤ 2147483647 := hrg0.1 1826 13 32 _ .int rfl rfl
              have g91 : -2147483648 ≤ (H.1 1826 29) ∧ (H.1 1826 29) ≤ 2147483647 := hrg0.1 1826 13 29 _ .int rfl rfl
              have g92 : -2147483648 ≤ (H.1 1826 31) ∧ (H.1 1826 31) ≤ 2147483647 := hrg0.1 1826 13 31 _ .int rfl rfl
              have g93 : -2147483648 ≤ (H.1 1826 1) ∧ (H.1 1826 1) ≤ 2147483647 := hrg0.1 1826 13 1 _ .int rfl rfl
              have g94 : -2147483648 ≤ (H.1 1826 39) ∧ (H.1 1826 39) ≤ 2147483647 := hrg0.1 1826 13 39 _ .int rfl rfl
              have g95 : -2147483648 ≤ (H.1 1826 44) ∧ (H.1 1826 44) ≤ 2147483647 := hrg0.1 1826 13 44 _ .int rfl rfl
              exact ⟨⟨(H.1 1829 k3), rfl, by omega, by omega, (Or.inr ⟨(by omega : (5 : Int) ≠ 0), (BD_mk hR (fr_o (fr_o (fr_o (fr_rf [35, 36, 40] [] H) (by decide)) (by decide)) (by decide)) (by decide) (by decide) (by decide : (5 : Int) ≠ 0) rfl rfl (rch_st hq (by show stTerm Y (me e t) (H.1 1826 41) (1 - h) (SK e H ++ K) X = _; unfold stTerm stApp stVar miss; rw [show cfd Y X = ((k3 : Nat) : Int) by omega, Int.toNat_natCast]; (repeat (first | rw [if_pos (by omega)] | rw [if_neg (by omega)])); try (first | rfl | (exfalso; omega)))))⟩)⟩, (fr_o (fr_o (fr_o (fr_rf _ _ _) (by decide)) (by decide)) (by decide)), (by omega : (H.1 1826 30) ≤ (H.1 1826 30) ∧ (H.1 1826 30) ≤ (H.1 1826 29)), (by omega : 0 ≤ (5 : Int) ∧ (5 : Int) ≤ 5), (by omega : 0 ≤ (H.1 1826 32) ∧ (H.1 1826 32) ≤ 1000), (by omega : (5 : Int) = 0 → (H.1 1826 31) = 0 ∨ (H.1 1826 30) < (H.1 1826 30)), (by omega : ((H.1 1826 44) ≠ 2 → (H.1 1826 39) = (H.1 1826 39)) ∧ (H.1 1826 39) ≤ (H.1 1826 39)), (fun (q : (5 : Int) = 0) => absurd q (by omega))⟩
            · refine h_cv (i := 344) (j := 168) (b := 1826) (M' := mt_168) (xs := []) (rest := []) rfl rfl rfl rfl rfl rfl (Nat.le_of_ble_eq_true rfl) (Nat.le_of_ble_eq_true rfl) (by omega) (m_countA (by omega) (by omega : (H.1 1826 35) = 0) (by omega : 0 ≤ (H.1 1826 40) ∧ (H.1 1826 40) ≤ 1000) (by omega : (H.1 1826 40) ≠ 40)) ?_
              rintro _ _ ⟨rfl, rfl⟩
              refine h_run 0 (pc' := 77) (l' := [(0, .inr (.inr 1826)), (1, .inl t), (2, .inl h), (3, .inl (k3 : Int))]) (st' := []) rfl ?_
              refine h_run 4 (pc' := 81) (l' := [(0, .inr (.inr 1826)), (1, .inl t), (2, .inl h), (3, .inl (k3 : Int))]) (st' := [.inl (1 + (k3 : Int)), .inr (.inr 1826)]) rfl ?_
              have g96 : -2147483648 ≤ (H.1 1826 43) ∧ (H.1 1826 43) ≤ 2147483647 := hrg0.1 1826 13 43 _ .int rfl rfl
              refine h_cv (i := 350) (j := 169) (b := 1826) (M' := mt_169) (xs := [.inl (1 + (k3 : Int))]) (rest := []) rfl rfl rfl rfl rfl rfl (Nat.le_of_ble_eq_true rfl) (Nat.le_of_ble_eq_true rfl) (by omega) (m_put1 (by omega) (by omega : (H.1 1826 35) = 0) (by omega : 0 ≤ (H.1 1826 43) ∧ (H.1 1826 43) ≤ 47) (by omega)) ?_
              rintro _ _ ⟨rfl, rfl⟩
              refine h_run 0 (pc' := 84) (l' := [(0, .inr (.inr 1826)), (1, .inl t), (2, .inl h), (3, .inl (k3 : Int))]) (st' := []) rfl ?_
              refine h_run 1 (pc' := 85) (l' := [(0, .inr (.inr 1826)), (1, .inl t), (2, .inl h), (3, .inl (k3 : Int))]) (st' := [.inr (.inr 1826)]) rfl ?_
              refine h_cv (i := 293) (j := 158) (b := 1826) (M' := mt_158) (xs := []) (rest := []) rfl rfl rfl rfl rfl rfl (Nat.le_of_ble_eq_true rfl) (Nat.le_of_ble_eq_true rfl) (by omega) (m_good1 (by omega) (by omega : (H.1 1826 35) = 0)) ?_
              rintro _ _ ⟨rfl, rfl⟩
              refine h_run 0 (pc' := 88) (l' := [(0, .inr (.inr 1826)), (1, .inl t), (2, .inl h), (3, .inl (k3 : Int))]) (st' := [.inl 1]) rfl ?_
              refine h_zeq (off := 15) (t := 103) rfl rfl (by decide) (fun c => absurd c (by decide)) (fun _ => ?_)
              refine h_run 5 (pc' := 96) (l' := [(0, .inr (.inr 1826)), (1, .inl t), (2, .inl h), (3, .inl (k3 : Int))]) (st' := [.inl (-1), .inl (1 + (k3 : Int)), .inr (.inr 1826)]) rfl ?_
              have g97 : -2147483648 ≤ (H.1 1826 47) ∧ (H.1 1826 47) ≤ 2147483647 := hrg0.1 1826 13 47 _ .int rfl rfl
              refine h_cv (i := 364) (j := 181) (b := 1826) (M' := mt_181) (xs := [.inl (-1), .inl (1 + (k3 : Int))]) (rest := []) rfl rfl rfl rfl rfl rfl (Nat.le_of_ble_eq_true rfl) (Nat.le_of_ble_eq_true rfl) (by omega) (m_enter (by omega) (by omega : 0 ≤ (H.1 1826 47) ∧ (H.1 1826 47) ≤ 63) (by omega) (by omega)) ?_
              rintro _ _ ⟨rfl, rfl⟩
              refine h_run 0 (pc' := 99) (l' := [(0, .inr (.inr 1826)), (1, .inl t), (2, .inl h), (3, .inl (k3 : Int))]) (st' := []) rfl ?_
              have hq9 : rch Y c0 ((3, (1 + (k3 : Int)), 0, (H.1 1826 41)) :: (SK e H ++ K), xput X (1 + (k3 : Int))) := (rch_st hq (by show stTerm Y (me e t) (H.1 1826 41) (1 - h) (SK e H ++ K) X = _; unfold stTerm stApp stVar miss; rw [show cfd Y X = ((k3 : Nat) : Int) by omega, Int.toNat_natCast]; (repeat (first | rw [if_pos (by omega)] | rw [if_neg (by omega)])); try (first | rfl | (exfalso; omega))))
              refine h_run 1 (pc' := 100) (l' := [(0, .inr (.inr 1826)), (1, .inl t), (2, .inl h), (3, .inl (k3 : Int))]) (st' := [.inr (.inr 1826)]) rfl ?_
              have g98 : -2147483648 ≤ (H.1 1826 30) ∧ (H.1 1826 30) ≤ 2147483647 := hrg0.1 1826 13 30 _ .int rfl rfl
              have g99 : -2147483648 ≤ (H.1 1826 29) ∧ (H.1 1826 29) ≤ 2147483647 := hrg0.1 1826 13 29 _ .int rfl rfl
              have g100 : -2147483648 ≤ (H.1 1826 32) ∧ (H.1 1826 32) ≤ 2147483647 := hrg0.1 1826 13 32 _ .int rfl rfl
              refine h_cv (i := 297) (j := 165) (b := 1826) (M' := mt_165) (xs := []) (rest := []) rfl rfl rfl rfl rfl rfl (Nat.le_of_ble_eq_true rfl) (Nat.le_of_ble_eq_true rfl) (by omega) (n_nx (by omega) (by omega : 0 ≤ (H.1 1826 30) ∧ (H.1 1826 30) ≤ (H.1 1826 29) ∧ (H.1 1826 29) ≤ 1000) (by omega : 0 ≤ (H.1 1826 35) ∧ (H.1 1826 35) ≤ 5) (by omega : 0 ≤ (H.1 1826 32) ∧ (H.1 1826 32) ≤ 1000) (by omega : (H.1 1826 35) = 0) (X := (xput X (1 + (k3 : Int)))) (RN_mk hR (fr_o (fr_a (fr_a (fr_a (fr_o (fr_a (fr_o (fr_rf [40, 43, 47] [1851, 1852, 1853, 1854] H) (by decide)) (by decide)) (by decide)) (by decide)) (by decide)) (by decide)) (by decide)) (by decide) (by decide) (xpt_s _ _).1 (TA_sT (TA_fr hR.2.2.2.2 (fr_o (fr_a (fr_a (fr_a (fr_o (fr_a (fr_o (fr_rf [40, 43, 47] [1851, 1852, 1853, 1854] H) (by decide)) (by decide)) (by decide)) (by decide)) (by decide)) (by decide)) (by decide)) (by decide) (by decide)) (sT_put X _))) hq9 (lk_c (SK_lk hK) (by decide : (3 : Nat) ≠ 0) (fun q => absurd q (by decide : (3 : Nat) ≠ 1)))) ?_
              rintro _ H101 ⟨rfl, hx101n, hx101f, hx101a, hx101b, hx101c, -, hx101e, hx101g⟩
              refine h_rng (fun hrg102 => ?_)
              have hf103 : fr [30, 31, 32, 33, 35, 36, 39, 40, 41, 43, 47] [1849, 1850, 1851, 1852, 1853, 1854] H H101 := fr_t (fr_o (fr_a (fr_a (fr_a (fr_o (fr_a (fr_o (fr_rf _ _ _) (by decide)) (by decide)) (by decide)) (by decide)) (by decide)) (by decide)) (by decide)) hx101f (by decide) (by decide)
              replace hx101a : (H.1 1826 30) ≤ (H101.1 1826 30) := hx101a
              replace hx101b : (H101.1 1826 30) ≤ (H.1 1826 29) := hx101b
              replace hx101g : (H101.1 1826 35) = 0 → ((H101.1 1826 31) = 0 ∨ (H.1 1826 30) < (H101.1 1826 30)) := hx101g
              refine h_run 0 (pc' := 103) (l' := [(0, .inr (.inr 1826)), (1, .inl t), (2, .inl h), (3, .inl (k3 : Int))]) (st' := []) rfl ?_
              refine h_run 3 (pc' := 108) (l' := [(0, .inr (.inr 1826)), (1, .inl t), (2, .inl h), (3, .inl (k3 : Int))]) (st' := [.inl (k3 : Int), .inr (.inr 1829)]) rfl ?_
              refine h_ild (c := 1829) (j := k3) (i := (k3 : Int)) rfl rfl (by decide) rfl (by omega) ?_
              have g104 : -2147483648 ≤ (H101.1 1829 k3) ∧ (H101.1 1829 k3) ≤ 2147483647 := hrg102.2 1829 k3 16 .int rfl (by omega)
              have e105 : (H101.1 1829 k3) = (H.1 1829 k3) := congrFun (hx101f.2.1 1829 (by decide) (by decide)) k3
              refine h_run 0 (pc' := 109) (l' := [(0, .inr (.inr 1826)), (1, .inl t), (2, .inl h), (3, .inl (k3 : Int))]) (st' := [.inl (H101.1 1829 k3)]) rfl ?_
              refine h_reti (x := (H101.1 1829 k3)) rfl rfl ?_
              have g106 : -2147483648 ≤ (H101.1 1826 30) ∧ (H101.1 1826 30) ≤ 2147483647 := hrg102.1 1826 13 30 _ .int rfl rfl
              have g107 : -2147483648 ≤ (H101.1 1826 35) ∧ (H101.1 1826 35) ≤ 2147483647 := hrg102.1 1826 13 35 _ .int rfl rfl
              have g108 : -2147483648 ≤ (H101.1 1826 32) ∧ (H101.1 1826 32) ≤ 2147483647 := hrg102.1 1826 13 32 _ .int rfl rfl
              have g109 : -2147483648 ≤ (H101.1 1826 29) ∧ (H101.1 1826 29) ≤ 2147483647 := hrg102.1 1826 13 29 _ .int rfl rfl
              have e110 : (H101.1 1826 29) = (H.1 1826 29) := hx101f.2.2 29 (by decide)
              have g111 : -2147483648 ≤ (H101.1 1826 31) ∧ (H101.1 1826 31) ≤ 2147483647 := hrg102.1 1826 13 31 _ .int rfl rfl
              have g112 : -2147483648 ≤ (H101.1 1826 1) ∧ (H101.1 1826 1) ≤ 2147483647 := hrg102.1 1826 13 1 _ .int rfl rfl
              have e113 : (H101.1 1826 1) = (H.1 1826 1) := hx101f.2.2 1 (by decide)
              have g114 : -2147483648 ≤ (H101.1 1826 39) ∧ (H101.1 1826 39) ≤ 2147483647 := hrg102.1 1826 13 39 _ .int rfl rfl
              have e115 : (H101.1 1826 39) = (H.1 1826 39) := hx101f.2.2 39 (by decide)
              have g116 : -2147483648 ≤ (H101.1 1826 44) ∧ (H101.1 1826 44) ≤ 2147483647 := hrg102.1 1826 13 44 _ .int rfl rfl
              have e117 : (H101.1 1826 44) = (H.1 1826 44) := hx101f.2.2 44 (by decide)
              exact ⟨⟨(H101.1 1829 k3), rfl, by omega, by omega, (GB_i hx101n (fun q => ⟨_, (by rw [SK_name (H := H) (s := (1 + (k3 : Int))) (t := -1) (by omega) (by omega) (hx101f.2.2 47 (by decide)) (hx101f.2.1 1852 (by decide) (by decide)) (hx101f.2.1 1853 (by decide) (by decide)) (hx101f.2.1 1854 (by decide) (by decide)), hto, ← ta3]; exact hq9), ⟨q, VR_put hU.2.1 (hx101f.2.2 40 (by decide)) (hx101f.2.2 44 (by decide)) (hx101f.2.2 39 (by decide)) (hx101f.2.1 1849 (by decide) (by decide)) (hx101f.2.1 1850 (by decide) (by decide)), B0_name (s := (1 + (k3 : Int))) (t := -1) hU.2.2.1 (by have q8 : (H101.1 1826 40) = ((H.1 1826 40) + 1) := (hx101f.2.2 40 (by decide)); omega) (hx101f.2.2 44 (by decide)) (by omega) (by omega) (hx101f.2.2 47 (by decide)) (hx101f.2.1 1852 (by decide) (by decide)) (hx101f.2.1 1854 (by decide) (by decide)), RD_put hU.2.2.2 (by omega) rfl rfl (hx101f.2.2 43 (by decide)) (hx101f.2.1 1851 (by decide) (by decide))⟩, FH_app (by omega) (by omega) (by omega) (by rw [if_neg (by omega), if_neg (by omega), show ((1 + (k3 : Int)) - 1).toNat = k3 by omega]; omega)⟩))⟩, hf103, (by omega : (H.1 1826 30) ≤ (H101.1 1826 30) ∧ (H101.1 1826 30) ≤ (H.1 1826 29)), (by omega : 0 ≤ (H101.1 1826 35) ∧ (H101.1 1826 35) ≤ 5), (by omega : 0 ≤ (H101.1 1826 32) ∧ (H101.1 1826 32) ≤ 1000), (by omega : (H101.1 1826 35) = 0 → (H101.1 1826 31) = 0 ∨ (H.1 1826 30) < (H101.1 1826 30)), (by omega : ((H.1 1826 44) ≠ 2 → (H101.1 1826 39) = (H.1 1826 39)) ∧ (H.1 1826 39) ≤ (H101.1 1826 39)), fun _ => TT_sign (s := (1 + (k3 : Int))) (q := ((H.1 1830) k3).toNat) hP hTT ⟨⟨(hx101f.2.2 1 (by decide)), (hx101f.2.2 3 (by decide)), (hx101f.2.2 8 (by decide)), (hx101f.2.2 44 (by decide))⟩, (hx101f.2.1 1833 (by decide) (by decide)), (hx101f.2.1 1830 (by decide) (by decide))⟩ (Or.inr (Or.inl ⟨by omega, by omega⟩)) (by rw [ma_c (by omega), show ((1 + (k3 : Int)) - 1).toNat = k3 by omega]; have := (pw1 k3 (by omega)).1; omega) (by have := (pw1 k3 (by omega)).1; omega) (by omega) ⟨(hx101f.2.2 40 (by decide)), (hx101f.2.2 43 (by decide)), (hx101f.2.2 41 (by decide))⟩ (hx101f.2.1 1851 (by decide) (by decide)) (Or.inl ⟨(hx101f.2.2 39 (by decide)), (hx101f.2.1 1850 (by decide) (by decide))⟩) (Or.inr ⟨(Or.inl ⟨by omega, by omega⟩), (hx101f.2.2 47 (by decide)), (hx101f.2.1 1852 (by decide) (by decide)), (hx101f.2.1 1853 (by decide) (by decide)), -1, (hx101f.2.1 1854 (by decide) (by decide))⟩)⟩
          · refine h_run 3 (pc' := 63) (l' := [(0, .inr (.inr 1826)), (1, .inl t), (2, .inl h), (3, .inl (k3 : Int))]) (st' := [.inl (k3 : Int), .inr (.inr 1829)]) rfl ?_
            refine h_ild (c := 1829) (j := k3) (i := (k3 : Int)) rfl rfl (by decide) rfl (by omega) ?_
            have g118 : -2147483648 ≤ (H.1 1829 k3) ∧ (H.1 1829 k3) ≤ 2147483647 := hrg0.2 1829 k3 16 .int rfl (by omega)
            refine h_run 0 (pc' := 64) (l' := [(0, .inr (.inr 1826)), (1, .inl t), (2, .inl h), (3, .inl (k3 : Int))]) (st' := [.inl (H.1 1829 k3)]) rfl ?_
            refine h_run 1 (pc' := 65) (l' := [(0, .inr (.inr 1826)), (1, .inl t), (2, .inl h), (3, .inl (k3 : Int))]) (st' := [.inl t, .inl (H.1 1829 k3)]) rfl ?_
            refine h_ieq (off := 8) (t := 73) rfl rfl (by omega) (by omega) (fun c119 => ?_) (fun c119 => ?_)
            · refine h_run 1 (pc' := 74) (l' := [(0, .inr (.inr 1826)), (1, .inl t), (2, .inl h), (3, .inl (k3 : Int))]) (st' := [.inr (.inr 1826)]) rfl ?_
              have g120 : -2147483648 ≤ (H.1 1826 40) ∧ (H.1 1826 40) ≤ 2147483647 := hrg0.1 1826 13 40 _ .int rfl rfl
              by_cases b121 : (H.1 1826 40) = 40
              · refine h_cv (i := 344) (j := 168) (b := 1826) (M' := mt_168) (xs := []) (rest := []) rfl rfl rfl rfl rfl rfl (Nat.le_of_ble_eq_true rfl) (Nat.le_of_ble_eq_true rfl) (by omega) (m_countB (by omega) (by omega : (H.1 1826 35) = 0) (by omega : (H.1 1826 40) = 40)) ?_
                rintro _ _ ⟨rfl, rfl⟩
                refine h_run 0 (pc' := 77) (l' := [(0, .inr (.inr 1826)), (1, .inl t), (2, .inl h), (3, .inl (k3 : Int))]) (st' := []) rfl ?_
                refine h_run 4 (pc' := 81) (l' := [(0, .inr (.inr 1826)), (1, .inl t), (2, .inl h), (3, .inl (k3 : Int))]) (st' := [.inl (1 + (k3 : Int)), .inr (.inr 1826)]) rfl ?_
                refine h_cv (i := 350) (j := 169) (b := 1826) (M' := mt_169) (xs := [.inl (1 + (k3 : Int))]) (rest := []) rfl rfl rfl rfl rfl rfl (Nat.le_of_ble_eq_true rfl) (Nat.le_of_ble_eq_true rfl) (by omega) (m_put0 (by omega) (by omega : (5 : Int) ≠ 0)) ?_
                rintro _ _ ⟨rfl, rfl⟩
                refine h_run 0 (pc' := 84) (l' := [(0, .inr (.inr 1826)), (1, .inl t), (2, .inl h), (3, .inl (k3 : Int))]) (st' := []) rfl ?_
                refine h_run 1 (pc' := 85) (l' := [(0, .inr (.inr 1826)), (1, .inl t), (2, .inl h), (3, .inl (k3 : Int))]) (st' := [.inr (.inr 1826)]) rfl ?_
                refine h_cv (i := 293) (j := 158) (b := 1826) (M' := mt_158) (xs := []) (rest := []) rfl rfl rfl rfl rfl rfl (Nat.le_of_ble_eq_true rfl) (Nat.le_of_ble_eq_true rfl) (by omega) (m_good0 (by omega) (by omega : (5 : Int) ≠ 0)) ?_
                rintro _ _ ⟨rfl, rfl⟩
                refine h_run 0 (pc' := 88) (l' := [(0, .inr (.inr 1826)), (1, .inl t), (2, .inl h), (3, .inl (k3 : Int))]) (st' := [.inl 0]) rfl ?_
                refine h_zeq (off := 15) (t := 103) rfl rfl (by decide) (fun _ => ?_) (fun c => absurd c (by decide))
                refine h_run 3 (pc' := 108) (l' := [(0, .inr (.inr 1826)), (1, .inl t), (2, .inl h), (3, .inl (k3 : Int))]) (st' := [.inl (k3 : Int), .inr (.inr 1829)]) rfl ?_
                refine h_ild (c := 1829) (j := k3) (i := (k3 : Int)) rfl rfl (by decide) rfl (by omega) ?_
                refine h_run 0 (pc' := 109) (l' := [(0, .inr (.inr 1826)), (1, .inl t), (2, .inl h), (3, .inl (k3 : Int))]) (st' := [.inl (H.1 1829 k3)]) rfl ?_
                refine h_reti (x := (H.1 1829 k3)) rfl rfl ?_
                have g122 : -2147483648 ≤ (H.1 1826 30) ∧ (H.1 1826 30) ≤ 2147483647 := hrg0.1 1826 13 30 _ .int rfl rfl
                have g123 : -2147483648 ≤ (H.1 1826 32) ∧ (H.1 1826 32) ≤ 2147483647 := hrg0.1 1826 13 32 _ .int rfl rfl
                have g124 : -2147483648 ≤ (H.1 1826 29) ∧ (H.1 1826 29) ≤ 2147483647 := hrg0.1 1826 13 29 _ .int rfl rfl
                have g125 : -2147483648 ≤ (H.1 1826 31) ∧ (H.1 1826 31) ≤ 2147483647 := hrg0.1 1826 13 31 _ .int rfl rfl
                have g126 : -2147483648 ≤ (H.1 1826 1) ∧ (H.1 1826 1) ≤ 2147483647 := hrg0.1 1826 13 1 _ .int rfl rfl
                have g127 : -2147483648 ≤ (H.1 1826 39) ∧ (H.1 1826 39) ≤ 2147483647 := hrg0.1 1826 13 39 _ .int rfl rfl
                have g128 : -2147483648 ≤ (H.1 1826 44) ∧ (H.1 1826 44) ≤ 2147483647 := hrg0.1 1826 13 44 _ .int rfl rfl
                exact ⟨⟨(H.1 1829 k3), rfl, by omega, by omega, (Or.inr ⟨(by omega : (5 : Int) ≠ 0), (BD_mk hR (fr_o (fr_o (fr_o (fr_rf [35, 36, 40] [] H) (by decide)) (by decide)) (by decide)) (by decide) (by decide) (by decide : (5 : Int) ≠ 0) rfl rfl (rch_st hq (by show stTerm Y (me e t) (H.1 1826 41) (1 - h) (SK e H ++ K) X = _; unfold stTerm stApp stVar miss; rw [show cfd Y X = ((k3 : Nat) : Int) by omega, Int.toNat_natCast]; (repeat (first | rw [if_pos (by omega)] | rw [if_neg (by omega)])); try (first | rfl | (exfalso; omega)))))⟩)⟩, (fr_o (fr_o (fr_o (fr_rf _ _ _) (by decide)) (by decide)) (by decide)), (by omega : (H.1 1826 30) ≤ (H.1 1826 30) ∧ (H.1 1826 30) ≤ (H.1 1826 29)), (by omega : 0 ≤ (5 : Int) ∧ (5 : Int) ≤ 5), (by omega : 0 ≤ (H.1 1826 32) ∧ (H.1 1826 32) ≤ 1000), (by omega : (5 : Int) = 0 → (H.1 1826 31) = 0 ∨ (H.1 1826 30) < (H.1 1826 30)), (by omega : ((H.1 1826 44) ≠ 2 → (H.1 1826 39) = (H.1 1826 39)) ∧ (H.1 1826 39) ≤ (H.1 1826 39)), (fun (q : (5 : Int) = 0) => absurd q (by omega))⟩
              · refine h_cv (i := 344) (j := 168) (b := 1826) (M' := mt_168) (xs := []) (rest := []) rfl rfl rfl rfl rfl rfl (Nat.le_of_ble_eq_true rfl) (Nat.le_of_ble_eq_true rfl) (by omega) (m_countA (by omega) (by omega : (H.1 1826 35) = 0) (by omega : 0 ≤ (H.1 1826 40) ∧ (H.1 1826 40) ≤ 1000) (by omega : (H.1 1826 40) ≠ 40)) ?_
                rintro _ _ ⟨rfl, rfl⟩
                refine h_run 0 (pc' := 77) (l' := [(0, .inr (.inr 1826)), (1, .inl t), (2, .inl h), (3, .inl (k3 : Int))]) (st' := []) rfl ?_
                refine h_run 4 (pc' := 81) (l' := [(0, .inr (.inr 1826)), (1, .inl t), (2, .inl h), (3, .inl (k3 : Int))]) (st' := [.inl (1 + (k3 : Int)), .inr (.inr 1826)]) rfl ?_
                have g129 : -2147483648 ≤ (H.1 1826 43) ∧ (H.1 1826 43) ≤ 2147483647 := hrg0.1 1826 13 43 _ .int rfl rfl
                refine h_cv (i := 350) (j := 169) (b := 1826) (M' := mt_169) (xs := [.inl (1 + (k3 : Int))]) (rest := []) rfl rfl rfl rfl rfl rfl (Nat.le_of_ble_eq_true rfl) (Nat.le_of_ble_eq_true rfl) (by omega) (m_put1 (by omega) (by omega : (H.1 1826 35) = 0) (by omega : 0 ≤ (H.1 1826 43) ∧ (H.1 1826 43) ≤ 47) (by omega)) ?_
                rintro _ _ ⟨rfl, rfl⟩
                refine h_run 0 (pc' := 84) (l' := [(0, .inr (.inr 1826)), (1, .inl t), (2, .inl h), (3, .inl (k3 : Int))]) (st' := []) rfl ?_
                refine h_run 1 (pc' := 85) (l' := [(0, .inr (.inr 1826)), (1, .inl t), (2, .inl h), (3, .inl (k3 : Int))]) (st' := [.inr (.inr 1826)]) rfl ?_
                refine h_cv (i := 293) (j := 158) (b := 1826) (M' := mt_158) (xs := []) (rest := []) rfl rfl rfl rfl rfl rfl (Nat.le_of_ble_eq_true rfl) (Nat.le_of_ble_eq_true rfl) (by omega) (m_good1 (by omega) (by omega : (H.1 1826 35) = 0)) ?_
                rintro _ _ ⟨rfl, rfl⟩
                refine h_run 0 (pc' := 88) (l' := [(0, .inr (.inr 1826)), (1, .inl t), (2, .inl h), (3, .inl (k3 : Int))]) (st' := [.inl 1]) rfl ?_
                refine h_zeq (off := 15) (t := 103) rfl rfl (by decide) (fun c => absurd c (by decide)) (fun _ => ?_)
                refine h_run 5 (pc' := 96) (l' := [(0, .inr (.inr 1826)), (1, .inl t), (2, .inl h), (3, .inl (k3 : Int))]) (st' := [.inl (-1), .inl (1 + (k3 : Int)), .inr (.inr 1826)]) rfl ?_
                have g130 : -2147483648 ≤ (H.1 1826 47) ∧ (H.1 1826 47) ≤ 2147483647 := hrg0.1 1826 13 47 _ .int rfl rfl
                refine h_cv (i := 364) (j := 181) (b := 1826) (M' := mt_181) (xs := [.inl (-1), .inl (1 + (k3 : Int))]) (rest := []) rfl rfl rfl rfl rfl rfl (Nat.le_of_ble_eq_true rfl) (Nat.le_of_ble_eq_true rfl) (by omega) (m_enter (by omega) (by omega : 0 ≤ (H.1 1826 47) ∧ (H.1 1826 47) ≤ 63) (by omega) (by omega)) ?_
                rintro _ _ ⟨rfl, rfl⟩
                refine h_run 0 (pc' := 99) (l' := [(0, .inr (.inr 1826)), (1, .inl t), (2, .inl h), (3, .inl (k3 : Int))]) (st' := []) rfl ?_
                have hq9 : rch Y c0 ((3, (1 + (k3 : Int)), 0, (H.1 1826 41)) :: (SK e H ++ K), xput X (1 + (k3 : Int))) := (rch_st hq (by show stTerm Y (me e t) (H.1 1826 41) (1 - h) (SK e H ++ K) X = _; unfold stTerm stApp stVar miss; rw [show cfd Y X = ((k3 : Nat) : Int) by omega, Int.toNat_natCast]; (repeat (first | rw [if_pos (by omega)] | rw [if_neg (by omega)])); try (first | rfl | (exfalso; omega))))
                refine h_run 1 (pc' := 100) (l' := [(0, .inr (.inr 1826)), (1, .inl t), (2, .inl h), (3, .inl (k3 : Int))]) (st' := [.inr (.inr 1826)]) rfl ?_
                have g131 : -2147483648 ≤ (H.1 1826 30) ∧ (H.1 1826 30) ≤ 2147483647 := hrg0.1 1826 13 30 _ .int rfl rfl
                have g132 : -2147483648 ≤ (H.1 1826 29) ∧ (H.1 1826 29) ≤ 2147483647 := hrg0.1 1826 13 29 _ .int rfl rfl
                have g133 : -2147483648 ≤ (H.1 1826 32) ∧ (H.1 1826 32) ≤ 2147483647 := hrg0.1 1826 13 32 _ .int rfl rfl
                refine h_cv (i := 297) (j := 165) (b := 1826) (M' := mt_165) (xs := []) (rest := []) rfl rfl rfl rfl rfl rfl (Nat.le_of_ble_eq_true rfl) (Nat.le_of_ble_eq_true rfl) (by omega) (n_nx (by omega) (by omega : 0 ≤ (H.1 1826 30) ∧ (H.1 1826 30) ≤ (H.1 1826 29) ∧ (H.1 1826 29) ≤ 1000) (by omega : 0 ≤ (H.1 1826 35) ∧ (H.1 1826 35) ≤ 5) (by omega : 0 ≤ (H.1 1826 32) ∧ (H.1 1826 32) ≤ 1000) (by omega : (H.1 1826 35) = 0) (X := (xput X (1 + (k3 : Int)))) (RN_mk hR (fr_o (fr_a (fr_a (fr_a (fr_o (fr_a (fr_o (fr_rf [40, 43, 47] [1851, 1852, 1853, 1854] H) (by decide)) (by decide)) (by decide)) (by decide)) (by decide)) (by decide)) (by decide)) (by decide) (by decide) (xpt_s _ _).1 (TA_sT (TA_fr hR.2.2.2.2 (fr_o (fr_a (fr_a (fr_a (fr_o (fr_a (fr_o (fr_rf [40, 43, 47] [1851, 1852, 1853, 1854] H) (by decide)) (by decide)) (by decide)) (by decide)) (by decide)) (by decide)) (by decide)) (by decide) (by decide)) (sT_put X _))) hq9 (lk_c (SK_lk hK) (by decide : (3 : Nat) ≠ 0) (fun q => absurd q (by decide : (3 : Nat) ≠ 1)))) ?_
                rintro _ H134 ⟨rfl, hx134n, hx134f, hx134a, hx134b, hx134c, -, hx134e, hx134g⟩
                refine h_rng (fun hrg135 => ?_)
                have hf136 : fr [30, 31, 32, 33, 35, 36, 39, 40, 41, 43, 47] [1849, 1850, 1851, 1852, 1853, 1854] H H134 := fr_t (fr_o (fr_a (fr_a (fr_a (fr_o (fr_a (fr_o (fr_rf _ _ _) (by decide)) (by decide)) (by decide)) (by decide)) (by decide)) (by decide)) (by decide)) hx134f (by decide) (by decide)
                replace hx134a : (H.1 1826 30) ≤ (H134.1 1826 30) := hx134a
                replace hx134b : (H134.1 1826 30) ≤ (H.1 1826 29) := hx134b
                replace hx134g : (H134.1 1826 35) = 0 → ((H134.1 1826 31) = 0 ∨ (H.1 1826 30) < (H134.1 1826 30)) := hx134g
                refine h_run 0 (pc' := 103) (l' := [(0, .inr (.inr 1826)), (1, .inl t), (2, .inl h), (3, .inl (k3 : Int))]) (st' := []) rfl ?_
                refine h_run 3 (pc' := 108) (l' := [(0, .inr (.inr 1826)), (1, .inl t), (2, .inl h), (3, .inl (k3 : Int))]) (st' := [.inl (k3 : Int), .inr (.inr 1829)]) rfl ?_
                refine h_ild (c := 1829) (j := k3) (i := (k3 : Int)) rfl rfl (by decide) rfl (by omega) ?_
                have g137 : -2147483648 ≤ (H134.1 1829 k3) ∧ (H134.1 1829 k3) ≤ 2147483647 := hrg135.2 1829 k3 16 .int rfl (by omega)
                have e138 : (H134.1 1829 k3) = (H.1 1829 k3) := congrFun (hx134f.2.1 1829 (by decide) (by decide)) k3
                refine h_run 0 (pc' := 109) (l' := [(0, .inr (.inr 1826)), (1, .inl t), (2, .inl h), (3, .inl (k3 : Int))]) (st' := [.inl (H134.1 1829 k3)]) rfl ?_
                refine h_reti (x := (H134.1 1829 k3)) rfl rfl ?_
                have g139 : -2147483648 ≤ (H134.1 1826 30) ∧ (H134.1 1826 30) ≤ 2147483647 := hrg135.1 1826 13 30 _ .int rfl rfl
                have g140 : -2147483648 ≤ (H134.1 1826 35) ∧ (H134.1 1826 35) ≤ 2147483647 := hrg135.1 1826 13 35 _ .int rfl rfl
                have g141 : -2147483648 ≤ (H134.1 1826 32) ∧ (H134.1 1826 32) ≤ 2147483647 := hrg135.1 1826 13 32 _ .int rfl rfl
                have g142 : -2147483648 ≤ (H134.1 1826 29) ∧ (H134.1 1826 29) ≤ 2147483647 := hrg135.1 1826 13 29 _ .int rfl rfl
                have e143 : (H134.1 1826 29) = (H.1 1826 29) := hx134f.2.2 29 (by decide)
                have g144 : -2147483648 ≤ (H134.1 1826 31) ∧ (H134.1 1826 31) ≤ 2147483647 := hrg135.1 1826 13 31 _ .int rfl rfl
                have g145 : -2147483648 ≤ (H134.1 1826 1) ∧ (H134.1 1826 1) ≤ 2147483647 := hrg135.1 1826 13 1 _ .int rfl rfl
                have e146 : (H134.1 1826 1) = (H.1 1826 1) := hx134f.2.2 1 (by decide)
                have g147 : -2147483648 ≤ (H134.1 1826 39) ∧ (H134.1 1826 39) ≤ 2147483647 := hrg135.1 1826 13 39 _ .int rfl rfl
                have e148 : (H134.1 1826 39) = (H.1 1826 39) := hx134f.2.2 39 (by decide)
                have g149 : -2147483648 ≤ (H134.1 1826 44) ∧ (H134.1 1826 44) ≤ 2147483647 := hrg135.1 1826 13 44 _ .int rfl rfl
                have e150 : (H134.1 1826 44) = (H.1 1826 44) := hx134f.2.2 44 (by decide)
                exact ⟨⟨(H134.1 1829 k3), rfl, by omega, by omega, (GB_i hx134n (fun q => ⟨_, (by rw [SK_name (H := H) (s := (1 + (k3 : Int))) (t := -1) (by omega) (by omega) (hx134f.2.2 47 (by decide)) (hx134f.2.1 1852 (by decide) (by decide)) (hx134f.2.1 1853 (by decide) (by decide)) (hx134f.2.1 1854 (by decide) (by decide)), hto, ← ta3]; exact hq9), ⟨q, VR_put hU.2.1 (hx134f.2.2 40 (by decide)) (hx134f.2.2 44 (by decide)) (hx134f.2.2 39 (by decide)) (hx134f.2.1 1849 (by decide) (by decide)) (hx134f.2.1 1850 (by decide) (by decide)), B0_name (s := (1 + (k3 : Int))) (t := -1) hU.2.2.1 (by have q8 : (H134.1 1826 40) = ((H.1 1826 40) + 1) := (hx134f.2.2 40 (by decide)); omega) (hx134f.2.2 44 (by decide)) (by omega) (by omega) (hx134f.2.2 47 (by decide)) (hx134f.2.1 1852 (by decide) (by decide)) (hx134f.2.1 1854 (by decide) (by decide)), RD_put hU.2.2.2 (by omega) rfl rfl (hx134f.2.2 43 (by decide)) (hx134f.2.1 1851 (by decide) (by decide))⟩, FH_app (by omega) (by omega) (by omega) (by rw [if_neg (by omega), if_neg (by omega), show ((1 + (k3 : Int)) - 1).toNat = k3 by omega]; omega)⟩))⟩, hf136, (by omega : (H.1 1826 30) ≤ (H134.1 1826 30) ∧ (H134.1 1826 30) ≤ (H.1 1826 29)), (by omega : 0 ≤ (H134.1 1826 35) ∧ (H134.1 1826 35) ≤ 5), (by omega : 0 ≤ (H134.1 1826 32) ∧ (H134.1 1826 32) ≤ 1000), (by omega : (H134.1 1826 35) = 0 → (H134.1 1826 31) = 0 ∨ (H.1 1826 30) < (H134.1 1826 30)), (by omega : ((H.1 1826 44) ≠ 2 → (H134.1 1826 39) = (H.1 1826 39)) ∧ (H.1 1826 39) ≤ (H134.1 1826 39)), fun _ => TT_sign (s := (1 + (k3 : Int))) (q := ((H.1 1830) k3).toNat) hP hTT ⟨⟨(hx134f.2.2 1 (by decide)), (hx134f.2.2 3 (by decide)), (hx134f.2.2 8 (by decide)), (hx134f.2.2 44 (by decide))⟩, (hx134f.2.1 1833 (by decide) (by decide)), (hx134f.2.1 1830 (by decide) (by decide))⟩ (Or.inr (Or.inl ⟨by omega, by omega⟩)) (by rw [ma_c (by omega), show ((1 + (k3 : Int)) - 1).toNat = k3 by omega]; have := (pw1 k3 (by omega)).1; omega) (by have := (pw1 k3 (by omega)).1; omega) (by omega) ⟨(hx134f.2.2 40 (by decide)), (hx134f.2.2 43 (by decide)), (hx134f.2.2 41 (by decide))⟩ (hx134f.2.1 1851 (by decide) (by decide)) (Or.inl ⟨(hx134f.2.2 39 (by decide)), (hx134f.2.1 1850 (by decide) (by decide))⟩) (Or.inr ⟨(Or.inl ⟨by omega, by omega⟩), (hx134f.2.2 47 (by decide)), (hx134f.2.1 1852 (by decide) (by decide)), (hx134f.2.1 1853 (by decide) (by decide)), -1, (hx134f.2.1 1854 (by decide) (by decide))⟩)⟩
            · refine h_run 2 (pc' := 70) (l' := [(0, .inr (.inr 1826)), (1, .inl t), (2, .inl h), (3, .inl (k3 : Int))]) (st' := [.inl 4, .inr (.inr 1826)]) rfl ?_
              refine h_cv (i := 278) (j := 159) (b := 1826) (M' := mt_159) (xs := [.inl 4]) (rest := []) rfl rfl rfl rfl rfl rfl (Nat.le_of_ble_eq_true rfl) (Nat.le_of_ble_eq_true rfl) (by omega) (m_bad0 (by omega) (by omega) (by omega : (H.1 1826 35) = 0)) ?_
              rintro _ _ ⟨rfl, rfl⟩
              refine h_run 0 (pc' := 73) (l' := [(0, .inr (.inr 1826)), (1, .inl t), (2, .inl h), (3, .inl (k3 : Int))]) (st' := []) rfl ?_
              refine h_run 1 (pc' := 74) (l' := [(0, .inr (.inr 1826)), (1, .inl t), (2, .inl h), (3, .inl (k3 : Int))]) (st' := [.inr (.inr 1826)]) rfl ?_
              have g151 : -2147483648 ≤ (H.1 1826 40) ∧ (H.1 1826 40) ≤ 2147483647 := hrg0.1 1826 13 40 _ .int rfl rfl
              refine h_cv (i := 344) (j := 168) (b := 1826) (M' := mt_168) (xs := []) (rest := []) rfl rfl rfl rfl rfl rfl (Nat.le_of_ble_eq_true rfl) (Nat.le_of_ble_eq_true rfl) (by omega) (m_countC (by omega) (by omega : (4 : Int) ≠ 0) (by omega : 0 ≤ (H.1 1826 40) ∧ (H.1 1826 40) ≤ 1000)) ?_
              rintro _ _ ⟨rfl, rfl⟩
              refine h_run 0 (pc' := 77) (l' := [(0, .inr (.inr 1826)), (1, .inl t), (2, .inl h), (3, .inl (k3 : Int))]) (st' := []) rfl ?_
              refine h_run 4 (pc' := 81) (l' := [(0, .inr (.inr 1826)), (1, .inl t), (2, .inl h), (3, .inl (k3 : Int))]) (st' := [.inl (1 + (k3 : Int)), .inr (.inr 1826)]) rfl ?_
              refine h_cv (i := 350) (j := 169) (b := 1826) (M' := mt_169) (xs := [.inl (1 + (k3 : Int))]) (rest := []) rfl rfl rfl rfl rfl rfl (Nat.le_of_ble_eq_true rfl) (Nat.le_of_ble_eq_true rfl) (by omega) (m_put0 (by omega) (by omega : (4 : Int) ≠ 0)) ?_
              rintro _ _ ⟨rfl, rfl⟩
              refine h_run 0 (pc' := 84) (l' := [(0, .inr (.inr 1826)), (1, .inl t), (2, .inl h), (3, .inl (k3 : Int))]) (st' := []) rfl ?_
              refine h_run 1 (pc' := 85) (l' := [(0, .inr (.inr 1826)), (1, .inl t), (2, .inl h), (3, .inl (k3 : Int))]) (st' := [.inr (.inr 1826)]) rfl ?_
              refine h_cv (i := 293) (j := 158) (b := 1826) (M' := mt_158) (xs := []) (rest := []) rfl rfl rfl rfl rfl rfl (Nat.le_of_ble_eq_true rfl) (Nat.le_of_ble_eq_true rfl) (by omega) (m_good0 (by omega) (by omega : (4 : Int) ≠ 0)) ?_
              rintro _ _ ⟨rfl, rfl⟩
              refine h_run 0 (pc' := 88) (l' := [(0, .inr (.inr 1826)), (1, .inl t), (2, .inl h), (3, .inl (k3 : Int))]) (st' := [.inl 0]) rfl ?_
              refine h_zeq (off := 15) (t := 103) rfl rfl (by decide) (fun _ => ?_) (fun c => absurd c (by decide))
              refine h_run 3 (pc' := 108) (l' := [(0, .inr (.inr 1826)), (1, .inl t), (2, .inl h), (3, .inl (k3 : Int))]) (st' := [.inl (k3 : Int), .inr (.inr 1829)]) rfl ?_
              refine h_ild (c := 1829) (j := k3) (i := (k3 : Int)) rfl rfl (by decide) rfl (by omega) ?_
              refine h_run 0 (pc' := 109) (l' := [(0, .inr (.inr 1826)), (1, .inl t), (2, .inl h), (3, .inl (k3 : Int))]) (st' := [.inl (H.1 1829 k3)]) rfl ?_
              refine h_reti (x := (H.1 1829 k3)) rfl rfl ?_
              have g152 : -2147483648 ≤ (H.1 1826 30) ∧ (H.1 1826 30) ≤ 2147483647 := hrg0.1 1826 13 30 _ .int rfl rfl
              have g153 : -2147483648 ≤ (H.1 1826 32) ∧ (H.1 1826 32) ≤ 2147483647 := hrg0.1 1826 13 32 _ .int rfl rfl
              have g154 : -2147483648 ≤ (H.1 1826 29) ∧ (H.1 1826 29) ≤ 2147483647 := hrg0.1 1826 13 29 _ .int rfl rfl
              have g155 : -2147483648 ≤ (H.1 1826 31) ∧ (H.1 1826 31) ≤ 2147483647 := hrg0.1 1826 13 31 _ .int rfl rfl
              have g156 : -2147483648 ≤ (H.1 1826 1) ∧ (H.1 1826 1) ≤ 2147483647 := hrg0.1 1826 13 1 _ .int rfl rfl
              have g157 : -2147483648 ≤ (H.1 1826 39) ∧ (H.1 1826 39) ≤ 2147483647 := hrg0.1 1826 13 39 _ .int rfl rfl
              have g158 : -2147483648 ≤ (H.1 1826 44) ∧ (H.1 1826 44) ≤ 2147483647 := hrg0.1 1826 13 44 _ .int rfl rfl
              exact ⟨⟨(H.1 1829 k3), rfl, by omega, by omega, (Or.inr ⟨(by omega : (4 : Int) ≠ 0), (BD_mk hR (fr_o (fr_o (fr_o (fr_rf [35, 36, 40] [] H) (by decide)) (by decide)) (by decide)) (by decide) (by decide) (by decide : (4 : Int) ≠ 0) rfl rfl (rch_st hq (by show stTerm Y (me e t) (H.1 1826 41) (1 - h) (SK e H ++ K) X = _; unfold stTerm stApp stVar miss; rw [show cfd Y X = ((k3 : Nat) : Int) by omega, Int.toNat_natCast]; (repeat (first | rw [if_pos (by omega)] | rw [if_neg (by omega)])); try (first | rfl | (exfalso; omega)))))⟩)⟩, (fr_o (fr_o (fr_o (fr_rf _ _ _) (by decide)) (by decide)) (by decide)), (by omega : (H.1 1826 30) ≤ (H.1 1826 30) ∧ (H.1 1826 30) ≤ (H.1 1826 29)), (by omega : 0 ≤ (4 : Int) ∧ (4 : Int) ≤ 5), (by omega : 0 ≤ (H.1 1826 32) ∧ (H.1 1826 32) ≤ 1000), (by omega : (4 : Int) = 0 → (H.1 1826 31) = 0 ∨ (H.1 1826 30) < (H.1 1826 30)), (by omega : ((H.1 1826 44) ≠ 2 → (H.1 1826 39) = (H.1 1826 39)) ∧ (H.1 1826 39) ≤ (H.1 1826 39)), (fun (q : (4 : Int) = 0) => absurd q (by omega))⟩
        · refine h_run 2 (pc' := 43) (l' := [(0, .inr (.inr 1826)), (1, .inl t), (2, .inl h), (3, .inl (k3 : Int))]) (st' := [.inl 2, .inr (.inr 1826)]) rfl ?_
          have g159 : -2147483648 ≤ (H.1 1826 35) ∧ (H.1 1826 35) ≤ 2147483647 := hrg0.1 1826 13 35 _ .int rfl rfl
          refine h_cv (i := 278) (j := 159) (b := 1826) (M' := mt_159) (xs := [.inl 2]) (rest := []) rfl rfl rfl rfl rfl rfl (Nat.le_of_ble_eq_true rfl) (Nat.le_of_ble_eq_true rfl) (by omega) (m_bad0 (by omega) (by omega) (by omega : (H.1 1826 35) = 0)) ?_
          rintro _ _ ⟨rfl, rfl⟩
          refine h_run 0 (pc' := 46) (l' := [(0, .inr (.inr 1826)), (1, .inl t), (2, .inl h), (3, .inl (k3 : Int))]) (st' := []) rfl ?_
          refine h_run 1 (pc' := 47) (l' := [(0, .inr (.inr 1826)), (1, .inl t), (2, .inl h), (3, .inl (k3 : Int))]) (st' := [.inr (.inr 1826)]) rfl ?_
          refine h_cv (i := 293) (j := 158) (b := 1826) (M' := mt_158) (xs := []) (rest := []) rfl rfl rfl rfl rfl rfl (Nat.le_of_ble_eq_true rfl) (Nat.le_of_ble_eq_true rfl) (by omega) (m_good0 (by omega) (by omega : (2 : Int) ≠ 0)) ?_
          rintro _ _ ⟨rfl, rfl⟩
          refine h_run 0 (pc' := 50) (l' := [(0, .inr (.inr 1826)), (1, .inl t), (2, .inl h), (3, .inl (k3 : Int))]) (st' := [.inl 0]) rfl ?_
          refine h_zeq (off := 23) (t := 73) rfl rfl (by decide) (fun _ => ?_) (fun c => absurd c (by decide))
          refine h_run 1 (pc' := 74) (l' := [(0, .inr (.inr 1826)), (1, .inl t), (2, .inl h), (3, .inl (k3 : Int))]) (st' := [.inr (.inr 1826)]) rfl ?_
          have g160 : -2147483648 ≤ (H.1 1826 40) ∧ (H.1 1826 40) ≤ 2147483647 := hrg0.1 1826 13 40 _ .int rfl rfl
          refine h_cv (i := 344) (j := 168) (b := 1826) (M' := mt_168) (xs := []) (rest := []) rfl rfl rfl rfl rfl rfl (Nat.le_of_ble_eq_true rfl) (Nat.le_of_ble_eq_true rfl) (by omega) (m_countC (by omega) (by omega : (2 : Int) ≠ 0) (by omega : 0 ≤ (H.1 1826 40) ∧ (H.1 1826 40) ≤ 1000)) ?_
          rintro _ _ ⟨rfl, rfl⟩
          refine h_run 0 (pc' := 77) (l' := [(0, .inr (.inr 1826)), (1, .inl t), (2, .inl h), (3, .inl (k3 : Int))]) (st' := []) rfl ?_
          refine h_run 4 (pc' := 81) (l' := [(0, .inr (.inr 1826)), (1, .inl t), (2, .inl h), (3, .inl (k3 : Int))]) (st' := [.inl (1 + (k3 : Int)), .inr (.inr 1826)]) rfl ?_
          refine h_cv (i := 350) (j := 169) (b := 1826) (M' := mt_169) (xs := [.inl (1 + (k3 : Int))]) (rest := []) rfl rfl rfl rfl rfl rfl (Nat.le_of_ble_eq_true rfl) (Nat.le_of_ble_eq_true rfl) (by omega) (m_put0 (by omega) (by omega : (2 : Int) ≠ 0)) ?_
          rintro _ _ ⟨rfl, rfl⟩
          refine h_run 0 (pc' := 84) (l' := [(0, .inr (.inr 1826)), (1, .inl t), (2, .inl h), (3, .inl (k3 : Int))]) (st' := []) rfl ?_
          refine h_run 1 (pc' := 85) (l' := [(0, .inr (.inr 1826)), (1, .inl t), (2, .inl h), (3, .inl (k3 : Int))]) (st' := [.inr (.inr 1826)]) rfl ?_
          refine h_cv (i := 293) (j := 158) (b := 1826) (M' := mt_158) (xs := []) (rest := []) rfl rfl rfl rfl rfl rfl (Nat.le_of_ble_eq_true rfl) (Nat.le_of_ble_eq_true rfl) (by omega) (m_good0 (by omega) (by omega : (2 : Int) ≠ 0)) ?_
          rintro _ _ ⟨rfl, rfl⟩
          refine h_run 0 (pc' := 88) (l' := [(0, .inr (.inr 1826)), (1, .inl t), (2, .inl h), (3, .inl (k3 : Int))]) (st' := [.inl 0]) rfl ?_
          refine h_zeq (off := 15) (t := 103) rfl rfl (by decide) (fun _ => ?_) (fun c => absurd c (by decide))
          refine h_run 3 (pc' := 108) (l' := [(0, .inr (.inr 1826)), (1, .inl t), (2, .inl h), (3, .inl (k3 : Int))]) (st' := [.inl (k3 : Int), .inr (.inr 1829)]) rfl ?_
          refine h_ild (c := 1829) (j := k3) (i := (k3 : Int)) rfl rfl (by decide) rfl (by omega) ?_
          have g161 : -2147483648 ≤ (H.1 1829 k3) ∧ (H.1 1829 k3) ≤ 2147483647 := hrg0.2 1829 k3 16 .int rfl (by omega)
          refine h_run 0 (pc' := 109) (l' := [(0, .inr (.inr 1826)), (1, .inl t), (2, .inl h), (3, .inl (k3 : Int))]) (st' := [.inl (H.1 1829 k3)]) rfl ?_
          refine h_reti (x := (H.1 1829 k3)) rfl rfl ?_
          have g162 : -2147483648 ≤ (H.1 1826 30) ∧ (H.1 1826 30) ≤ 2147483647 := hrg0.1 1826 13 30 _ .int rfl rfl
          have g163 : -2147483648 ≤ (H.1 1826 32) ∧ (H.1 1826 32) ≤ 2147483647 := hrg0.1 1826 13 32 _ .int rfl rfl
          have g164 : -2147483648 ≤ (H.1 1826 29) ∧ (H.1 1826 29) ≤ 2147483647 := hrg0.1 1826 13 29 _ .int rfl rfl
          have g165 : -2147483648 ≤ (H.1 1826 31) ∧ (H.1 1826 31) ≤ 2147483647 := hrg0.1 1826 13 31 _ .int rfl rfl
          have g166 : -2147483648 ≤ (H.1 1826 1) ∧ (H.1 1826 1) ≤ 2147483647 := hrg0.1 1826 13 1 _ .int rfl rfl
          have g167 : -2147483648 ≤ (H.1 1826 39) ∧ (H.1 1826 39) ≤ 2147483647 := hrg0.1 1826 13 39 _ .int rfl rfl
          have g168 : -2147483648 ≤ (H.1 1826 44) ∧ (H.1 1826 44) ≤ 2147483647 := hrg0.1 1826 13 44 _ .int rfl rfl
          exact ⟨⟨(H.1 1829 k3), rfl, by omega, by omega, (Or.inr ⟨(by omega : (2 : Int) ≠ 0), (BD_mk hR (fr_o (fr_o (fr_o (fr_rf [35, 36, 40] [] H) (by decide)) (by decide)) (by decide)) (by decide) (by decide) (by decide : (2 : Int) ≠ 0) rfl rfl (rch_st hq (by show stTerm Y (me e t) (H.1 1826 41) (1 - h) (SK e H ++ K) X = _; unfold stTerm stApp stVar miss; rw [show cfd Y X = ((k3 : Nat) : Int) by omega, Int.toNat_natCast]; (repeat (first | rw [if_pos (by omega)] | rw [if_neg (by omega)])); try (first | rfl | (exfalso; omega)))))⟩)⟩, (fr_o (fr_o (fr_o (fr_rf _ _ _) (by decide)) (by decide)) (by decide)), (by omega : (H.1 1826 30) ≤ (H.1 1826 30) ∧ (H.1 1826 30) ≤ (H.1 1826 29)), (by omega : 0 ≤ (2 : Int) ∧ (2 : Int) ≤ 5), (by omega : 0 ≤ (H.1 1826 32) ∧ (H.1 1826 32) ≤ 1000), (by omega : (2 : Int) = 0 → (H.1 1826 31) = 0 ∨ (H.1 1826 30) < (H.1 1826 30)), (by omega : ((H.1 1826 44) ≠ 2 → (H.1 1826 39) = (H.1 1826 39)) ∧ (H.1 1826 39) ≤ (H.1 1826 39)), (fun (q : (2 : Int) = 0) => absurd q (by omega))⟩
    · exfalso
      omega
  · refine h_run 0 (pc' := 15) (l' := [(0, .inr (.inr 1826)), (1, .inl t), (2, .inl h)]) (st' := [.inl (-1)]) rfl ?_
    refine h_run 3 (pc' := 18) (l' := [(0, .inr (.inr 1826)), (1, .inl t), (2, .inl h), (3, .inl (-1))]) (st' := [.inl (-1), .inl (-1)]) rfl ?_
    refine h_ine (off := 10) (t := 28) rfl rfl (by decide) (by decide) (fun c => absurd c (by decide)) (fun _ => ?_)
    refine h_run 2 (pc' := 23) (l' := [(0, .inr (.inr 1826)), (1, .inl t), (2, .inl h), (3, .inl (-1))]) (st' := [.inl 3, .inr (.inr 1826)]) rfl ?_
    have g169 : -2147483648 ≤ (H.1 1826 35) ∧ (H.1 1826 35) ≤ 2147483647 := hrg0.1 1826 13 35 _ .int rfl rfl
    refine h_cv (i := 278) (j := 159) (b := 1826) (M' := mt_159) (xs := [.inl 3]) (rest := []) rfl rfl rfl rfl rfl rfl (Nat.le_of_ble_eq_true rfl) (Nat.le_of_ble_eq_true rfl) (by omega) (m_bad0 (by omega) (by omega) (by omega : (H.1 1826 35) = 0)) ?_
    rintro _ _ ⟨rfl, rfl⟩
    refine h_run 0 (pc' := 26) (l' := [(0, .inr (.inr 1826)), (1, .inl t), (2, .inl h), (3, .inl (-1))]) (st' := []) rfl ?_
    refine h_run 1 (pc' := 27) (l' := [(0, .inr (.inr 1826)), (1, .inl t), (2, .inl h), (3, .inl (-1))]) (st' := [.inl (-1)]) rfl ?_
    refine h_reti (x := (-1)) rfl rfl ?_
    have g170 : -2147483648 ≤ (H.1 1826 30) ∧ (H.1 1826 30) ≤ 2147483647 := hrg0.1 1826 13 30 _ .int rfl rfl
    have g171 : -2147483648 ≤ (H.1 1826 32) ∧ (H.1 1826 32) ≤ 2147483647 := hrg0.1 1826 13 32 _ .int rfl rfl
    have g172 : -2147483648 ≤ (H.1 1826 29) ∧ (H.1 1826 29) ≤ 2147483647 := hrg0.1 1826 13 29 _ .int rfl rfl
    have g173 : -2147483648 ≤ (H.1 1826 31) ∧ (H.1 1826 31) ≤ 2147483647 := hrg0.1 1826 13 31 _ .int rfl rfl
    have g174 : -2147483648 ≤ (H.1 1826 1) ∧ (H.1 1826 1) ≤ 2147483647 := hrg0.1 1826 13 1 _ .int rfl rfl
    have g175 : -2147483648 ≤ (H.1 1826 39) ∧ (H.1 1826 39) ≤ 2147483647 := hrg0.1 1826 13 39 _ .int rfl rfl
    have g176 : -2147483648 ≤ (H.1 1826 44) ∧ (H.1 1826 44) ≤ 2147483647 := hrg0.1 1826 13 44 _ .int rfl rfl
    exact ⟨⟨(-1), rfl, by omega, by omega, (Or.inr ⟨(by omega : (3 : Int) ≠ 0), (BD_mk hR (fr_o (fr_o (fr_rf [35, 36] [] H) (by decide)) (by decide)) (by decide) (by decide) (by decide : (3 : Int) ≠ 0) rfl rfl (rch_st hq (by show stTerm Y (me e t) (H.1 1826 41) (1 - h) (SK e H ++ K) X = _; unfold stTerm stApp stVar miss; (repeat (first | rw [if_pos (by omega)] | rw [if_neg (by omega)])); try (first | rfl | (exfalso; omega)))))⟩)⟩, (fr_o (fr_o (fr_rf _ _ _) (by decide)) (by decide)), (by omega : (H.1 1826 30) ≤ (H.1 1826 30) ∧ (H.1 1826 30) ≤ (H.1 1826 29)), (by omega : 0 ≤ (3 : Int) ∧ (3 : Int) ≤ 5), (by omega : 0 ≤ (H.1 1826 32) ∧ (H.1 1826 32) ≤ 1000), (by omega : (3 : Int) = 0 → (H.1 1826 31) = 0 ∨ (H.1 1826 30) < (H.1 1826 30)), (by omega : ((H.1 1826 44) ≠ 2 → (H.1 1826 39) = (H.1 1826 39)) ∧ (H.1 1826 39) ≤ (H.1 1826 39)), (fun (q : (3 : Int) = 0) => absurd q (by omega))⟩

theorem xpv_0 (X : rx) (x t s : Int) : xput (xvar X x t) s 0 0 = X 0 0 + 1 ∧ True := ⟨by rw [(xpt_s _ _).1, (xvr_s _ _ _).1], trivial⟩

/-! small -/
set_option maxRecDepth 100000 in
theorem n_small {zC : Nat → Option zsh} {d : Nat} (hd : 5 ≤ d) {H : hp} {t h : Int} {Y : yx} {m : Int} {c0 : cf} {K : List tq} {X : rx} {e t0 : Int} (h0 : 0 ≤ (H.1 1826 30) ∧ (H.1 1826 30) ≤ (H.1 1826 29) ∧ (H.1 1826 29) ≤ 1000) (hw : 0 ≤ (H.1 1826 35) ∧ (H.1 1826 35) ≤ 5) (hst : 0 ≤ (H.1 1826 32) ∧ (H.1 1826 32) ≤ 1000) (hw0 : (H.1 1826 35) = 0) (hP : PWc H) (hTT : TT H 1) (hso : 1 ≤ (H.1 1826 44) ∧ (H.1 1826 44) ≤ 3) (ht : -1 ≤ t ∧ t < (H.1 1826 1)) (hh : 0 ≤ h ∧ h ≤ 1) (hU : RU Y m t0 H X) (hmf : (H.1 1826 8) = m) (he : ((H.1 1826 44) = 2 ∧ e = -2) ∨ ((H.1 1826 44) ≠ 2 ∧ e = -1)) (hq : rch Y c0 ((2, me e t, (H.1 1826 41), 1 - h) :: (SK e H ++ K), X)) (hK : lkK K) (ht0 : (H.1 1826 40) = 0 → t = t0) (hty : (H.1 1826 44) = 1 → 0 ≤ t) (htt : (H.1 1826 31) = 1) : hG (zs zC) d mt_184 0 (zargs 0 [.inr (.inr 1826), .inl t, .inl h]) [] H (fun r H2 => (∃ r0 : Int, r = some (.inl r0) ∧ -1 ≤ r0 ∧ r0 < (H.1 1826 1) ∧ GB Y m c0 H2 (∃ X2 : rx, rch Y c0 (SK e H2 ++ K, X2) ∧ RU Y m t0 H2 X2 ∧ FH t0 X X2 r0)) ∧ fr [30, 31, 32, 33, 35, 36, 39, 40, 41, 43, 47] [1849, 1850, 1851, 1852, 1853, 1854] H H2 ∧ ((H.1 1826 30) ≤ (H2.1 1826 30) ∧ (H2.1 1826 30) ≤ (H.1 1826 29)) ∧ (0 ≤ (H2.1 1826 35) ∧ (H2.1 1826 35) ≤ 5) ∧ (0 ≤ (H2.1 1826 32) ∧ (H2.1 1826 32) ≤ 1000) ∧ ((H2.1 1826 35) = 0 → (H2.1 1826 31) = 0 ∨ (H.1 1826 30) < (H2.1 1826 30)) ∧ (((H.1 1826 44) ≠ 2 → (H2.1 1826 39) = (H.1 1826 39)) ∧ (H.1 1826 39) ≤ (H2.1 1826 39)) ∧ hid ((H2.1 1826 35) = 0 → TT H2 0)) := by
  refine h_rng (fun hrg0 => ?_)
  refine h_run 0 (pc' := 0) (l' := [(0, .inr (.inr 1826)), (1, .inl t), (2, .inl h)]) (st' := []) rfl ?_
  obtain ⟨⟨pb1, pb2, pb3, pb4, pb5⟩, pw1, pw2, pw3, pw4⟩ := (id hP : PW H (H.1 1826 1) (H.1 1826 3) (H.1 1826 8) (H.1 1826 13) (H.1 1826 19))
  obtain ⟨n, m9, k9, ⟨ta1, ta2, ta3, ta4⟩, ⟨tb1, tb2, tb3⟩, ⟨tc1, tc2, tc3⟩, -, -, -⟩ := id hTT
  have tcb := cb_nn (ou := (H.1 1852)) (n := n)
  have hR := hU.1
  have htk := RK_t hR
  have hme := me_or e t
  have hnm := hU.2.1.1
  have hcn4 := hR.2.2.2.2.2.1.1
  have hcn5 := hR.2.2.2.2.2.2.1.1
  have hto : ((H.1 1826 47)).toNat = n := by omega
  refine h_run 4 (pc' := 8) (l' := [(0, .inr (.inr 1826)), (1, .inl t), (2, .inl h)]) (st' := [.inl (H.1 1826 8), .inr (.inr 1832)]) rfl ?_
  have g1 : -2147483648 ≤ (H.1 1826 8) ∧ (H.1 1826 8) ≤ 2147483647 := hrg0.1 1826 13 8 _ .int rfl rfl
  refine h_run 2 (pc' := 12) (l' := [(0, .inr (.inr 1826)), (1, .inl t), (2, .inl h)]) (st' := [.inr (.inl (H.1 1826 33)), .inl (H.1 1826 8), .inr (.inr 1832)]) rfl ?_
  have g2 : -9223372036854775808 ≤ (H.1 1826 33) ∧ (H.1 1826 33) ≤ 9223372036854775807 := hrg0.1 1826 13 33 _ .long rfl rfl
  refine h_cs (i := 309) (j := 167) (M' := mt_167) (xs := [.inr (.inl (H.1 1826 33)), .inl (H.1 1826 8), .inr (.inr 1832)]) (rest := []) rfl rfl rfl rfl rfl (Nat.le_of_ble_eq_true rfl) (Nat.le_of_ble_eq_true rfl) (by omega) (n_find (by omega) (m := 16) (z := ffd Y X) rfl (by omega : 0 ≤ (H.1 1826 8) ∧ (H.1 1826 8) ≤ ((16 : Nat) : Int) ∧ 16 ≤ 100) (by omega) (RK_ff hR (Or.inl (by omega)))) ?_
  rintro _ _ ⟨⟨k3, rfl, f4, f4x⟩ | ⟨rfl, f4⟩, rfl⟩
  · refine h_run 0 (pc' := 15) (l' := [(0, .inr (.inr 1826)), (1, .inl t), (2, .inl h)]) (st' := [.inl (k3 : Int)]) rfl ?_
    refine h_run 3 (pc' := 18) (l' := [(0, .inr (.inr 1826)), (1, .inl t), (2, .inl h), (3, .inl (k3 : Int))]) (st' := [.inl (-1), .inl (k3 : Int)]) rfl ?_
    refine h_ieq (off := 87) (t := 105) rfl rfl (by omega) (by decide) (fun c5 => ?_) (fun c5 => ?_)
    · exfalso
      omega
    · have hct := (pw2 k3 (by omega)).2.1
      obtain ⟨hk4, hk3⟩ := ffd_k (k := k3) hR hmf (by omega)
      refine h_run 1 (pc' := 22) (l' := [(0, .inr (.inr 1826)), (1, .inl t), (2, .inl h), (3, .inl (k3 : Int))]) (st' := [.inl h]) rfl ?_
      refine h_zne (off := 17) (t := 39) rfl rfl (by omega) (fun c6 => ?_) (fun c6 => ?_)
      · refine h_run 1 (pc' := 40) (l' := [(0, .inr (.inr 1826)), (1, .inl t), (2, .inl h), (3, .inl (k3 : Int))]) (st' := [.inr (.inr 1826)]) rfl ?_
        have g7 : -2147483648 ≤ (H.1 1826 35) ∧ (H.1 1826 35) ≤ 2147483647 := hrg0.1 1826 13 35 _ .int rfl rfl
        refine h_cv (i := 293) (j := 158) (b := 1826) (M' := mt_158) (xs := []) (rest := []) rfl rfl rfl rfl rfl rfl (Nat.le_of_ble_eq_true rfl) (Nat.le_of_ble_eq_true rfl) (by omega) (m_good1 (by omega) (by omega : (H.1 1826 35) = 0)) ?_
        rintro _ _ ⟨rfl, rfl⟩
        refine h_run 0 (pc' := 43) (l' := [(0, .inr (.inr 1826)), (1, .inl t), (2, .inl h), (3, .inl (k3 : Int))]) (st' := [.inl 1]) rfl ?_
        refine h_zeq (off := 23) (t := 66) rfl rfl (by decide) (fun c => absurd c (by decide)) (fun _ => ?_)
        refine h_run 2 (pc' := 48) (l' := [(0, .inr (.inr 1826)), (1, .inl t), (2, .inl h), (3, .inl (k3 : Int))]) (st' := [.inl (-1), .inl t]) rfl ?_
        refine h_ieq (off := 18) (t := 66) rfl rfl (by omega) (by decide) (fun c8 => ?_) (fun c8 => ?_)
        · refine h_run 1 (pc' := 67) (l' := [(0, .inr (.inr 1826)), (1, .inl t), (2, .inl h), (3, .inl (k3 : Int))]) (st' := [.inr (.inr 1826)]) rfl ?_
          have g9 : -2147483648 ≤ (H.1 1826 40) ∧ (H.1 1826 40) ≤ 2147483647 := hrg0.1 1826 13 40 _ .int rfl rfl
          by_cases b10 : (H.1 1826 40) = 40
          · refine h_cv (i := 344) (j := 168) (b := 1826) (M' := mt_168) (xs := []) (rest := []) rfl rfl rfl rfl rfl rfl (Nat.le_of_ble_eq_true rfl) (Nat.le_of_ble_eq_true rfl) (by omega) (m_countB (by omega) (by omega : (H.1 1826 35) = 0) (by omega : (H.1 1826 40) = 40)) ?_
            rintro _ _ ⟨rfl, rfl⟩
            refine h_run 0 (pc' := 70) (l' := [(0, .inr (.inr 1826)), (1, .inl t), (2, .inl h), (3, .inl (k3 : Int))]) (st' := []) rfl ?_
            refine h_run 4 (pc' := 75) (l' := [(0, .inr (.inr 1826)), (1, .inl t), (2, .inl h), (3, .inl (k3 : Int))]) (st' := [.inl (100 + (k3 : Int)), .inr (.inr 1826)]) rfl ?_
            refine h_cv (i := 350) (j := 169) (b := 1826) (M' := mt_169) (xs := [.inl (100 + (k3 : Int))]) (rest := []) rfl rfl rfl rfl rfl rfl (Nat.le_of_ble_eq_true rfl) (Nat.le_of_ble_eq_true rfl) (by omega) (m_put0 (by omega) (by omega : (5 : Int) ≠ 0)) ?_
            rintro _ _ ⟨rfl, rfl⟩
            refine h_run 0 (pc' := 78) (l' := [(0, .inr (.inr 1826)), (1, .inl t), (2, .inl h), (3, .inl (k3 : Int))]) (st' := []) rfl ?_
            refine h_run 1 (pc' := 79) (l' := [(0, .inr (.inr 1826)), (1, .inl t), (2, .inl h), (3, .inl (k3 : Int))]) (st' := [.inr (.inr 1826)]) rfl ?_
            refine h_cv (i := 293) (j := 158) (b := 1826) (M' := mt_158) (xs := []) (rest := []) rfl rfl rfl rfl rfl rfl (Nat.le_of_ble_eq_true rfl) (Nat.le_of_ble_eq_true rfl) (by omega) (m_good0 (by omega) (by omega : (5 : Int) ≠ 0)) ?_
            rintro _ _ ⟨rfl, rfl⟩
            refine h_run 0 (pc' := 82) (l' := [(0, .inr (.inr 1826)), (1, .inl t), (2, .inl h), (3, .inl (k3 : Int))]) (st' := [.inl 0]) rfl ?_
            refine h_zeq (off := 16) (t := 98) rfl rfl (by decide) (fun _ => ?_) (fun c => absurd c (by decide))
            refine h_run 3 (pc' := 103) (l' := [(0, .inr (.inr 1826)), (1, .inl t), (2, .inl h), (3, .inl (k3 : Int))]) (st' := [.inl (k3 : Int), .inr (.inr 1835)]) rfl ?_
            refine h_ild (c := 1835) (j := k3) (i := (k3 : Int)) rfl rfl (by decide) rfl (by omega) ?_
            have g11 : -2147483648 ≤ (H.1 1835 k3) ∧ (H.1 1835 k3) ≤ 2147483647 := hrg0.2 1835 k3 16 .int rfl (by omega)
            refine h_run 0 (pc' := 104) (l' := [(0, .inr (.inr 1826)), (1, .inl t), (2, .inl h), (3, .inl (k3 : Int))]) (st' := [.inl (H.1 1835 k3)]) rfl ?_
            refine h_reti (x := (H.1 1835 k3)) rfl rfl ?_
            have g12 : -2147483648 ≤ (H.1 1826 30) ∧ (H.1 1826 30) ≤ 2147483647 := hrg0.1 1826 13 30 _ .int rfl rfl
            have g13 : -2147483648 ≤ (H.1 1826 32) ∧ (H.1 1826 32) ≤ 2147483647 := hrg0.1 1826 13 32 _ .int rfl rfl
            have g14 : -2147483648 ≤ (H.1 1826 29) ∧ (H.1 1826 29) ≤ 2147483647 := hrg0.1 1826 13 29 _ .int rfl rfl
            have g15 : -2147483648 ≤ (H.1 1826 31) ∧ (H.1 1826 31) ≤ 2147483647 := hrg0.1 1826 13 31 _ .int rfl rfl
            have g16 : -2147483648 ≤ (H.1 1826 1) ∧ (H.1 1826 1) ≤ 2147483647 := hrg0.1 1826 13 1 _ .int rfl rfl
            have g17 : -2147483648 ≤ (H.1 1826 39) ∧ (H.1 1826 39) ≤ 2147483647 := hrg0.1 1826 13 39 _ .int rfl rfl
            have g18 : -2147483648 ≤ (H.1 1826 44) ∧ (H.1 1826 44) ≤ 2147483647 := hrg0.1 1826 13 44 _ .int rfl rfl
            exact ⟨⟨(H.1 1835 k3), rfl, by omega, by omega, (Or.inr ⟨(by omega : (5 : Int) ≠ 0), (BD_mk hR (fr_o (fr_o (fr_o (fr_rf [35, 36, 40] [] H) (by decide)) (by decide)) (by decide)) (by decide) (by decide) (by decide : (5 : Int) ≠ 0) rfl rfl (rch_st hq (by show stTerm Y (me e t) (H.1 1826 41) (1 - h) (SK e H ++ K) X = _; unfold stTerm stApp stVar miss; rw [show ffd Y X = ((k3 : Nat) : Int) by omega, Int.toNat_natCast]; (repeat (first | rw [if_pos (by omega)] | rw [if_neg (by omega)])); try (first | rfl | (exfalso; omega)))))⟩)⟩, (fr_o (fr_o (fr_o (fr_rf _ _ _) (by decide)) (by decide)) (by decide)), (by omega : (H.1 1826 30) ≤ (H.1 1826 30) ∧ (H.1 1826 30) ≤ (H.1 1826 29)), (by omega : 0 ≤ (5 : Int) ∧ (5 : Int) ≤ 5), (by omega : 0 ≤ (H.1 1826 32) ∧ (H.1 1826 32) ≤ 1000), (by omega : (5 : Int) = 0 → (H.1 1826 31) = 0 ∨ (H.1 1826 30) < (H.1 1826 30)), (by omega : ((H.1 1826 44) ≠ 2 → (H.1 1826 39) = (H.1 1826 39)) ∧ (H.1 1826 39) ≤ (H.1 1826 39)), (fun (q : (5 : Int) = 0) => absurd q (by omega))⟩
          · refine h_cv (i := 344) (j := 168) (b := 1826) (M' := mt_168) (xs := []) (rest := []) rfl rfl rfl rfl rfl rfl (Nat.le_of_ble_eq_true rfl) (Nat.le_of_ble_eq_true rfl) (by omega) (m_countA (by omega) (by omega : (H.1 1826 35) = 0) (by omega : 0 ≤ (H.1 1826 40) ∧ (H.1 1826 40) ≤ 1000) (by omega : (H.1 1826 40) ≠ 40)) ?_
            rintro _ _ ⟨rfl, rfl⟩
            refine h_run 0 (pc' := 70) (l' := [(0, .inr (.inr 1826)), (1, .inl t), (2, .inl h), (3, .inl (k3 : Int))]) (st' := []) rfl ?_
            refine h_run 4 (pc' := 75) (l' := [(0, .inr (.inr 1826)), (1, .inl t), (2, .inl h), (3, .inl (k3 : Int))]) (st' := [.inl (100 + (k3 : Int)), .inr (.inr 1826)]) rfl ?_
            have g19 : -2147483648 ≤ (H.1 1826 43) ∧ (H.1 1826 43) ≤ 2147483647 := hrg0.1 1826 13 43 _ .int rfl rfl
            refine h_cv (i := 350) (j := 169) (b := 1826) (M' := mt_169) (xs := [.inl (100 + (k3 : Int))]) (rest := []) rfl rfl rfl rfl rfl rfl (Nat.le_of_ble_eq_true rfl) (Nat.le_of_ble_eq_true rfl) (by omega) (m_put1 (by omega) (by omega : (H.1 1826 35) = 0) (by omega : 0 ≤ (H.1 1826 43) ∧ (H.1 1826 43) ≤ 47) (by omega)) ?_
            rintro _ _ ⟨rfl, rfl⟩
            refine h_run 0 (pc' := 78) (l' := [(0, .inr (.inr 1826)), (1, .inl t), (2, .inl h), (3, .inl (k3 : Int))]) (st' := []) rfl ?_
            refine h_run 1 (pc' := 79) (l' := [(0, .inr (.inr 1826)), (1, .inl t), (2, .inl h), (3, .inl (k3 : Int))]) (st' := [.inr (.inr 1826)]) rfl ?_
            refine h_cv (i := 293) (j := 158) (b := 1826) (M' := mt_158) (xs := []) (rest := []) rfl rfl rfl rfl rfl rfl (Nat.le_of_ble_eq_true rfl) (Nat.le_of_ble_eq_true rfl) (by omega) (m_good1 (by omega) (by omega : (H.1 1826 35) = 0)) ?_
            rintro _ _ ⟨rfl, rfl⟩
            refine h_run 0 (pc' := 82) (l' := [(0, .inr (.inr 1826)), (1, .inl t), (2, .inl h), (3, .inl (k3 : Int))]) (st' := [.inl 1]) rfl ?_
            refine h_zeq (off := 16) (t := 98) rfl rfl (by decide) (fun c => absurd c (by decide)) (fun _ => ?_)
            refine h_run 5 (pc' := 91) (l' := [(0, .inr (.inr 1826)), (1, .inl t), (2, .inl h), (3, .inl (k3 : Int))]) (st' := [.inl (-1), .inl (100 + (k3 : Int)), .inr (.inr 1826)]) rfl ?_
            have g20 : -2147483648 ≤ (H.1 1826 47) ∧ (H.1 1826 47) ≤ 2147483647 := hrg0.1 1826 13 47 _ .int rfl rfl
            refine h_cv (i := 364) (j := 181) (b := 1826) (M' := mt_181) (xs := [.inl (-1), .inl (100 + (k3 : Int))]) (rest := []) rfl rfl rfl rfl rfl rfl (Nat.le_of_ble_eq_true rfl) (Nat.le_of_ble_eq_true rfl) (by omega) (m_enter (by omega) (by omega : 0 ≤ (H.1 1826 47) ∧ (H.1 1826 47) ≤ 63) (by omega) (by omega)) ?_
            rintro _ _ ⟨rfl, rfl⟩
            refine h_run 0 (pc' := 94) (l' := [(0, .inr (.inr 1826)), (1, .inl t), (2, .inl h), (3, .inl (k3 : Int))]) (st' := []) rfl ?_
            have hq9 : rch Y c0 ((3, (100 + (k3 : Int)), 0, (H.1 1826 41)) :: (SK e H ++ K), xput X (100 + (k3 : Int))) := (rch_st hq (by show stTerm Y (me e t) (H.1 1826 41) (1 - h) (SK e H ++ K) X = _; unfold stTerm stApp stVar miss; rw [show ffd Y X = ((k3 : Nat) : Int) by omega, Int.toNat_natCast]; (repeat (first | rw [if_pos (by omega)] | rw [if_neg (by omega)])); try (first | rfl | (exfalso; omega))))
            refine h_run 1 (pc' := 95) (l' := [(0, .inr (.inr 1826)), (1, .inl t), (2, .inl h), (3, .inl (k3 : Int))]) (st' := [.inr (.inr 1826)]) rfl ?_
            have g21 : -2147483648 ≤ (H.1 1826 30) ∧ (H.1 1826 30) ≤ 2147483647 := hrg0.1 1826 13 30 _ .int rfl rfl
            have g22 : -2147483648 ≤ (H.1 1826 29) ∧ (H.1 1826 29) ≤ 2147483647 := hrg0.1 1826 13 29 _ .int rfl rfl
            have g23 : -2147483648 ≤ (H.1 1826 32) ∧ (H.1 1826 32) ≤ 2147483647 := hrg0.1 1826 13 32 _ .int rfl rfl
            refine h_cv (i := 297) (j := 165) (b := 1826) (M' := mt_165) (xs := []) (rest := []) rfl rfl rfl rfl rfl rfl (Nat.le_of_ble_eq_true rfl) (Nat.le_of_ble_eq_true rfl) (by omega) (n_nx (by omega) (by omega : 0 ≤ (H.1 1826 30) ∧ (H.1 1826 30) ≤ (H.1 1826 29) ∧ (H.1 1826 29) ≤ 1000) (by omega : 0 ≤ (H.1 1826 35) ∧ (H.1 1826 35) ≤ 5) (by omega : 0 ≤ (H.1 1826 32) ∧ (H.1 1826 32) ≤ 1000) (by omega : (H.1 1826 35) = 0) (X := (xput X (100 + (k3 : Int)))) (RN_mk hR (fr_o (fr_a (fr_a (fr_a (fr_o (fr_a (fr_o (fr_rf [40, 43, 47] [1851, 1852, 1853, 1854] H) (by decide)) (by decide)) (by decide)) (by decide)) (by decide)) (by decide)) (by decide)) (by decide) (by decide) (xpt_s _ _).1 (TA_sT (TA_fr hR.2.2.2.2 (fr_o (fr_a (fr_a (fr_a (fr_o (fr_a (fr_o (fr_rf [40, 43, 47] [1851, 1852, 1853, 1854] H) (by decide)) (by decide)) (by decide)) (by decide)) (by decide)) (by decide)) (by decide)) (by decide) (by decide)) (sT_put X _))) hq9 (lk_c (SK_lk hK) (by decide : (3 : Nat) ≠ 0) (fun q => absurd q (by decide : (3 : Nat) ≠ 1)))) ?_
            rintro _ H24 ⟨rfl, hx24n, hx24f, hx24a, hx24b, hx24c, -, hx24e, hx24g⟩
            refine h_rng (fun hrg25 => ?_)
            have hf26 : fr [30, 31, 32, 33, 35, 36, 39, 40, 41, 43, 47] [1849, 1850, 1851, 1852, 1853, 1854] H H24 := fr_t (fr_o (fr_a (fr_a (fr_a (fr_o (fr_a (fr_o (fr_rf _ _ _) (by decide)) (by decide)) (by decide)) (by decide)) (by decide)) (by decide)) (by decide)) hx24f (by decide) (by decide)
            replace hx24a : (H.1 1826 30) ≤ (H24.1 1826 30) := hx24a
            replace hx24b : (H24.1 1826 30) ≤ (H.1 1826 29) := hx24b
            replace hx24g : (H24.1 1826 35) = 0 → ((H24.1 1826 31) = 0 ∨ (H.1 1826 30) < (H24.1 1826 30)) := hx24g
            refine h_run 0 (pc' := 98) (l' := [(0, .inr (.inr 1826)), (1, .inl t), (2, .inl h), (3, .inl (k3 : Int))]) (st' := []) rfl ?_
            refine h_run 3 (pc' := 103) (l' := [(0, .inr (.inr 1826)), (1, .inl t), (2, .inl h), (3, .inl (k3 : Int))]) (st' := [.inl (k3 : Int), .inr (.inr 1835)]) rfl ?_
            refine h_ild (c := 1835) (j := k3) (i := (k3 : Int)) rfl rfl (by decide) rfl (by omega) ?_
            have g27 : -2147483648 ≤ (H24.1 1835 k3) ∧ (H24.1 1835 k3) ≤ 2147483647 := hrg25.2 1835 k3 16 .int rfl (by omega)
            have e28 : (H24.1 1835 k3) = (H.1 1835 k3) := congrFun (hx24f.2.1 1835 (by decide) (by decide)) k3
            refine h_run 0 (pc' := 104) (l' := [(0, .inr (.inr 1826)), (1, .inl t), (2, .inl h), (3, .inl (k3 : Int))]) (st' := [.inl (H24.1 1835 k3)]) rfl ?_
            refine h_reti (x := (H24.1 1835 k3)) rfl rfl ?_
            have g29 : -2147483648 ≤ (H24.1 1826 30) ∧ (H24.1 1826 30) ≤ 2147483647 := hrg25.1 1826 13 30 _ .int rfl rfl
            have g30 : -2147483648 ≤ (H24.1 1826 35) ∧ (H24.1 1826 35) ≤ 2147483647 := hrg25.1 1826 13 35 _ .int rfl rfl
            have g31 : -2147483648 ≤ (H24.1 1826 32) ∧ (H24.1 1826 32) ≤ 2147483647 := hrg25.1 1826 13 32 _ .int rfl rfl
            have g32 : -2147483648 ≤ (H24.1 1826 29) ∧ (H24.1 1826 29) ≤ 2147483647 := hrg25.1 1826 13 29 _ .int rfl rfl
            have e33 : (H24.1 1826 29) = (H.1 1826 29) := hx24f.2.2 29 (by decide)
            have g34 : -2147483648 ≤ (H24.1 1826 31) ∧ (H24.1 1826 31) ≤ 2147483647 := hrg25.1 1826 13 31 _ .int rfl rfl
            have g35 : -2147483648 ≤ (H24.1 1826 1) ∧ (H24.1 1826 1) ≤ 2147483647 := hrg25.1 1826 13 1 _ .int rfl rfl
            have e36 : (H24.1 1826 1) = (H.1 1826 1) := hx24f.2.2 1 (by decide)
            have g37 : -2147483648 ≤ (H24.1 1826 39) ∧ (H24.1 1826 39) ≤ 2147483647 := hrg25.1 1826 13 39 _ .int rfl rfl
            have e38 : (H24.1 1826 39) = (H.1 1826 39) := hx24f.2.2 39 (by decide)
            have g39 : -2147483648 ≤ (H24.1 1826 44) ∧ (H24.1 1826 44) ≤ 2147483647 := hrg25.1 1826 13 44 _ .int rfl rfl
            have e40 : (H24.1 1826 44) = (H.1 1826 44) := hx24f.2.2 44 (by decide)
            exact ⟨⟨(H24.1 1835 k3), rfl, by omega, by omega, (GB_i hx24n (fun q => ⟨_, (by rw [SK_name (H := H) (s := (100 + (k3 : Int))) (t := -1) (by omega) (by omega) (hx24f.2.2 47 (by decide)) (hx24f.2.1 1852 (by decide) (by decide)) (hx24f.2.1 1853 (by decide) (by decide)) (hx24f.2.1 1854 (by decide) (by decide)), hto, ← ta3]; exact hq9), ⟨q, VR_put hU.2.1 (hx24f.2.2 40 (by decide)) (hx24f.2.2 44 (by decide)) (hx24f.2.2 39 (by decide)) (hx24f.2.1 1849 (by decide) (by decide)) (hx24f.2.1 1850 (by decide) (by decide)), B0_name (s := (100 + (k3 : Int))) (t := -1) hU.2.2.1 (by have q8 : (H24.1 1826 40) = ((H.1 1826 40) + 1) := (hx24f.2.2 40 (by decide)); omega) (hx24f.2.2 44 (by decide)) (by omega) (by omega) (hx24f.2.2 47 (by decide)) (hx24f.2.1 1852 (by decide) (by decide)) (hx24f.2.1 1854 (by decide) (by decide)), RD_put hU.2.2.2 (by omega) rfl rfl (hx24f.2.2 43 (by decide)) (hx24f.2.1 1851 (by decide) (by decide))⟩, FH_app (by omega) (by omega) (by omega) (by rw [if_pos (by omega), show ((100 + (k3 : Int)) - 100).toNat = k3 by omega]; omega)⟩))⟩, hf26, (by omega : (H.1 1826 30) ≤ (H24.1 1826 30) ∧ (H24.1 1826 30) ≤ (H.1 1826 29)), (by omega : 0 ≤ (H24.1 1826 35) ∧ (H24.1 1826 35) ≤ 5), (by omega : 0 ≤ (H24.1 1826 32) ∧ (H24.1 1826 32) ≤ 1000), (by omega : (H24.1 1826 35) = 0 → (H24.1 1826 31) = 0 ∨ (H.1 1826 30) < (H24.1 1826 30)), (by omega : ((H.1 1826 44) ≠ 2 → (H24.1 1826 39) = (H.1 1826 39)) ∧ (H.1 1826 39) ≤ (H24.1 1826 39)), fun _ => TT_sign (s := (100 + (k3 : Int))) (q := ((H.1 1833) k3).toNat) hP hTT ⟨⟨(hx24f.2.2 1 (by decide)), (hx24f.2.2 3 (by decide)), (hx24f.2.2 8 (by decide)), (hx24f.2.2 44 (by decide))⟩, (hx24f.2.1 1833 (by decide) (by decide)), (hx24f.2.1 1830 (by decide) (by decide))⟩ (Or.inr (Or.inr (Or.inl ⟨by omega, by omega⟩))) (by rw [ma_f (by omega), show ((100 + (k3 : Int)) - 100).toNat = k3 by omega]; have := (pw2 k3 (by omega)).1; omega) (by have := (pw2 k3 (by omega)).1; omega) (by omega) ⟨(hx24f.2.2 40 (by decide)), (hx24f.2.2 43 (by decide)), (hx24f.2.2 41 (by decide))⟩ (hx24f.2.1 1851 (by decide) (by decide)) (Or.inl ⟨(hx24f.2.2 39 (by decide)), (hx24f.2.1 1850 (by decide) (by decide))⟩) (Or.inr ⟨(Or.inr ⟨by omega, by omega⟩), (hx24f.2.2 47 (by decide)), (hx24f.2.1 1852 (by decide) (by decide)), (hx24f.2.1 1853 (by decide) (by decide)), -1, (hx24f.2.1 1854 (by decide) (by decide))⟩)⟩
        · refine h_run 3 (pc' := 56) (l' := [(0, .inr (.inr 1826)), (1, .inl t), (2, .inl h), (3, .inl (k3 : Int))]) (st' := [.inl (k3 : Int), .inr (.inr 1835)]) rfl ?_
          refine h_ild (c := 1835) (j := k3) (i := (k3 : Int)) rfl rfl (by decide) rfl (by omega) ?_
          have g41 : -2147483648 ≤ (H.1 1835 k3) ∧ (H.1 1835 k3) ≤ 2147483647 := hrg0.2 1835 k3 16 .int rfl (by omega)
          refine h_run 0 (pc' := 57) (l' := [(0, .inr (.inr 1826)), (1, .inl t), (2, .inl h), (3, .inl (k3 : Int))]) (st' := [.inl (H.1 1835 k3)]) rfl ?_
          refine h_run 1 (pc' := 58) (l' := [(0, .inr (.inr 1826)), (1, .inl t), (2, .inl h), (3, .inl (k3 : Int))]) (st' := [.inl t, .inl (H.1 1835 k3)]) rfl ?_
          refine h_ieq (off := 8) (t := 66) rfl rfl (by omega) (by omega) (fun c42 => ?_) (fun c42 => ?_)
          · refine h_run 1 (pc' := 67) (l' := [(0, .inr (.inr 1826)), (1, .inl t), (2, .inl h), (3, .inl (k3 : Int))]) (st' := [.inr (.inr 1826)]) rfl ?_
            have g43 : -2147483648 ≤ (H.1 1826 40) ∧ (H.1 1826 40) ≤ 2147483647 := hrg0.1 1826 13 40 _ .int rfl rfl
            by_cases b44 : (H.1 1826 40) = 40
            · refine h_cv (i := 344) (j := 168) (b := 1826) (M' := mt_168) (xs := []) (rest := []) rfl rfl rfl rfl rfl rfl (Nat.le_of_ble_eq_true rfl) (Nat.le_of_ble_eq_true rfl) (by omega) (m_countB (by omega) (by omega : (H.1 1826 35) = 0) (by omega : (H.1 1826 40) = 40)) ?_
              rintro _ _ ⟨rfl, rfl⟩
              refine h_run 0 (pc' := 70) (l' := [(0, .inr (.inr 1826)), (1, .inl t), (2, .inl h), (3, .inl (k3 : Int))]) (st' := []) rfl ?_
              refine h_run 4 (pc' := 75) (l' := [(0, .inr (.inr 1826)), (1, .inl t), (2, .inl h), (3, .inl (k3 : Int))]) (st' := [.inl (100 + (k3 : Int)), .inr (.inr 1826)]) rfl ?_
              refine h_cv (i := 350) (j := 169) (b := 1826) (M' := mt_169) (xs := [.inl (100 + (k3 : Int))]) (rest := []) rfl rfl rfl rfl rfl rfl (Nat.le_of_ble_eq_true rfl) (Nat.le_of_ble_eq_true rfl) (by omega) (m_put0 (by omega) (by omega : (5 : Int) ≠ 0)) ?_
              rintro _ _ ⟨rfl, rfl⟩
              refine h_run 0 (pc' := 78) (l' := [(0, .inr (.inr 1826)), (1, .inl t), (2, .inl h), (3, .inl (k3 : Int))]) (st' := []) rfl ?_
              refine h_run 1 (pc' := 79) (l' := [(0, .inr (.inr 1826)), (1, .inl t), (2, .inl h), (3, .inl (k3 : Int))]) (st' := [.inr (.inr 1826)]) rfl ?_
              refine h_cv (i := 293) (j := 158) (b := 1826) (M' := mt_158) (xs := []) (rest := []) rfl rfl rfl rfl rfl rfl (Nat.le_of_ble_eq_true rfl) (Nat.le_of_ble_eq_true rfl) (by omega) (m_good0 (by omega) (by omega : (5 : Int) ≠ 0)) ?_
              rintro _ _ ⟨rfl, rfl⟩
              refine h_run 0 (pc' := 82) (l' := [(0, .inr (.inr 1826)), (1, .inl t), (2, .inl h), (3, .inl (k3 : Int))]) (st' := [.inl 0]) rfl ?_
              refine h_zeq (off := 16) (t := 98) rfl rfl (by decide) (fun _ => ?_) (fun c => absurd c (by decide))
              refine h_run 3 (pc' := 103) (l' := [(0, .inr (.inr 1826)), (1, .inl t), (2, .inl h), (3, .inl (k3 : Int))]) (st' := [.inl (k3 : Int), .inr (.inr 1835)]) rfl ?_
              refine h_ild (c := 1835) (j := k3) (i := (k3 : Int)) rfl rfl (by decide) rfl (by omega) ?_
              refine h_run 0 (pc' := 104) (l' := [(0, .inr (.inr 1826)), (1, .inl t), (2, .inl h), (3, .inl (k3 : Int))]) (st' := [.inl (H.1 1835 k3)]) rfl ?_
              refine h_reti (x := (H.1 1835 k3)) rfl rfl ?_
              have g45 : -2147483648 ≤ (H.1 1826 30) ∧ (H.1 1826 30) ≤ 2147483647 := hrg0.1 1826 13 30 _ .int rfl rfl
              have g46 : -2147483648 ≤ (H.1 1826 32) ∧ (H.1 1826 32) ≤ 2147483647 := hrg0.1 1826 13 32 _ .int rfl rfl
              have g47 : -2147483648 ≤ (H.1 1826 29) ∧ (H.1 1826 29) ≤ 2147483647 := hrg0.1 1826 13 29 _ .int rfl rfl
              have g48 : -2147483648 ≤ (H.1 1826 31) ∧ (H.1 1826 31) ≤ 2147483647 := hrg0.1 1826 13 31 _ .int rfl rfl
              have g49 : -2147483648 ≤ (H.1 1826 1) ∧ (H.1 1826 1) ≤ 2147483647 := hrg0.1 1826 13 1 _ .int rfl rfl
              have g50 : -2147483648 ≤ (H.1 1826 39) ∧ (H.1 1826 39) ≤ 2147483647 := hrg0.1 1826 13 39 _ .int rfl rfl
              have g51 : -2147483648 ≤ (H.1 1826 44) ∧ (H.1 1826 44) ≤ 2147483647 := hrg0.1 1826 13 44 _ .int rfl rfl
              exact ⟨⟨(H.1 1835 k3), rfl, by omega, by omega, (Or.inr ⟨(by omega : (5 : Int) ≠ 0), (BD_mk hR (fr_o (fr_o (fr_o (fr_rf [35, 36, 40] [] H) (by decide)) (by decide)) (by decide)) (by decide) (by decide) (by decide : (5 : Int) ≠ 0) rfl rfl (rch_st hq (by show stTerm Y (me e t) (H.1 1826 41) (1 - h) (SK e H ++ K) X = _; unfold stTerm stApp stVar miss; rw [show ffd Y X = ((k3 : Nat) : Int) by omega, Int.toNat_natCast]; (repeat (first | rw [if_pos (by omega)] | rw [if_neg (by omega)])); try (first | rfl | (exfalso; omega)))))⟩)⟩, (fr_o (fr_o (fr_o (fr_rf _ _ _) (by decide)) (by decide)) (by decide)), (by omega : (H.1 1826 30) ≤ (H.1 1826 30) ∧ (H.1 1826 30) ≤ (H.1 1826 29)), (by omega : 0 ≤ (5 : Int) ∧ (5 : Int) ≤ 5), (by omega : 0 ≤ (H.1 1826 32) ∧ (H.1 1826 32) ≤ 1000), (by omega : (5 : Int) = 0 → (H.1 1826 31) = 0 ∨ (H.1 1826 30) < (H.1 1826 30)), (by omega : ((H.1 1826 44) ≠ 2 → (H.1 1826 39) = (H.1 1826 39)) ∧ (H.1 1826 39) ≤ (H.1 1826 39)), (fun (q : (5 : Int) = 0) => absurd q (by omega))⟩
            · refine h_cv (i := 344) (j := 168) (b := 1826) (M' := mt_168) (xs := []) (rest := []) rfl rfl rfl rfl rfl rfl (Nat.le_of_ble_eq_true rfl) (Nat.le_of_ble_eq_true rfl) (by omega) (m_countA (by omega) (by omega : (H.1 1826 35) = 0) (by omega : 0 ≤ (H.1 1826 40) ∧ (H.1 1826 40) ≤ 1000) (by omega : (H.1 1826 40) ≠ 40)) ?_
              rintro _ _ ⟨rfl, rfl⟩
              refine h_run 0 (pc' := 70) (l' := [(0, .inr (.inr 1826)), (1, .inl t), (2, .inl h), (3, .inl (k3 : Int))]) (st' := []) rfl ?_
              refine h_run 4 (pc' := 75) (l' := [(0, .inr (.inr 1826)), (1, .inl t), (2, .inl h), (3, .inl (k3 : Int))]) (st' := [.inl (100 + (k3 : Int)), .inr (.inr 1826)]) rfl ?_
              have g52 : -2147483648 ≤ (H.1 1826 43) ∧ (H.1 1826 43) ≤ 2147483647 := hrg0.1 1826 13 43 _ .int rfl rfl
              refine h_cv (i := 350) (j := 169) (b := 1826) (M' := mt_169) (xs := [.inl (100 + (k3 : Int))]) (rest := []) rfl rfl rfl rfl rfl rfl (Nat.le_of_ble_eq_true rfl) (Nat.le_of_ble_eq_true rfl) (by omega) (m_put1 (by omega) (by omega : (H.1 1826 35) = 0) (by omega : 0 ≤ (H.1 1826 43) ∧ (H.1 1826 43) ≤ 47) (by omega)) ?_
              rintro _ _ ⟨rfl, rfl⟩
              refine h_run 0 (pc' := 78) (l' := [(0, .inr (.inr 1826)), (1, .inl t), (2, .inl h), (3, .inl (k3 : Int))]) (st' := []) rfl ?_
              refine h_run 1 (pc' := 79) (l' := [(0, .inr (.inr 1826)), (1, .inl t), (2, .inl h), (3, .inl (k3 : Int))]) (st' := [.inr (.inr 1826)]) rfl ?_
              refine h_cv (i := 293) (j := 158) (b := 1826) (M' := mt_158) (xs := []) (rest := []) rfl rfl rfl rfl rfl rfl (Nat.le_of_ble_eq_true rfl) (Nat.le_of_ble_eq_true rfl) (by omega) (m_good1 (by omega) (by omega : (H.1 1826 35) = 0)) ?_
              rintro _ _ ⟨rfl, rfl⟩
              refine h_run 0 (pc' := 82) (l' := [(0, .inr (.inr 1826)), (1, .inl t), (2, .inl h), (3, .inl (k3 : Int))]) (st' := [.inl 1]) rfl ?_
              refine h_zeq (off := 16) (t := 98) rfl rfl (by decide) (fun c => absurd c (by decide)) (fun _ => ?_)
              refine h_run 5 (pc' := 91) (l' := [(0, .inr (.inr 1826)), (1, .inl t), (2, .inl h), (3, .inl (k3 : Int))]) (st' := [.inl (-1), .inl (100 + (k3 : Int)), .inr (.inr 1826)]) rfl ?_
              have g53 : -2147483648 ≤ (H.1 1826 47) ∧ (H.1 1826 47) ≤ 2147483647 := hrg0.1 1826 13 47 _ .int rfl rfl
              refine h_cv (i := 364) (j := 181) (b := 1826) (M' := mt_181) (xs := [.inl (-1), .inl (100 + (k3 : Int))]) (rest := []) rfl rfl rfl rfl rfl rfl (Nat.le_of_ble_eq_true rfl) (Nat.le_of_ble_eq_true rfl) (by omega) (m_enter (by omega) (by omega : 0 ≤ (H.1 1826 47) ∧ (H.1 1826 47) ≤ 63) (by omega) (by omega)) ?_
              rintro _ _ ⟨rfl, rfl⟩
              refine h_run 0 (pc' := 94) (l' := [(0, .inr (.inr 1826)), (1, .inl t), (2, .inl h), (3, .inl (k3 : Int))]) (st' := []) rfl ?_
              have hq9 : rch Y c0 ((3, (100 + (k3 : Int)), 0, (H.1 1826 41)) :: (SK e H ++ K), xput X (100 + (k3 : Int))) := (rch_st hq (by show stTerm Y (me e t) (H.1 1826 41) (1 - h) (SK e H ++ K) X = _; unfold stTerm stApp stVar miss; rw [show ffd Y X = ((k3 : Nat) : Int) by omega, Int.toNat_natCast]; (repeat (first | rw [if_pos (by omega)] | rw [if_neg (by omega)])); try (first | rfl | (exfalso; omega))))
              refine h_run 1 (pc' := 95) (l' := [(0, .inr (.inr 1826)), (1, .inl t), (2, .inl h), (3, .inl (k3 : Int))]) (st' := [.inr (.inr 1826)]) rfl ?_
              have g54 : -2147483648 ≤ (H.1 1826 30) ∧ (H.1 1826 30) ≤ 2147483647 := hrg0.1 1826 13 30 _ .int rfl rfl
              have g55 : -2147483648 ≤ (H.1 1826 29) ∧ (H.1 1826 29) ≤ 2147483647 := hrg0.1 1826 13 29 _ .int rfl rfl
              have g56 : -2147483648 ≤ (H.1 1826 32) ∧ (H.1 1826 32) ≤ 2147483647 := hrg0.1 1826 13 32 _ .int rfl rfl
              refine h_cv (i := 297) (j := 165) (b := 1826) (M' := mt_165) (xs := []) (rest := []) rfl rfl rfl rfl rfl rfl (Nat.le_of_ble_eq_true rfl) (Nat.le_of_ble_eq_true rfl) (by omega) (n_nx (by omega) (by omega : 0 ≤ (H.1 1826 30) ∧ (H.1 1826 30) ≤ (H.1 1826 29) ∧ (H.1 1826 29) ≤ 1000) (by omega : 0 ≤ (H.1 1826 35) ∧ (H.1 1826 35) ≤ 5) (by omega : 0 ≤ (H.1 1826 32) ∧ (H.1 1826 32) ≤ 1000) (by omega : (H.1 1826 35) = 0) (X := (xput X (100 + (k3 : Int)))) (RN_mk hR (fr_o (fr_a (fr_a (fr_a (fr_o (fr_a (fr_o (fr_rf [40, 43, 47] [1851, 1852, 1853, 1854] H) (by decide)) (by decide)) (by decide)) (by decide)) (by decide)) (by decide)) (by decide)) (by decide) (by decide) (xpt_s _ _).1 (TA_sT (TA_fr hR.2.2.2.2 (fr_o (fr_a (fr_a (fr_a (fr_o (fr_a (fr_o (fr_rf [40, 43, 47] [1851, 1852, 1853, 1854] H) (by decide)) (by decide)) (by decide)) (by decide)) (by decide)) (by decide)) (by decide)) (by decide) (by decide)) (sT_put X _))) hq9 (lk_c (SK_lk hK) (by decide : (3 : Nat) ≠ 0) (fun q => absurd q (by decide : (3 : Nat) ≠ 1)))) ?_
              rintro _ H57 ⟨rfl, hx57n, hx57f, hx57a, hx57b, hx57c, -, hx57e, hx57g⟩
              refine h_rng (fun hrg58 => ?_)
              have hf59 : fr [30, 31, 32, 33, 35, 36, 39, 40, 41, 43, 47] [1849, 1850, 1851, 1852, 1853, 1854] H H57 := fr_t (fr_o (fr_a (fr_a (fr_a (fr_o (fr_a (fr_o (fr_rf _ _ _) (by decide)) (by decide)) (by decide)) (by decide)) (by decide)) (by decide)) (by decide)) hx57f (by decide) (by decide)
              replace hx57a : (H.1 1826 30) ≤ (H57.1 1826 30) := hx57a
              replace hx57b : (H57.1 1826 30) ≤ (H.1 1826 29) := hx57b
              replace hx57g : (H57.1 1826 35) = 0 → ((H57.1 1826 31) = 0 ∨ (H.1 1826 30) < (H57.1 1826 30)) := hx57g
              refine h_run 0 (pc' := 98) (l' := [(0, .inr (.inr 1826)), (1, .inl t), (2, .inl h), (3, .inl (k3 : Int))]) (st' := []) rfl ?_
              refine h_run 3 (pc' := 103) (l' := [(0, .inr (.inr 1826)), (1, .inl t), (2, .inl h), (3, .inl (k3 : Int))]) (st' := [.inl (k3 : Int), .inr (.inr 1835)]) rfl ?_
              refine h_ild (c := 1835) (j := k3) (i := (k3 : Int)) rfl rfl (by decide) rfl (by omega) ?_
              have g60 : -2147483648 ≤ (H57.1 1835 k3) ∧ (H57.1 1835 k3) ≤ 2147483647 := hrg58.2 1835 k3 16 .int rfl (by omega)
              have e61 : (H57.1 1835 k3) = (H.1 1835 k3) := congrFun (hx57f.2.1 1835 (by decide) (by decide)) k3
              refine h_run 0 (pc' := 104) (l' := [(0, .inr (.inr 1826)), (1, .inl t), (2, .inl h), (3, .inl (k3 : Int))]) (st' := [.inl (H57.1 1835 k3)]) rfl ?_
              refine h_reti (x := (H57.1 1835 k3)) rfl rfl ?_
              have g62 : -2147483648 ≤ (H57.1 1826 30) ∧ (H57.1 1826 30) ≤ 2147483647 := hrg58.1 1826 13 30 _ .int rfl rfl
              have g63 : -2147483648 ≤ (H57.1 1826 35) ∧ (H57.1 1826 35) ≤ 2147483647 := hrg58.1 1826 13 35 _ .int rfl rfl
              have g64 : -2147483648 ≤ (H57.1 1826 32) ∧ (H57.1 1826 32) ≤ 2147483647 := hrg58.1 1826 13 32 _ .int rfl rfl
              have g65 : -2147483648 ≤ (H57.1 1826 29) ∧ (H57.1 1826 29) ≤ 2147483647 := hrg58.1 1826 13 29 _ .int rfl rfl
              have e66 : (H57.1 1826 29) = (H.1 1826 29) := hx57f.2.2 29 (by decide)
              have g67 : -2147483648 ≤ (H57.1 1826 31) ∧ (H57.1 1826 31) ≤ 2147483647 := hrg58.1 1826 13 31 _ .int rfl rfl
              have g68 : -2147483648 ≤ (H57.1 1826 1) ∧ (H57.1 1826 1) ≤ 2147483647 := hrg58.1 1826 13 1 _ .int rfl rfl
              have e69 : (H57.1 1826 1) = (H.1 1826 1) := hx57f.2.2 1 (by decide)
              have g70 : -2147483648 ≤ (H57.1 1826 39) ∧ (H57.1 1826 39) ≤ 2147483647 := hrg58.1 1826 13 39 _ .int rfl rfl
              have e71 : (H57.1 1826 39) = (H.1 1826 39) := hx57f.2.2 39 (by decide)
              have g72 : -2147483648 ≤ (H57.1 1826 44) ∧ (H57.1 1826 44) ≤ 2147483647 := hrg58.1 1826 13 44 _ .int rfl rfl
              have e73 : (H57.1 1826 44) = (H.1 1826 44) := hx57f.2.2 44 (by decide)
              exact ⟨⟨(H57.1 1835 k3), rfl, by omega, by omega, (GB_i hx57n (fun q => ⟨_, (by rw [SK_name (H := H) (s := (100 + (k3 : Int))) (t := -1) (by omega) (by omega) (hx57f.2.2 47 (by decide)) (hx57f.2.1 1852 (by decide) (by decide)) (hx57f.2.1 1853 (by decide) (by decide)) (hx57f.2.1 1854 (by decide) (by decide)), hto, ← ta3]; exact hq9), ⟨q, VR_put hU.2.1 (hx57f.2.2 40 (by decide)) (hx57f.2.2 44 (by decide)) (hx57f.2.2 39 (by decide)) (hx57f.2.1 1849 (by decide) (by decide)) (hx57f.2.1 1850 (by decide) (by decide)), B0_name (s := (100 + (k3 : Int))) (t := -1) hU.2.2.1 (by have q8 : (H57.1 1826 40) = ((H.1 1826 40) + 1) := (hx57f.2.2 40 (by decide)); omega) (hx57f.2.2 44 (by decide)) (by omega) (by omega) (hx57f.2.2 47 (by decide)) (hx57f.2.1 1852 (by decide) (by decide)) (hx57f.2.1 1854 (by decide) (by decide)), RD_put hU.2.2.2 (by omega) rfl rfl (hx57f.2.2 43 (by decide)) (hx57f.2.1 1851 (by decide) (by decide))⟩, FH_app (by omega) (by omega) (by omega) (by rw [if_pos (by omega), show ((100 + (k3 : Int)) - 100).toNat = k3 by omega]; omega)⟩))⟩, hf59, (by omega : (H.1 1826 30) ≤ (H57.1 1826 30) ∧ (H57.1 1826 30) ≤ (H.1 1826 29)), (by omega : 0 ≤ (H57.1 1826 35) ∧ (H57.1 1826 35) ≤ 5), (by omega : 0 ≤ (H57.1 1826 32) ∧ (H57.1 1826 32) ≤ 1000), (by omega : (H57.1 1826 35) = 0 → (H57.1 1826 31) = 0 ∨ (H.1 1826 30) < (H57.1 1826 30)), (by omega : ((H.1 1826 44) ≠ 2 → (H57.1 1826 39) = (H.1 1826 39)) ∧ (H.1 1826 39) ≤ (H57.1 1826 39)), fun _ => TT_sign (s := (100 + (k3 : Int))) (q := ((H.1 1833) k3).toNat) hP hTT ⟨⟨(hx57f.2.2 1 (by decide)), (hx57f.2.2 3 (by decide)), (hx57f.2.2 8 (by decide)), (hx57f.2.2 44 (by decide))⟩, (hx57f.2.1 1833 (by decide) (by decide)), (hx57f.2.1 1830 (by decide) (by decide))⟩ (Or.inr (Or.inr (Or.inl ⟨by omega, by omega⟩))) (by rw [ma_f (by omega), show ((100 + (k3 : Int)) - 100).toNat = k3 by omega]; have := (pw2 k3 (by omega)).1; omega) (by have := (pw2 k3 (by omega)).1; omega) (by omega) ⟨(hx57f.2.2 40 (by decide)), (hx57f.2.2 43 (by decide)), (hx57f.2.2 41 (by decide))⟩ (hx57f.2.1 1851 (by decide) (by decide)) (Or.inl ⟨(hx57f.2.2 39 (by decide)), (hx57f.2.1 1850 (by decide) (by decide))⟩) (Or.inr ⟨(Or.inr ⟨by omega, by omega⟩), (hx57f.2.2 47 (by decide)), (hx57f.2.1 1852 (by decide) (by decide)), (hx57f.2.1 1853 (by decide) (by decide)), -1, (hx57f.2.1 1854 (by decide) (by decide))⟩)⟩
          · refine h_run 2 (pc' := 63) (l' := [(0, .inr (.inr 1826)), (1, .inl t), (2, .inl h), (3, .inl (k3 : Int))]) (st' := [.inl 4, .inr (.inr 1826)]) rfl ?_
            refine h_cv (i := 278) (j := 159) (b := 1826) (M' := mt_159) (xs := [.inl 4]) (rest := []) rfl rfl rfl rfl rfl rfl (Nat.le_of_ble_eq_true rfl) (Nat.le_of_ble_eq_true rfl) (by omega) (m_bad0 (by omega) (by omega) (by omega : (H.1 1826 35) = 0)) ?_
            rintro _ _ ⟨rfl, rfl⟩
            refine h_run 0 (pc' := 66) (l' := [(0, .inr (.inr 1826)), (1, .inl t), (2, .inl h), (3, .inl (k3 : Int))]) (st' := []) rfl ?_
            refine h_run 1 (pc' := 67) (l' := [(0, .inr (.inr 1826)), (1, .inl t), (2, .inl h), (3, .inl (k3 : Int))]) (st' := [.inr (.inr 1826)]) rfl ?_
            have g74 : -2147483648 ≤ (H.1 1826 40) ∧ (H.1 1826 40) ≤ 2147483647 := hrg0.1 1826 13 40 _ .int rfl rfl
            refine h_cv (i := 344) (j := 168) (b := 1826) (M' := mt_168) (xs := []) (rest := []) rfl rfl rfl rfl rfl rfl (Nat.le_of_ble_eq_true rfl) (Nat.le_of_ble_eq_true rfl) (by omega) (m_countC (by omega) (by omega : (4 : Int) ≠ 0) (by omega : 0 ≤ (H.1 1826 40) ∧ (H.1 1826 40) ≤ 1000)) ?_
            rintro _ _ ⟨rfl, rfl⟩
            refine h_run 0 (pc' := 70) (l' := [(0, .inr (.inr 1826)), (1, .inl t), (2, .inl h), (3, .inl (k3 : Int))]) (st' := []) rfl ?_
            refine h_run 4 (pc' := 75) (l' := [(0, .inr (.inr 1826)), (1, .inl t), (2, .inl h), (3, .inl (k3 : Int))]) (st' := [.inl (100 + (k3 : Int)), .inr (.inr 1826)]) rfl ?_
            refine h_cv (i := 350) (j := 169) (b := 1826) (M' := mt_169) (xs := [.inl (100 + (k3 : Int))]) (rest := []) rfl rfl rfl rfl rfl rfl (Nat.le_of_ble_eq_true rfl) (Nat.le_of_ble_eq_true rfl) (by omega) (m_put0 (by omega) (by omega : (4 : Int) ≠ 0)) ?_
            rintro _ _ ⟨rfl, rfl⟩
            refine h_run 0 (pc' := 78) (l' := [(0, .inr (.inr 1826)), (1, .inl t), (2, .inl h), (3, .inl (k3 : Int))]) (st' := []) rfl ?_
            refine h_run 1 (pc' := 79) (l' := [(0, .inr (.inr 1826)), (1, .inl t), (2, .inl h), (3, .inl (k3 : Int))]) (st' := [.inr (.inr 1826)]) rfl ?_
            refine h_cv (i := 293) (j := 158) (b := 1826) (M' := mt_158) (xs := []) (rest := []) rfl rfl rfl rfl rfl rfl (Nat.le_of_ble_eq_true rfl) (Nat.le_of_ble_eq_true rfl) (by omega) (m_good0 (by omega) (by omega : (4 : Int) ≠ 0)) ?_
            rintro _ _ ⟨rfl, rfl⟩
            refine h_run 0 (pc' := 82) (l' := [(0, .inr (.inr 1826)), (1, .inl t), (2, .inl h), (3, .inl (k3 : Int))]) (st' := [.inl 0]) rfl ?_
            refine h_zeq (off := 16) (t := 98) rfl rfl (by decide) (fun _ => ?_) (fun c => absurd c (by decide))
            refine h_run 3 (pc' := 103) (l' := [(0, .inr (.inr 1826)), (1, .inl t), (2, .inl h), (3, .inl (k3 : Int))]) (st' := [.inl (k3 : Int), .inr (.inr 1835)]) rfl ?_
            refine h_ild (c := 1835) (j := k3) (i := (k3 : Int)) rfl rfl (by decide) rfl (by omega) ?_
            refine h_run 0 (pc' := 104) (l' := [(0, .inr (.inr 1826)), (1, .inl t), (2, .inl h), (3, .inl (k3 : Int))]) (st' := [.inl (H.1 1835 k3)]) rfl ?_
            refine h_reti (x := (H.1 1835 k3)) rfl rfl ?_
            have g75 : -2147483648 ≤ (H.1 1826 30) ∧ (H.1 1826 30) ≤ 2147483647 := hrg0.1 1826 13 30 _ .int rfl rfl
            have g76 : -2147483648 ≤ (H.1 1826 32) ∧ (H.1 1826 32) ≤ 2147483647 := hrg0.1 1826 13 32 _ .int rfl rfl
            have g77 : -2147483648 ≤ (H.1 1826 29) ∧ (H.1 1826 29) ≤ 2147483647 := hrg0.1 1826 13 29 _ .int rfl rfl
            have g78 : -2147483648 ≤ (H.1 1826 31) ∧ (H.1 1826 31) ≤ 2147483647 := hrg0.1 1826 13 31 _ .int rfl rfl
            have g79 : -2147483648 ≤ (H.1 1826 1) ∧ (H.1 1826 1) ≤ 2147483647 := hrg0.1 1826 13 1 _ .int rfl rfl
            have g80 : -2147483648 ≤ (H.1 1826 39) ∧ (H.1 1826 39) ≤ 2147483647 := hrg0.1 1826 13 39 _ .int rfl rfl
            have g81 : -2147483648 ≤ (H.1 1826 44) ∧ (H.1 1826 44) ≤ 2147483647 := hrg0.1 1826 13 44 _ .int rfl rfl
            exact ⟨⟨(H.1 1835 k3), rfl, by omega, by omega, (Or.inr ⟨(by omega : (4 : Int) ≠ 0), (BD_mk hR (fr_o (fr_o (fr_o (fr_rf [35, 36, 40] [] H) (by decide)) (by decide)) (by decide)) (by decide) (by decide) (by decide : (4 : Int) ≠ 0) rfl rfl (rch_st hq (by show stTerm Y (me e t) (H.1 1826 41) (1 - h) (SK e H ++ K) X = _; unfold stTerm stApp stVar miss; rw [show ffd Y X = ((k3 : Nat) : Int) by omega, Int.toNat_natCast]; (repeat (first | rw [if_pos (by omega)] | rw [if_neg (by omega)])); try (first | rfl | (exfalso; omega)))))⟩)⟩, (fr_o (fr_o (fr_o (fr_rf _ _ _) (by decide)) (by decide)) (by decide)), (by omega : (H.1 1826 30) ≤ (H.1 1826 30) ∧ (H.1 1826 30) ≤ (H.1 1826 29)), (by omega : 0 ≤ (4 : Int) ∧ (4 : Int) ≤ 5), (by omega : 0 ≤ (H.1 1826 32) ∧ (H.1 1826 32) ≤ 1000), (by omega : (4 : Int) = 0 → (H.1 1826 31) = 0 ∨ (H.1 1826 30) < (H.1 1826 30)), (by omega : ((H.1 1826 44) ≠ 2 → (H.1 1826 39) = (H.1 1826 39)) ∧ (H.1 1826 39) ≤ (H.1 1826 39)), (fun (q : (4 : Int) = 0) => absurd q (by omega))⟩
      · refine h_run 3 (pc' := 30) (l' := [(0, .inr (.inr 1826)), (1, .inl t), (2, .inl h), (3, .inl (k3 : Int))]) (st' := [.inl (k3 : Int), .inr (.inr 1833)]) rfl ?_
        refine h_ild (c := 1833) (j := k3) (i := (k3 : Int)) rfl rfl (by decide) rfl (by omega) ?_
        have g82 : -2147483648 ≤ (H.1 1833 k3) ∧ (H.1 1833 k3) ≤ 2147483647 := hrg0.2 1833 k3 16 .int rfl (by omega)
        refine h_run 0 (pc' := 31) (l' := [(0, .inr (.inr 1826)), (1, .inl t), (2, .inl h), (3, .inl (k3 : Int))]) (st' := [.inl (H.1 1833 k3)]) rfl ?_
        refine h_zle (off := 8) (t := 39) rfl rfl (by omega) (fun c83 => ?_) (fun c83 => ?_)
        · refine h_run 1 (pc' := 40) (l' := [(0, .inr (.inr 1826)), (1, .inl t), (2, .inl h), (3, .inl (k3 : Int))]) (st' := [.inr (.inr 1826)]) rfl ?_
          have g84 : -2147483648 ≤ (H.1 1826 35) ∧ (H.1 1826 35) ≤ 2147483647 := hrg0.1 1826 13 35 _ .int rfl rfl
          refine h_cv (i := 293) (j := 158) (b := 1826) (M' := mt_158) (xs := []) (rest := []) rfl rfl rfl rfl rfl rfl (Nat.le_of_ble_eq_true rfl) (Nat.le_of_ble_eq_true rfl) (by omega) (m_good1 (by omega) (by omega : (H.1 1826 35) = 0)) ?_
          rintro _ _ ⟨rfl, rfl⟩
          refine h_run 0 (pc' := 43) (l' := [(0, .inr (.inr 1826)), (1, .inl t), (2, .inl h), (3, .inl (k3 : Int))]) (st' := [.inl 1]) rfl ?_
          refine h_zeq (off := 23) (t := 66) rfl rfl (by decide) (fun c => absurd c (by decide)) (fun _ => ?_)
          refine h_run 2 (pc' := 48) (l' := [(0, .inr (.inr 1826)), (1, .inl t), (2, .inl h), (3, .inl (k3 : Int))]) (st' := [.inl (-1), .inl t]) rfl ?_
          refine h_ieq (off := 18) (t := 66) rfl rfl (by omega) (by decide) (fun c85 => ?_) (fun c85 => ?_)
          · refine h_run 1 (pc' := 67) (l' := [(0, .inr (.inr 1826)), (1, .inl t), (2, .inl h), (3, .inl (k3 : Int))]) (st' := [.inr (.inr 1826)]) rfl ?_
            have g86 : -2147483648 ≤ (H.1 1826 40) ∧ (H.1 1826 40) ≤ 2147483647 := hrg0.1 1826 13 40 _ .int rfl rfl
            by_cases b87 : (H.1 1826 40) = 40
            · refine h_cv (i := 344) (j := 168) (b := 1826) (M' := mt_168) (xs := []) (rest := []) rfl rfl rfl rfl rfl rfl (Nat.le_of_ble_eq_true rfl) (Nat.le_of_ble_eq_true rfl) (by omega) (m_countB (by omega) (by omega : (H.1 1826 35) = 0) (by omega : (H.1 1826 40) = 40)) ?_
              rintro _ _ ⟨rfl, rfl⟩
              refine h_run 0 (pc' := 70) (l' := [(0, .inr (.inr 1826)), (1, .inl t), (2, .inl h), (3, .inl (k3 : Int))]) (st' := []) rfl ?_
              refine h_run 4 (pc' := 75) (l' := [(0, .inr (.inr 1826)), (1, .inl t), (2, .inl h), (3, .inl (k3 : Int))]) (st' := [.inl (100 + (k3 : Int)), .inr (.inr 1826)]) rfl ?_
              refine h_cv (i := 350) (j := 169) (b := 1826) (M' := mt_169) (xs := [.inl (100 + (k3 : Int))]) (rest := []) rfl rfl rfl rfl rfl rfl (Nat.le_of_ble_eq_true rfl) (Nat.le_of_ble_eq_true rfl) (by omega) (m_put0 (by omega) (by omega : (5 : Int) ≠ 0)) ?_
              rintro _ _ ⟨rfl, rfl⟩
              refine h_run 0 (pc' := 78) (l' := [(0, .inr (.inr 1826)), (1, .inl t), (2, .inl h), (3, .inl (k3 : Int))]) (st' := []) rfl ?_
              refine h_run 1 (pc' := 79) (l' := [(0, .inr (.inr 1826)), (1, .inl t), (2, .inl h), (3, .inl (k3 : Int))]) (st' := [.inr (.inr 1826)]) rfl ?_
              refine h_cv (i := 293) (j := 158) (b := 1826) (M' := mt_158) (xs := []) (rest := []) rfl rfl rfl rfl rfl rfl (Nat.le_of_ble_eq_true rfl) (Nat.le_of_ble_eq_true rfl) (by omega) (m_good0 (by omega) (by omega : (5 : Int) ≠ 0)) ?_
              rintro _ _ ⟨rfl, rfl⟩
              refine h_run 0 (pc' := 82) (l' := [(0, .inr (.inr 1826)), (1, .inl t), (2, .inl h), (3, .inl (k3 : Int))]) (st' := [.inl 0]) rfl ?_
              refine h_zeq (off := 16) (t := 98) rfl rfl (by decide) (fun _ => ?_) (fun c => absurd c (by decide))
              refine h_run 3 (pc' := 103) (l' := [(0, .inr (.inr 1826)), (1, .inl t), (2, .inl h), (3, .inl (k3 : Int))]) (st' := [.inl (k3 : Int), .inr (.inr 1835)]) rfl ?_
              refine h_ild (c := 1835) (j := k3) (i := (k3 : Int)) rfl rfl (by decide) rfl (by omega) ?_
              have g88 : -2147483648 ≤ (H.1 1835 k3) ∧ (H.1 1835 k3) ≤ 2147483647 := hrg0.2 1835 k3 16 .int rfl (by omega)
              refine h_run 0 (pc' := 104) (l' := [(0, .inr (.inr 1826)), (1, .inl t), (2, .inl h), (3, .inl (k3 : Int))]) (st' := [.inl (H.1 1835 k3)]) rfl ?_
              refine h_reti (x := (H.1 1835 k3)) rfl rfl ?_
              have g89 : -2147483648 ≤ (H.1 1826 30) ∧ (H.1 1826 30) ≤ 2147483647 := hrg0.1 1826 13 30 _ .int rfl rfl
              have g90 : -2147483648 ≤ (H.1 1826 32) ∧ (H.1 1826 32) ≤ 2147483647 := hrg0.1 1826 13 32 _ .int rfl rfl
              have g91 : -2147483648 ≤ (H.1 1826 29) ∧ (H.1 1826 29) ≤ 2147483647 := hrg0.1 1826 13 29 _ .int rfl rfl
              have g92 : -2147483648 ≤ (H.1 1826 31) ∧ (H.1 1826 31) ≤ 2147483647 := hrg0.1 1826 13 31 _ .int rfl rfl
              have g93 : -2147483648 ≤ (H.1 1826 1) ∧ (H.1 1826 1) ≤ 2147483647 := hrg0.1 1826 13 1 _ .int rfl rfl
              have g94 : -2147483648 ≤ (H.1 1826 39) ∧ (H.1 1826 39) ≤ 2147483647 := hrg0.1 1826 13 39 _ .int rfl rfl
              have g95 : -2147483648 ≤ (H.1 1826 44) ∧ (H.1 1826 44) ≤ 2147483647 := hrg0.1 1826 13 44 _ .int rfl rfl
              exact ⟨⟨(H.1 1835 k3), rfl, by omega, by omega, (Or.inr ⟨(by omega : (5 : Int) ≠ 0), (BD_mk hR (fr_o (fr_o (fr_o (fr_rf [35, 36, 40] [] H) (by decide)) (by decide)) (by decide)) (by decide) (by decide) (by decide : (5 : Int) ≠ 0) rfl rfl (rch_st hq (by show stTerm Y (me e t) (H.1 1826 41) (1 - h) (SK e H ++ K) X = _; unfold stTerm stApp stVar miss; rw [show ffd Y X = ((k3 : Nat) : Int) by omega, Int.toNat_natCast]; (repeat (first | rw [if_pos (by omega)] | rw [if_neg (by omega)])); try (first | rfl | (exfalso; omega)))))⟩)⟩, (fr_o (fr_o (fr_o (fr_rf _ _ _) (by decide)) (by decide)) (by decide)), (by omega : (H.1 1826 30) ≤ (H.1 1826 30) ∧ (H.1 1826 30) ≤ (H.1 1826 29)), (by omega : 0 ≤ (5 : Int) ∧ (5 : Int) ≤ 5), (by omega : 0 ≤ (H.1 1826 32) ∧ (H.1 1826 32) ≤ 1000), (by omega : (5 : Int) = 0 → (H.1 1826 31) = 0 ∨ (H.1 1826 30) < (H.1 1826 30)), (by omega : ((H.1 1826 44) ≠ 2 → (H.1 1826 39) = (H.1 1826 39)) ∧ (H.1 1826 39) ≤ (H.1 1826 39)), (fun (q : (5 : Int) = 0) => absurd q (by omega))⟩
            · refine h_cv (i := 344) (j := 168) (b := 1826) (M' := mt_168) (xs := []) (rest := []) rfl rfl rfl rfl rfl rfl (Nat.le_of_ble_eq_true rfl) (Nat.le_of_ble_eq_true rfl) (by omega) (m_countA (by omega) (by omega : (H.1 1826 35) = 0) (by omega : 0 ≤ (H.1 1826 40) ∧ (H.1 1826 40) ≤ 1000) (by omega : (H.1 1826 40) ≠ 40)) ?_
              rintro _ _ ⟨rfl, rfl⟩
              refine h_run 0 (pc' := 70) (l' := [(0, .inr (.inr 1826)), (1, .inl t), (2, .inl h), (3, .inl (k3 : Int))]) (st' := []) rfl ?_
              refine h_run 4 (pc' := 75) (l' := [(0, .inr (.inr 1826)), (1, .inl t), (2, .inl h), (3, .inl (k3 : Int))]) (st' := [.inl (100 + (k3 : Int)), .inr (.inr 1826)]) rfl ?_
              have g96 : -2147483648 ≤ (H.1 1826 43) ∧ (H.1 1826 43) ≤ 2147483647 := hrg0.1 1826 13 43 _ .int rfl rfl
              refine h_cv (i := 350) (j := 169) (b := 1826) (M' := mt_169) (xs := [.inl (100 + (k3 : Int))]) (rest := []) rfl rfl rfl rfl rfl rfl (Nat.le_of_ble_eq_true rfl) (Nat.le_of_ble_eq_true rfl) (by omega) (m_put1 (by omega) (by omega : (H.1 1826 35) = 0) (by omega : 0 ≤ (H.1 1826 43) ∧ (H.1 1826 43) ≤ 47) (by omega)) ?_
              rintro _ _ ⟨rfl, rfl⟩
              refine h_run 0 (pc' := 78) (l' := [(0, .inr (.inr 1826)), (1, .inl t), (2, .inl h), (3, .inl (k3 : Int))]) (st' := []) rfl ?_
              refine h_run 1 (pc' := 79) (l' := [(0, .inr (.inr 1826)), (1, .inl t), (2, .inl h), (3, .inl (k3 : Int))]) (st' := [.inr (.inr 1826)]) rfl ?_
              refine h_cv (i := 293) (j := 158) (b := 1826) (M' := mt_158) (xs := []) (rest := []) rfl rfl rfl rfl rfl rfl (Nat.le_of_ble_eq_true rfl) (Nat.le_of_ble_eq_true rfl) (by omega) (m_good1 (by omega) (by omega : (H.1 1826 35) = 0)) ?_
              rintro _ _ ⟨rfl, rfl⟩
              refine h_run 0 (pc' := 82) (l' := [(0, .inr (.inr 1826)), (1, .inl t), (2, .inl h), (3, .inl (k3 : Int))]) (st' := [.inl 1]) rfl ?_
              refine h_zeq (off := 16) (t := 98) rfl rfl (by decide) (fun c => absurd c (by decide)) (fun _ => ?_)
              refine h_run 5 (pc' := 91) (l' := [(0, .inr (.inr 1826)), (1, .inl t), (2, .inl h), (3, .inl (k3 : Int))]) (st' := [.inl (-1), .inl (100 + (k3 : Int)), .inr (.inr 1826)]) rfl ?_
              have g97 : -2147483648 ≤ (H.1 1826 47) ∧ (H.1 1826 47) ≤ 2147483647 := hrg0.1 1826 13 47 _ .int rfl rfl
              refine h_cv (i := 364) (j := 181) (b := 1826) (M' := mt_181) (xs := [.inl (-1), .inl (100 + (k3 : Int))]) (rest := []) rfl rfl rfl rfl rfl rfl (Nat.le_of_ble_eq_true rfl) (Nat.le_of_ble_eq_true rfl) (by omega) (m_enter (by omega) (by omega : 0 ≤ (H.1 1826 47) ∧ (H.1 1826 47) ≤ 63) (by omega) (by omega)) ?_
              rintro _ _ ⟨rfl, rfl⟩
              refine h_run 0 (pc' := 94) (l' := [(0, .inr (.inr 1826)), (1, .inl t), (2, .inl h), (3, .inl (k3 : Int))]) (st' := []) rfl ?_
              have hq9 : rch Y c0 ((3, (100 + (k3 : Int)), 0, (H.1 1826 41)) :: (SK e H ++ K), xput X (100 + (k3 : Int))) := (rch_st hq (by show stTerm Y (me e t) (H.1 1826 41) (1 - h) (SK e H ++ K) X = _; unfold stTerm stApp stVar miss; rw [show ffd Y X = ((k3 : Nat) : Int) by omega, Int.toNat_natCast]; (repeat (first | rw [if_pos (by omega)] | rw [if_neg (by omega)])); try (first | rfl | (exfalso; omega))))
              refine h_run 1 (pc' := 95) (l' := [(0, .inr (.inr 1826)), (1, .inl t), (2, .inl h), (3, .inl (k3 : Int))]) (st' := [.inr (.inr 1826)]) rfl ?_
              have g98 : -2147483648 ≤ (H.1 1826 30) ∧ (H.1 1826 30) ≤ 2147483647 := hrg0.1 1826 13 30 _ .int rfl rfl
              have g99 : -2147483648 ≤ (H.1 1826 29) ∧ (H.1 1826 29) ≤ 2147483647 := hrg0.1 1826 13 29 _ .int rfl rfl
              have g100 : -2147483648 ≤ (H.1 1826 32) ∧ (H.1 1826 32) ≤ 2147483647 := hrg0.1 1826 13 32 _ .int rfl rfl
              refine h_cv (i := 297) (j := 165) (b := 1826) (M' := mt_165) (xs := []) (rest := []) rfl rfl rfl rfl rfl rfl (Nat.le_of_ble_eq_true rfl) (Nat.le_of_ble_eq_true rfl) (by omega) (n_nx (by omega) (by omega : 0 ≤ (H.1 1826 30) ∧ (H.1 1826 30) ≤ (H.1 1826 29) ∧ (H.1 1826 29) ≤ 1000) (by omega : 0 ≤ (H.1 1826 35) ∧ (H.1 1826 35) ≤ 5) (by omega : 0 ≤ (H.1 1826 32) ∧ (H.1 1826 32) ≤ 1000) (by omega : (H.1 1826 35) = 0) (X := (xput X (100 + (k3 : Int)))) (RN_mk hR (fr_o (fr_a (fr_a (fr_a (fr_o (fr_a (fr_o (fr_rf [40, 43, 47] [1851, 1852, 1853, 1854] H) (by decide)) (by decide)) (by decide)) (by decide)) (by decide)) (by decide)) (by decide)) (by decide) (by decide) (xpt_s _ _).1 (TA_sT (TA_fr hR.2.2.2.2 (fr_o (fr_a (fr_a (fr_a (fr_o (fr_a (fr_o (fr_rf [40, 43, 47] [1851, 1852, 1853, 1854] H) (by decide)) (by decide)) (by decide)) (by decide)) (by decide)) (by decide)) (by decide)) (by decide) (by decide)) (sT_put X _))) hq9 (lk_c (SK_lk hK) (by decide : (3 : Nat) ≠ 0) (fun q => absurd q (by decide : (3 : Nat) ≠ 1)))) ?_
              rintro _ H101 ⟨rfl, hx101n, hx101f, hx101a, hx101b, hx101c, -, hx101e, hx101g⟩
              refine h_rng (fun hrg102 => ?_)
              have hf103 : fr [30, 31, 32, 33, 35, 36, 39, 40, 41, 43, 47] [1849, 1850, 1851, 1852, 1853, 1854] H H101 := fr_t (fr_o (fr_a (fr_a (fr_a (fr_o (fr_a (fr_o (fr_rf _ _ _) (by decide)) (by decide)) (by decide)) (by decide)) (by decide)) (by decide)) (by decide)) hx101f (by decide) (by decide)
              replace hx101a : (H.1 1826 30) ≤ (H101.1 1826 30) := hx101a
              replace hx101b : (H101.1 1826 30) ≤ (H.1 1826 29) := hx101b
              replace hx101g : (H101.1 1826 35) = 0 → ((H101.1 1826 31) = 0 ∨ (H.1 1826 30) < (H101.1 1826 30)) := hx101g
              refine h_run 0 (pc' := 98) (l' := [(0, .inr (.inr 1826)), (1, .inl t), (2, .inl h), (3, .inl (k3 : Int))]) (st' := []) rfl ?_
              refine h_run 3 (pc' := 103) (l' := [(0, .inr (.inr 1826)), (1, .inl t), (2, .inl h), (3, .inl (k3 : Int))]) (st' := [.inl (k3 : Int), .inr (.inr 1835)]) rfl ?_
              refine h_ild (c := 1835) (j := k3) (i := (k3 : Int)) rfl rfl (by decide) rfl (by omega) ?_
              have g104 : -2147483648 ≤ (H101.1 1835 k3) ∧ (H101.1 1835 k3) ≤ 2147483647 := hrg102.2 1835 k3 16 .int rfl (by omega)
              have e105 : (H101.1 1835 k3) = (H.1 1835 k3) := congrFun (hx101f.2.1 1835 (by decide) (by decide)) k3
              refine h_run 0 (pc' := 104) (l' := [(0, .inr (.inr 1826)), (1, .inl t), (2, .inl h), (3, .inl (k3 : Int))]) (st' := [.inl (H101.1 1835 k3)]) rfl ?_
              refine h_reti (x := (H101.1 1835 k3)) rfl rfl ?_
              have g106 : -2147483648 ≤ (H101.1 1826 30) ∧ (H101.1 1826 30) ≤ 2147483647 := hrg102.1 1826 13 30 _ .int rfl rfl
              have g107 : -2147483648 ≤ (H101.1 1826 35) ∧ (H101.1 1826 35) ≤ 2147483647 := hrg102.1 1826 13 35 _ .int rfl rfl
              have g108 : -2147483648 ≤ (H101.1 1826 32) ∧ (H101.1 1826 32) ≤ 2147483647 := hrg102.1 1826 13 32 _ .int rfl rfl
              have g109 : -2147483648 ≤ (H101.1 1826 29) ∧ (H101.1 1826 29) ≤ 2147483647 := hrg102.1 1826 13 29 _ .int rfl rfl
              have e110 : (H101.1 1826 29) = (H.1 1826 29) := hx101f.2.2 29 (by decide)
              have g111 : -2147483648 ≤ (H101.1 1826 31) ∧ (H101.1 1826 31) ≤ 2147483647 := hrg102.1 1826 13 31 _ .int rfl rfl
              have g112 : -2147483648 ≤ (H101.1 1826 1) ∧ (H101.1 1826 1) ≤ 2147483647 := hrg102.1 1826 13 1 _ .int rfl rfl
              have e113 : (H101.1 1826 1) = (H.1 1826 1) := hx101f.2.2 1 (by decide)
              have g114 : -2147483648 ≤ (H101.1 1826 39) ∧ (H101.1 1826 39) ≤ 2147483647 := hrg102.1 1826 13 39 _ .int rfl rfl
              have e115 : (H101.1 1826 39) = (H.1 1826 39) := hx101f.2.2 39 (by decide)
              have g116 : -2147483648 ≤ (H101.1 1826 44) ∧ (H101.1 1826 44) ≤ 2147483647 := hrg102.1 1826 13 44 _ .int rfl rfl
              have e117 : (H101.1 1826 44) = (H.1 1826 44) := hx101f.2.2 44 (by decide)
              exact ⟨⟨(H101.1 1835 k3), rfl, by omega, by omega, (GB_i hx101n (fun q => ⟨_, (by rw [SK_name (H := H) (s := (100 + (k3 : Int))) (t := -1) (by omega) (by omega) (hx101f.2.2 47 (by decide)) (hx101f.2.1 1852 (by decide) (by decide)) (hx101f.2.1 1853 (by decide) (by decide)) (hx101f.2.1 1854 (by decide) (by decide)), hto, ← ta3]; exact hq9), ⟨q, VR_put hU.2.1 (hx101f.2.2 40 (by decide)) (hx101f.2.2 44 (by decide)) (hx101f.2.2 39 (by decide)) (hx101f.2.1 1849 (by decide) (by decide)) (hx101f.2.1 1850 (by decide) (by decide)), B0_name (s := (100 + (k3 : Int))) (t := -1) hU.2.2.1 (by have q8 : (H101.1 1826 40) = ((H.1 1826 40) + 1) := (hx101f.2.2 40 (by decide)); omega) (hx101f.2.2 44 (by decide)) (by omega) (by omega) (hx101f.2.2 47 (by decide)) (hx101f.2.1 1852 (by decide) (by decide)) (hx101f.2.1 1854 (by decide) (by decide)), RD_put hU.2.2.2 (by omega) rfl rfl (hx101f.2.2 43 (by decide)) (hx101f.2.1 1851 (by decide) (by decide))⟩, FH_app (by omega) (by omega) (by omega) (by rw [if_pos (by omega), show ((100 + (k3 : Int)) - 100).toNat = k3 by omega]; omega)⟩))⟩, hf103, (by omega : (H.1 1826 30) ≤ (H101.1 1826 30) ∧ (H101.1 1826 30) ≤ (H.1 1826 29)), (by omega : 0 ≤ (H101.1 1826 35) ∧ (H101.1 1826 35) ≤ 5), (by omega : 0 ≤ (H101.1 1826 32) ∧ (H101.1 1826 32) ≤ 1000), (by omega : (H101.1 1826 35) = 0 → (H101.1 1826 31) = 0 ∨ (H.1 1826 30) < (H101.1 1826 30)), (by omega : ((H.1 1826 44) ≠ 2 → (H101.1 1826 39) = (H.1 1826 39)) ∧ (H.1 1826 39) ≤ (H101.1 1826 39)), fun _ => TT_sign (s := (100 + (k3 : Int))) (q := ((H.1 1833) k3).toNat) hP hTT ⟨⟨(hx101f.2.2 1 (by decide)), (hx101f.2.2 3 (by decide)), (hx101f.2.2 8 (by decide)), (hx101f.2.2 44 (by decide))⟩, (hx101f.2.1 1833 (by decide) (by decide)), (hx101f.2.1 1830 (by decide) (by decide))⟩ (Or.inr (Or.inr (Or.inl ⟨by omega, by omega⟩))) (by rw [ma_f (by omega), show ((100 + (k3 : Int)) - 100).toNat = k3 by omega]; have := (pw2 k3 (by omega)).1; omega) (by have := (pw2 k3 (by omega)).1; omega) (by omega) ⟨(hx101f.2.2 40 (by decide)), (hx101f.2.2 43 (by decide)), (hx101f.2.2 41 (by decide))⟩ (hx101f.2.1 1851 (by decide) (by decide)) (Or.inl ⟨(hx101f.2.2 39 (by decide)), (hx101f.2.1 1850 (by decide) (by decide))⟩) (Or.inr ⟨(Or.inr ⟨by omega, by omega⟩), (hx101f.2.2 47 (by decide)), (hx101f.2.1 1852 (by decide) (by decide)), (hx101f.2.1 1853 (by decide) (by decide)), -1, (hx101f.2.1 1854 (by decide) (by decide))⟩)⟩
          · refine h_run 3 (pc' := 56) (l' := [(0, .inr (.inr 1826)), (1, .inl t), (2, .inl h), (3, .inl (k3 : Int))]) (st' := [.inl (k3 : Int), .inr (.inr 1835)]) rfl ?_
            refine h_ild (c := 1835) (j := k3) (i := (k3 : Int)) rfl rfl (by decide) rfl (by omega) ?_
            have g118 : -2147483648 ≤ (H.1 1835 k3) ∧ (H.1 1835 k3) ≤ 2147483647 := hrg0.2 1835 k3 16 .int rfl (by omega)
            refine h_run 0 (pc' := 57) (l' := [(0, .inr (.inr 1826)), (1, .inl t), (2, .inl h), (3, .inl (k3 : Int))]) (st' := [.inl (H.1 1835 k3)]) rfl ?_
            refine h_run 1 (pc' := 58) (l' := [(0, .inr (.inr 1826)), (1, .inl t), (2, .inl h), (3, .inl (k3 : Int))]) (st' := [.inl t, .inl (H.1 1835 k3)]) rfl ?_
            refine h_ieq (off := 8) (t := 66) rfl rfl (by omega) (by omega) (fun c119 => ?_) (fun c119 => ?_)
            · refine h_run 1 (pc' := 67) (l' := [(0, .inr (.inr 1826)), (1, .inl t), (2, .inl h), (3, .inl (k3 : Int))]) (st' := [.inr (.inr 1826)]) rfl ?_
              have g120 : -2147483648 ≤ (H.1 1826 40) ∧ (H.1 1826 40) ≤ 2147483647 := hrg0.1 1826 13 40 _ .int rfl rfl
              by_cases b121 : (H.1 1826 40) = 40
              · refine h_cv (i := 344) (j := 168) (b := 1826) (M' := mt_168) (xs := []) (rest := []) rfl rfl rfl rfl rfl rfl (Nat.le_of_ble_eq_true rfl) (Nat.le_of_ble_eq_true rfl) (by omega) (m_countB (by omega) (by omega : (H.1 1826 35) = 0) (by omega : (H.1 1826 40) = 40)) ?_
                rintro _ _ ⟨rfl, rfl⟩
                refine h_run 0 (pc' := 70) (l' := [(0, .inr (.inr 1826)), (1, .inl t), (2, .inl h), (3, .inl (k3 : Int))]) (st' := []) rfl ?_
                refine h_run 4 (pc' := 75) (l' := [(0, .inr (.inr 1826)), (1, .inl t), (2, .inl h), (3, .inl (k3 : Int))]) (st' := [.inl (100 + (k3 : Int)), .inr (.inr 1826)]) rfl ?_
                refine h_cv (i := 350) (j := 169) (b := 1826) (M' := mt_169) (xs := [.inl (100 + (k3 : Int))]) (rest := []) rfl rfl rfl rfl rfl rfl (Nat.le_of_ble_eq_true rfl) (Nat.le_of_ble_eq_true rfl) (by omega) (m_put0 (by omega) (by omega : (5 : Int) ≠ 0)) ?_
                rintro _ _ ⟨rfl, rfl⟩
                refine h_run 0 (pc' := 78) (l' := [(0, .inr (.inr 1826)), (1, .inl t), (2, .inl h), (3, .inl (k3 : Int))]) (st' := []) rfl ?_
                refine h_run 1 (pc' := 79) (l' := [(0, .inr (.inr 1826)), (1, .inl t), (2, .inl h), (3, .inl (k3 : Int))]) (st' := [.inr (.inr 1826)]) rfl ?_
                refine h_cv (i := 293) (j := 158) (b := 1826) (M' := mt_158) (xs := []) (rest := []) rfl rfl rfl rfl rfl rfl (Nat.le_of_ble_eq_true rfl) (Nat.le_of_ble_eq_true rfl) (by omega) (m_good0 (by omega) (by omega : (5 : Int) ≠ 0)) ?_
                rintro _ _ ⟨rfl, rfl⟩
                refine h_run 0 (pc' := 82) (l' := [(0, .inr (.inr 1826)), (1, .inl t), (2, .inl h), (3, .inl (k3 : Int))]) (st' := [.inl 0]) rfl ?_
                refine h_zeq (off := 16) (t := 98) rfl rfl (by decide) (fun _ => ?_) (fun c => absurd c (by decide))
                refine h_run 3 (pc' := 103) (l' := [(0, .inr (.inr 1826)), (1, .inl t), (2, .inl h), (3, .inl (k3 : Int))]) (st' := [.inl (k3 : Int), .inr (.inr 1835)]) rfl ?_
                refine h_ild (c := 1835) (j := k3) (i := (k3 : Int)) rfl rfl (by decide) rfl (by omega) ?_
                refine h_run 0 (pc' := 104) (l' := [(0, .inr (.inr 1826)), (1, .inl t), (2, .inl h), (3, .inl (k3 : Int))]) (st' := [.inl (H.1 1835 k3)]) rfl ?_
                refine h_reti (x := (H.1 1835 k3)) rfl rfl ?_
                have g122 : -2147483648 ≤ (H.1 1826 30) ∧ (H.1 1826 30) ≤ 2147483647 := hrg0.1 1826 13 30 _ .int rfl rfl
                have g123 : -2147483648 ≤ (H.1 1826 32) ∧ (H.1 1826 32) ≤ 2147483647 := hrg0.1 1826 13 32 _ .int rfl rfl
                have g124 : -2147483648 ≤ (H.1 1826 29) ∧ (H.1 1826 29) ≤ 2147483647 := hrg0.1 1826 13 29 _ .int rfl rfl
                have g125 : -2147483648 ≤ (H.1 1826 31) ∧ (H.1 1826 31) ≤ 2147483647 := hrg0.1 1826 13 31 _ .int rfl rfl
                have g126 : -2147483648 ≤ (H.1 1826 1) ∧ (H.1 1826 1) ≤ 2147483647 := hrg0.1 1826 13 1 _ .int rfl rfl
                have g127 : -2147483648 ≤ (H.1 1826 39) ∧ (H.1 1826 39) ≤ 2147483647 := hrg0.1 1826 13 39 _ .int rfl rfl
                have g128 : -2147483648 ≤ (H.1 1826 44) ∧ (H.1 1826 44) ≤ 2147483647 := hrg0.1 1826 13 44 _ .int rfl rfl
                exact ⟨⟨(H.1 1835 k3), rfl, by omega, by omega, (Or.inr ⟨(by omega : (5 : Int) ≠ 0), (BD_mk hR (fr_o (fr_o (fr_o (fr_rf [35, 36, 40] [] H) (by decide)) (by decide)) (by decide)) (by decide) (by decide) (by decide : (5 : Int) ≠ 0) rfl rfl (rch_st hq (by show stTerm Y (me e t) (H.1 1826 41) (1 - h) (SK e H ++ K) X = _; unfold stTerm stApp stVar miss; rw [show ffd Y X = ((k3 : Nat) : Int) by omega, Int.toNat_natCast]; (repeat (first | rw [if_pos (by omega)] | rw [if_neg (by omega)])); try (first | rfl | (exfalso; omega)))))⟩)⟩, (fr_o (fr_o (fr_o (fr_rf _ _ _) (by decide)) (by decide)) (by decide)), (by omega : (H.1 1826 30) ≤ (H.1 1826 30) ∧ (H.1 1826 30) ≤ (H.1 1826 29)), (by omega : 0 ≤ (5 : Int) ∧ (5 : Int) ≤ 5), (by omega : 0 ≤ (H.1 1826 32) ∧ (H.1 1826 32) ≤ 1000), (by omega : (5 : Int) = 0 → (H.1 1826 31) = 0 ∨ (H.1 1826 30) < (H.1 1826 30)), (by omega : ((H.1 1826 44) ≠ 2 → (H.1 1826 39) = (H.1 1826 39)) ∧ (H.1 1826 39) ≤ (H.1 1826 39)), (fun (q : (5 : Int) = 0) => absurd q (by omega))⟩
              · refine h_cv (i := 344) (j := 168) (b := 1826) (M' := mt_168) (xs := []) (rest := []) rfl rfl rfl rfl rfl rfl (Nat.le_of_ble_eq_true rfl) (Nat.le_of_ble_eq_true rfl) (by omega) (m_countA (by omega) (by omega : (H.1 1826 35) = 0) (by omega : 0 ≤ (H.1 1826 40) ∧ (H.1 1826 40) ≤ 1000) (by omega : (H.1 1826 40) ≠ 40)) ?_
                rintro _ _ ⟨rfl, rfl⟩
                refine h_run 0 (pc' := 70) (l' := [(0, .inr (.inr 1826)), (1, .inl t), (2, .inl h), (3, .inl (k3 : Int))]) (st' := []) rfl ?_
                refine h_run 4 (pc' := 75) (l' := [(0, .inr (.inr 1826)), (1, .inl t), (2, .inl h), (3, .inl (k3 : Int))]) (st' := [.inl (100 + (k3 : Int)), .inr (.inr 1826)]) rfl ?_
                have g129 : -2147483648 ≤ (H.1 1826 43) ∧ (H.1 1826 43) ≤ 2147483647 := hrg0.1 1826 13 43 _ .int rfl rfl
                refine h_cv (i := 350) (j := 169) (b := 1826) (M' := mt_169) (xs := [.inl (100 + (k3 : Int))]) (rest := []) rfl rfl rfl rfl rfl rfl (Nat.le_of_ble_eq_true rfl) (Nat.le_of_ble_eq_true rfl) (by omega) (m_put1 (by omega) (by omega : (H.1 1826 35) = 0) (by omega : 0 ≤ (H.1 1826 43) ∧ (H.1 1826 43) ≤ 47) (by omega)) ?_
                rintro _ _ ⟨rfl, rfl⟩
                refine h_run 0 (pc' := 78) (l' := [(0, .inr (.inr 1826)), (1, .inl t), (2, .inl h), (3, .inl (k3 : Int))]) (st' := []) rfl ?_
                refine h_run 1 (pc' := 79) (l' := [(0, .inr (.inr 1826)), (1, .inl t), (2, .inl h), (3, .inl (k3 : Int))]) (st' := [.inr (.inr 1826)]) rfl ?_
                refine h_cv (i := 293) (j := 158) (b := 1826) (M' := mt_158) (xs := []) (rest := []) rfl rfl rfl rfl rfl rfl (Nat.le_of_ble_eq_true rfl) (Nat.le_of_ble_eq_true rfl) (by omega) (m_good1 (by omega) (by omega : (H.1 1826 35) = 0)) ?_
                rintro _ _ ⟨rfl, rfl⟩
                refine h_run 0 (pc' := 82) (l' := [(0, .inr (.inr 1826)), (1, .inl t), (2, .inl h), (3, .inl (k3 : Int))]) (st' := [.inl 1]) rfl ?_
                refine h_zeq (off := 16) (t := 98) rfl rfl (by decide) (fun c => absurd c (by decide)) (fun _ => ?_)
                refine h_run 5 (pc' := 91) (l' := [(0, .inr (.inr 1826)), (1, .inl t), (2, .inl h), (3, .inl (k3 : Int))]) (st' := [.inl (-1), .inl (100 + (k3 : Int)), .inr (.inr 1826)]) rfl ?_
                have g130 : -2147483648 ≤ (H.1 1826 47) ∧ (H.1 1826 47) ≤ 2147483647 := hrg0.1 1826 13 47 _ .int rfl rfl
                refine h_cv (i := 364) (j := 181) (b := 1826) (M' := mt_181) (xs := [.inl (-1), .inl (100 + (k3 : Int))]) (rest := []) rfl rfl rfl rfl rfl rfl (Nat.le_of_ble_eq_true rfl) (Nat.le_of_ble_eq_true rfl) (by omega) (m_enter (by omega) (by omega : 0 ≤ (H.1 1826 47) ∧ (H.1 1826 47) ≤ 63) (by omega) (by omega)) ?_
                rintro _ _ ⟨rfl, rfl⟩
                refine h_run 0 (pc' := 94) (l' := [(0, .inr (.inr 1826)), (1, .inl t), (2, .inl h), (3, .inl (k3 : Int))]) (st' := []) rfl ?_
                have hq9 : rch Y c0 ((3, (100 + (k3 : Int)), 0, (H.1 1826 41)) :: (SK e H ++ K), xput X (100 + (k3 : Int))) := (rch_st hq (by show stTerm Y (me e t) (H.1 1826 41) (1 - h) (SK e H ++ K) X = _; unfold stTerm stApp stVar miss; rw [show ffd Y X = ((k3 : Nat) : Int) by omega, Int.toNat_natCast]; (repeat (first | rw [if_pos (by omega)] | rw [if_neg (by omega)])); try (first | rfl | (exfalso; omega))))
                refine h_run 1 (pc' := 95) (l' := [(0, .inr (.inr 1826)), (1, .inl t), (2, .inl h), (3, .inl (k3 : Int))]) (st' := [.inr (.inr 1826)]) rfl ?_
                have g131 : -2147483648 ≤ (H.1 1826 30) ∧ (H.1 1826 30) ≤ 2147483647 := hrg0.1 1826 13 30 _ .int rfl rfl
                have g132 : -2147483648 ≤ (H.1 1826 29) ∧ (H.1 1826 29) ≤ 2147483647 := hrg0.1 1826 13 29 _ .int rfl rfl
                have g133 : -2147483648 ≤ (H.1 1826 32) ∧ (H.1 1826 32) ≤ 2147483647 := hrg0.1 1826 13 32 _ .int rfl rfl
                refine h_cv (i := 297) (j := 165) (b := 1826) (M' := mt_165) (xs := []) (rest := []) rfl rfl rfl rfl rfl rfl (Nat.le_of_ble_eq_true rfl) (Nat.le_of_ble_eq_true rfl) (by omega) (n_nx (by omega) (by omega : 0 ≤ (H.1 1826 30) ∧ (H.1 1826 30) ≤ (H.1 1826 29) ∧ (H.1 1826 29) ≤ 1000) (by omega : 0 ≤ (H.1 1826 35) ∧ (H.1 1826 35) ≤ 5) (by omega : 0 ≤ (H.1 1826 32) ∧ (H.1 1826 32) ≤ 1000) (by omega : (H.1 1826 35) = 0) (X := (xput X (100 + (k3 : Int)))) (RN_mk hR (fr_o (fr_a (fr_a (fr_a (fr_o (fr_a (fr_o (fr_rf [40, 43, 47] [1851, 1852, 1853, 1854] H) (by decide)) (by decide)) (by decide)) (by decide)) (by decide)) (by decide)) (by decide)) (by decide) (by decide) (xpt_s _ _).1 (TA_sT (TA_fr hR.2.2.2.2 (fr_o (fr_a (fr_a (fr_a (fr_o (fr_a (fr_o (fr_rf [40, 43, 47] [1851, 1852, 1853, 1854] H) (by decide)) (by decide)) (by decide)) (by decide)) (by decide)) (by decide)) (by decide)) (by decide) (by decide)) (sT_put X _))) hq9 (lk_c (SK_lk hK) (by decide : (3 : Nat) ≠ 0) (fun q => absurd q (by decide : (3 : Nat) ≠ 1)))) ?_
                rintro _ H134 ⟨rfl, hx134n, hx134f, hx134a, hx134b, hx134c, -, hx134e, hx134g⟩
                refine h_rng (fun hrg135 => ?_)
                have hf136 : fr [30, 31, 32, 33, 35, 36, 39, 40, 41, 43, 47] [1849, 1850, 1851, 1852, 1853, 1854] H H134 := fr_t (fr_o (fr_a (fr_a (fr_a (fr_o (fr_a (fr_o (fr_rf _ _ _) (by decide)) (by decide)) (by decide)) (by decide)) (by decide)) (by decide)) (by decide)) hx134f (by decide) (by decide)
                replace hx134a : (H.1 1826 30) ≤ (H134.1 1826 30) := hx134a
                replace hx134b : (H134.1 1826 30) ≤ (H.1 1826 29) := hx134b
                replace hx134g : (H134.1 1826 35) = 0 → ((H134.1 1826 31) = 0 ∨ (H.1 1826 30) < (H134.1 1826 30)) := hx134g
                refine h_run 0 (pc' := 98) (l' := [(0, .inr (.inr 1826)), (1, .inl t), (2, .inl h), (3, .inl (k3 : Int))]) (st' := []) rfl ?_
                refine h_run 3 (pc' := 103) (l' := [(0, .inr (.inr 1826)), (1, .inl t), (2, .inl h), (3, .inl (k3 : Int))]) (st' := [.inl (k3 : Int), .inr (.inr 1835)]) rfl ?_
                refine h_ild (c := 1835) (j := k3) (i := (k3 : Int)) rfl rfl (by decide) rfl (by omega) ?_
                have g137 : -2147483648 ≤ (H134.1 1835 k3) ∧ (H134.1 1835 k3) ≤ 2147483647 := hrg135.2 1835 k3 16 .int rfl (by omega)
                have e138 : (H134.1 1835 k3) = (H.1 1835 k3) := congrFun (hx134f.2.1 1835 (by decide) (by decide)) k3
                refine h_run 0 (pc' := 104) (l' := [(0, .inr (.inr 1826)), (1, .inl t), (2, .inl h), (3, .inl (k3 : Int))]) (st' := [.inl (H134.1 1835 k3)]) rfl ?_
                refine h_reti (x := (H134.1 1835 k3)) rfl rfl ?_
                have g139 : -2147483648 ≤ (H134.1 1826 30) ∧ (H134.1 1826 30) ≤ 2147483647 := hrg135.1 1826 13 30 _ .int rfl rfl
                have g140 : -2147483648 ≤ (H134.1 1826 35) ∧ (H134.1 1826 35) ≤ 2147483647 := hrg135.1 1826 13 35 _ .int rfl rfl
                have g141 : -2147483648 ≤ (H134.1 1826 32) ∧ (H134.1 1826 32) ≤ 2147483647 := hrg135.1 1826 13 32 _ .int rfl rfl
                have g142 : -2147483648 ≤ (H134.1 1826 29) ∧ (H134.1 1826 29) ≤ 2147483647 := hrg135.1 1826 13 29 _ .int rfl rfl
                have e143 : (H134.1 1826 29) = (H.1 1826 29) := hx134f.2.2 29 (by decide)
                have g144 : -2147483648 ≤ (H134.1 1826 31) ∧ (H134.1 1826 31) ≤ 2147483647 := hrg135.1 1826 13 31 _ .int rfl rfl
                have g145 : -2147483648 ≤ (H134.1 1826 1) ∧ (H134.1 1826 1) ≤ 2147483647 := hrg135.1 1826 13 1 _ .int rfl rfl
                have e146 : (H134.1 1826 1) = (H.1 1826 1) := hx134f.2.2 1 (by decide)
                have g147 : -2147483648 ≤ (H134.1 1826 39) ∧ (H134.1 1826 39) ≤ 2147483647 := hrg135.1 1826 13 39 _ .int rfl rfl
                have e148 : (H134.1 1826 39) = (H.1 1826 39) := hx134f.2.2 39 (by decide)
                have g149 : -2147483648 ≤ (H134.1 1826 44) ∧ (H134.1 1826 44) ≤ 2147483647 := hrg135.1 1826 13 44 _ .int rfl rfl
                have e150 : (H134.1 1826 44) = (H.1 1826 44) := hx134f.2.2 44 (by decide)
                exact ⟨⟨(H134.1 1835 k3), rfl, by omega, by omega, (GB_i hx134n (fun q => ⟨_, (by rw [SK_name (H := H) (s := (100 + (k3 : Int))) (t := -1) (by omega) (by omega) (hx134f.2.2 47 (by decide)) (hx134f.2.1 1852 (by decide) (by decide)) (hx134f.2.1 1853 (by decide) (by decide)) (hx134f.2.1 1854 (by decide) (by decide)), hto, ← ta3]; exact hq9), ⟨q, VR_put hU.2.1 (hx134f.2.2 40 (by decide)) (hx134f.2.2 44 (by decide)) (hx134f.2.2 39 (by decide)) (hx134f.2.1 1849 (by decide) (by decide)) (hx134f.2.1 1850 (by decide) (by decide)), B0_name (s := (100 + (k3 : Int))) (t := -1) hU.2.2.1 (by have q8 : (H134.1 1826 40) = ((H.1 1826 40) + 1) := (hx134f.2.2 40 (by decide)); omega) (hx134f.2.2 44 (by decide)) (by omega) (by omega) (hx134f.2.2 47 (by decide)) (hx134f.2.1 1852 (by decide) (by decide)) (hx134f.2.1 1854 (by decide) (by decide)), RD_put hU.2.2.2 (by omega) rfl rfl (hx134f.2.2 43 (by decide)) (hx134f.2.1 1851 (by decide) (by decide))⟩, FH_app (by omega) (by omega) (by omega) (by rw [if_pos (by omega), show ((100 + (k3 : Int)) - 100).toNat = k3 by omega]; omega)⟩))⟩, hf136, (by omega : (H.1 1826 30) ≤ (H134.1 1826 30) ∧ (H134.1 1826 30) ≤ (H.1 1826 29)), (by omega : 0 ≤ (H134.1 1826 35) ∧ (H134.1 1826 35) ≤ 5), (by omega : 0 ≤ (H134.1 1826 32) ∧ (H134.1 1826 32) ≤ 1000), (by omega : (H134.1 1826 35) = 0 → (H134.1 1826 31) = 0 ∨ (H.1 1826 30) < (H134.1 1826 30)), (by omega : ((H.1 1826 44) ≠ 2 → (H134.1 1826 39) = (H.1 1826 39)) ∧ (H.1 1826 39) ≤ (H134.1 1826 39)), fun _ => TT_sign (s := (100 + (k3 : Int))) (q := ((H.1 1833) k3).toNat) hP hTT ⟨⟨(hx134f.2.2 1 (by decide)), (hx134f.2.2 3 (by decide)), (hx134f.2.2 8 (by decide)), (hx134f.2.2 44 (by decide))⟩, (hx134f.2.1 1833 (by decide) (by decide)), (hx134f.2.1 1830 (by decide) (by decide))⟩ (Or.inr (Or.inr (Or.inl ⟨by omega, by omega⟩))) (by rw [ma_f (by omega), show ((100 + (k3 : Int)) - 100).toNat = k3 by omega]; have := (pw2 k3 (by omega)).1; omega) (by have := (pw2 k3 (by omega)).1; omega) (by omega) ⟨(hx134f.2.2 40 (by decide)), (hx134f.2.2 43 (by decide)), (hx134f.2.2 41 (by decide))⟩ (hx134f.2.1 1851 (by decide) (by decide)) (Or.inl ⟨(hx134f.2.2 39 (by decide)), (hx134f.2.1 1850 (by decide) (by decide))⟩) (Or.inr ⟨(Or.inr ⟨by omega, by omega⟩), (hx134f.2.2 47 (by decide)), (hx134f.2.1 1852 (by decide) (by decide)), (hx134f.2.1 1853 (by decide) (by decide)), -1, (hx134f.2.1 1854 (by decide) (by decide))⟩)⟩
            · refine h_run 2 (pc' := 63) (l' := [(0, .inr (.inr 1826)), (1, .inl t), (2, .inl h), (3, .inl (k3 : Int))]) (st' := [.inl 4, .inr (.inr 1826)]) rfl ?_
              refine h_cv (i := 278) (j := 159) (b := 1826) (M' := mt_159) (xs := [.inl 4]) (rest := []) rfl rfl rfl rfl rfl rfl (Nat.le_of_ble_eq_true rfl) (Nat.le_of_ble_eq_true rfl) (by omega) (m_bad0 (by omega) (by omega) (by omega : (H.1 1826 35) = 0)) ?_
              rintro _ _ ⟨rfl, rfl⟩
              refine h_run 0 (pc' := 66) (l' := [(0, .inr (.inr 1826)), (1, .inl t), (2, .inl h), (3, .inl (k3 : Int))]) (st' := []) rfl ?_
              refine h_run 1 (pc' := 67) (l' := [(0, .inr (.inr 1826)), (1, .inl t), (2, .inl h), (3, .inl (k3 : Int))]) (st' := [.inr (.inr 1826)]) rfl ?_
              have g151 : -2147483648 ≤ (H.1 1826 40) ∧ (H.1 1826 40) ≤ 2147483647 := hrg0.1 1826 13 40 _ .int rfl rfl
              refine h_cv (i := 344) (j := 168) (b := 1826) (M' := mt_168) (xs := []) (rest := []) rfl rfl rfl rfl rfl rfl (Nat.le_of_ble_eq_true rfl) (Nat.le_of_ble_eq_true rfl) (by omega) (m_countC (by omega) (by omega : (4 : Int) ≠ 0) (by omega : 0 ≤ (H.1 1826 40) ∧ (H.1 1826 40) ≤ 1000)) ?_
              rintro _ _ ⟨rfl, rfl⟩
              refine h_run 0 (pc' := 70) (l' := [(0, .inr (.inr 1826)), (1, .inl t), (2, .inl h), (3, .inl (k3 : Int))]) (st' := []) rfl ?_
              refine h_run 4 (pc' := 75) (l' := [(0, .inr (.inr 1826)), (1, .inl t), (2, .inl h), (3, .inl (k3 : Int))]) (st' := [.inl (100 + (k3 : Int)), .inr (.inr 1826)]) rfl ?_
              refine h_cv (i := 350) (j := 169) (b := 1826) (M' := mt_169) (xs := [.inl (100 + (k3 : Int))]) (rest := []) rfl rfl rfl rfl rfl rfl (Nat.le_of_ble_eq_true rfl) (Nat.le_of_ble_eq_true rfl) (by omega) (m_put0 (by omega) (by omega : (4 : Int) ≠ 0)) ?_
              rintro _ _ ⟨rfl, rfl⟩
              refine h_run 0 (pc' := 78) (l' := [(0, .inr (.inr 1826)), (1, .inl t), (2, .inl h), (3, .inl (k3 : Int))]) (st' := []) rfl ?_
              refine h_run 1 (pc' := 79) (l' := [(0, .inr (.inr 1826)), (1, .inl t), (2, .inl h), (3, .inl (k3 : Int))]) (st' := [.inr (.inr 1826)]) rfl ?_
              refine h_cv (i := 293) (j := 158) (b := 1826) (M' := mt_158) (xs := []) (rest := []) rfl rfl rfl rfl rfl rfl (Nat.le_of_ble_eq_true rfl) (Nat.le_of_ble_eq_true rfl) (by omega) (m_good0 (by omega) (by omega : (4 : Int) ≠ 0)) ?_
              rintro _ _ ⟨rfl, rfl⟩
              refine h_run 0 (pc' := 82) (l' := [(0, .inr (.inr 1826)), (1, .inl t), (2, .inl h), (3, .inl (k3 : Int))]) (st' := [.inl 0]) rfl ?_
              refine h_zeq (off := 16) (t := 98) rfl rfl (by decide) (fun _ => ?_) (fun c => absurd c (by decide))
              refine h_run 3 (pc' := 103) (l' := [(0, .inr (.inr 1826)), (1, .inl t), (2, .inl h), (3, .inl (k3 : Int))]) (st' := [.inl (k3 : Int), .inr (.inr 1835)]) rfl ?_
              refine h_ild (c := 1835) (j := k3) (i := (k3 : Int)) rfl rfl (by decide) rfl (by omega) ?_
              refine h_run 0 (pc' := 104) (l' := [(0, .inr (.inr 1826)), (1, .inl t), (2, .inl h), (3, .inl (k3 : Int))]) (st' := [.inl (H.1 1835 k3)]) rfl ?_
              refine h_reti (x := (H.1 1835 k3)) rfl rfl ?_
              have g152 : -2147483648 ≤ (H.1 1826 30) ∧ (H.1 1826 30) ≤ 2147483647 := hrg0.1 1826 13 30 _ .int rfl rfl
              have g153 : -2147483648 ≤ (H.1 1826 32) ∧ (H.1 1826 32) ≤ 2147483647 := hrg0.1 1826 13 32 _ .int rfl rfl
              have g154 : -2147483648 ≤ (H.1 1826 29) ∧ (H.1 1826 29) ≤ 2147483647 := hrg0.1 1826 13 29 _ .int rfl rfl
              have g155 : -2147483648 ≤ (H.1 1826 31) ∧ (H.1 1826 31) ≤ 2147483647 := hrg0.1 1826 13 31 _ .int rfl rfl
              have g156 : -2147483648 ≤ (H.1 1826 1) ∧ (H.1 1826 1) ≤ 2147483647 := hrg0.1 1826 13 1 _ .int rfl rfl
              have g157 : -2147483648 ≤ (H.1 1826 39) ∧ (H.1 1826 39) ≤ 2147483647 := hrg0.1 1826 13 39 _ .int rfl rfl
              have g158 : -2147483648 ≤ (H.1 1826 44) ∧ (H.1 1826 44) ≤ 2147483647 := hrg0.1 1826 13 44 _ .int rfl rfl
              exact ⟨⟨(H.1 1835 k3), rfl, by omega, by omega, (Or.inr ⟨(by omega : (4 : Int) ≠ 0), (BD_mk hR (fr_o (fr_o (fr_o (fr_rf [35, 36, 40] [] H) (by decide)) (by decide)) (by decide)) (by decide) (by decide) (by decide : (4 : Int) ≠ 0) rfl rfl (rch_st hq (by show stTerm Y (me e t) (H.1 1826 41) (1 - h) (SK e H ++ K) X = _; unfold stTerm stApp stVar miss; rw [show ffd Y X = ((k3 : Nat) : Int) by omega, Int.toNat_natCast]; (repeat (first | rw [if_pos (by omega)] | rw [if_neg (by omega)])); try (first | rfl | (exfalso; omega)))))⟩)⟩, (fr_o (fr_o (fr_o (fr_rf _ _ _) (by decide)) (by decide)) (by decide)), (by omega : (H.1 1826 30) ≤ (H.1 1826 30) ∧ (H.1 1826 30) ≤ (H.1 1826 29)), (by omega : 0 ≤ (4 : Int) ∧ (4 : Int) ≤ 5), (by omega : 0 ≤ (H.1 1826 32) ∧ (H.1 1826 32) ≤ 1000), (by omega : (4 : Int) = 0 → (H.1 1826 31) = 0 ∨ (H.1 1826 30) < (H.1 1826 30)), (by omega : ((H.1 1826 44) ≠ 2 → (H.1 1826 39) = (H.1 1826 39)) ∧ (H.1 1826 39) ≤ (H.1 1826 39)), (fun (q : (4 : Int) = 0) => absurd q (by omega))⟩
        · refine h_run 2 (pc' := 36) (l' := [(0, .inr (.inr 1826)), (1, .inl t), (2, .inl h), (3, .inl (k3 : Int))]) (st' := [.inl 2, .inr (.inr 1826)]) rfl ?_
          have g159 : -2147483648 ≤ (H.1 1826 35) ∧ (H.1 1826 35) ≤ 2147483647 := hrg0.1 1826 13 35 _ .int rfl rfl
          refine h_cv (i := 278) (j := 159) (b := 1826) (M' := mt_159) (xs := [.inl 2]) (rest := []) rfl rfl rfl rfl rfl rfl (Nat.le_of_ble_eq_true rfl) (Nat.le_of_ble_eq_true rfl) (by omega) (m_bad0 (by omega) (by omega) (by omega : (H.1 1826 35) = 0)) ?_
          rintro _ _ ⟨rfl, rfl⟩
          refine h_run 0 (pc' := 39) (l' := [(0, .inr (.inr 1826)), (1, .inl t), (2, .inl h), (3, .inl (k3 : Int))]) (st' := []) rfl ?_
          refine h_run 1 (pc' := 40) (l' := [(0, .inr (.inr 1826)), (1, .inl t), (2, .inl h), (3, .inl (k3 : Int))]) (st' := [.inr (.inr 1826)]) rfl ?_
          refine h_cv (i := 293) (j := 158) (b := 1826) (M' := mt_158) (xs := []) (rest := []) rfl rfl rfl rfl rfl rfl (Nat.le_of_ble_eq_true rfl) (Nat.le_of_ble_eq_true rfl) (by omega) (m_good0 (by omega) (by omega : (2 : Int) ≠ 0)) ?_
          rintro _ _ ⟨rfl, rfl⟩
          refine h_run 0 (pc' := 43) (l' := [(0, .inr (.inr 1826)), (1, .inl t), (2, .inl h), (3, .inl (k3 : Int))]) (st' := [.inl 0]) rfl ?_
          refine h_zeq (off := 23) (t := 66) rfl rfl (by decide) (fun _ => ?_) (fun c => absurd c (by decide))
          refine h_run 1 (pc' := 67) (l' := [(0, .inr (.inr 1826)), (1, .inl t), (2, .inl h), (3, .inl (k3 : Int))]) (st' := [.inr (.inr 1826)]) rfl ?_
          have g160 : -2147483648 ≤ (H.1 1826 40) ∧ (H.1 1826 40) ≤ 2147483647 := hrg0.1 1826 13 40 _ .int rfl rfl
          refine h_cv (i := 344) (j := 168) (b := 1826) (M' := mt_168) (xs := []) (rest := []) rfl rfl rfl rfl rfl rfl (Nat.le_of_ble_eq_true rfl) (Nat.le_of_ble_eq_true rfl) (by omega) (m_countC (by omega) (by omega : (2 : Int) ≠ 0) (by omega : 0 ≤ (H.1 1826 40) ∧ (H.1 1826 40) ≤ 1000)) ?_
          rintro _ _ ⟨rfl, rfl⟩
          refine h_run 0 (pc' := 70) (l' := [(0, .inr (.inr 1826)), (1, .inl t), (2, .inl h), (3, .inl (k3 : Int))]) (st' := []) rfl ?_
          refine h_run 4 (pc' := 75) (l' := [(0, .inr (.inr 1826)), (1, .inl t), (2, .inl h), (3, .inl (k3 : Int))]) (st' := [.inl (100 + (k3 : Int)), .inr (.inr 1826)]) rfl ?_
          refine h_cv (i := 350) (j := 169) (b := 1826) (M' := mt_169) (xs := [.inl (100 + (k3 : Int))]) (rest := []) rfl rfl rfl rfl rfl rfl (Nat.le_of_ble_eq_true rfl) (Nat.le_of_ble_eq_true rfl) (by omega) (m_put0 (by omega) (by omega : (2 : Int) ≠ 0)) ?_
          rintro _ _ ⟨rfl, rfl⟩
          refine h_run 0 (pc' := 78) (l' := [(0, .inr (.inr 1826)), (1, .inl t), (2, .inl h), (3, .inl (k3 : Int))]) (st' := []) rfl ?_
          refine h_run 1 (pc' := 79) (l' := [(0, .inr (.inr 1826)), (1, .inl t), (2, .inl h), (3, .inl (k3 : Int))]) (st' := [.inr (.inr 1826)]) rfl ?_
          refine h_cv (i := 293) (j := 158) (b := 1826) (M' := mt_158) (xs := []) (rest := []) rfl rfl rfl rfl rfl rfl (Nat.le_of_ble_eq_true rfl) (Nat.le_of_ble_eq_true rfl) (by omega) (m_good0 (by omega) (by omega : (2 : Int) ≠ 0)) ?_
          rintro _ _ ⟨rfl, rfl⟩
          refine h_run 0 (pc' := 82) (l' := [(0, .inr (.inr 1826)), (1, .inl t), (2, .inl h), (3, .inl (k3 : Int))]) (st' := [.inl 0]) rfl ?_
          refine h_zeq (off := 16) (t := 98) rfl rfl (by decide) (fun _ => ?_) (fun c => absurd c (by decide))
          refine h_run 3 (pc' := 103) (l' := [(0, .inr (.inr 1826)), (1, .inl t), (2, .inl h), (3, .inl (k3 : Int))]) (st' := [.inl (k3 : Int), .inr (.inr 1835)]) rfl ?_
          refine h_ild (c := 1835) (j := k3) (i := (k3 : Int)) rfl rfl (by decide) rfl (by omega) ?_
          have g161 : -2147483648 ≤ (H.1 1835 k3) ∧ (H.1 1835 k3) ≤ 2147483647 := hrg0.2 1835 k3 16 .int rfl (by omega)
          refine h_run 0 (pc' := 104) (l' := [(0, .inr (.inr 1826)), (1, .inl t), (2, .inl h), (3, .inl (k3 : Int))]) (st' := [.inl (H.1 1835 k3)]) rfl ?_
          refine h_reti (x := (H.1 1835 k3)) rfl rfl ?_
          have g162 : -2147483648 ≤ (H.1 1826 30) ∧ (H.1 1826 30) ≤ 2147483647 := hrg0.1 1826 13 30 _ .int rfl rfl
          have g163 : -2147483648 ≤ (H.1 1826 32) ∧ (H.1 1826 32) ≤ 2147483647 := hrg0.1 1826 13 32 _ .int rfl rfl
          have g164 : -2147483648 ≤ (H.1 1826 29) ∧ (H.1 1826 29) ≤ 2147483647 := hrg0.1 1826 13 29 _ .int rfl rfl
          have g165 : -2147483648 ≤ (H.1 1826 31) ∧ (H.1 1826 31) ≤ 2147483647 := hrg0.1 1826 13 31 _ .int rfl rfl
          have g166 : -2147483648 ≤ (H.1 1826 1) ∧ (H.1 1826 1) ≤ 2147483647 := hrg0.1 1826 13 1 _ .int rfl rfl
          have g167 : -2147483648 ≤ (H.1 1826 39) ∧ (H.1 1826 39) ≤ 2147483647 := hrg0.1 1826 13 39 _ .int rfl rfl
          have g168 : -2147483648 ≤ (H.1 1826 44) ∧ (H.1 1826 44) ≤ 2147483647 := hrg0.1 1826 13 44 _ .int rfl rfl
          exact ⟨⟨(H.1 1835 k3), rfl, by omega, by omega, (Or.inr ⟨(by omega : (2 : Int) ≠ 0), (BD_mk hR (fr_o (fr_o (fr_o (fr_rf [35, 36, 40] [] H) (by decide)) (by decide)) (by decide)) (by decide) (by decide) (by decide : (2 : Int) ≠ 0) rfl rfl (rch_st hq (by show stTerm Y (me e t) (H.1 1826 41) (1 - h) (SK e H ++ K) X = _; unfold stTerm stApp stVar miss; rw [show ffd Y X = ((k3 : Nat) : Int) by omega, Int.toNat_natCast]; (repeat (first | rw [if_pos (by omega)] | rw [if_neg (by omega)])); try (first | rfl | (exfalso; omega)))))⟩)⟩, (fr_o (fr_o (fr_o (fr_rf _ _ _) (by decide)) (by decide)) (by decide)), (by omega : (H.1 1826 30) ≤ (H.1 1826 30) ∧ (H.1 1826 30) ≤ (H.1 1826 29)), (by omega : 0 ≤ (2 : Int) ∧ (2 : Int) ≤ 5), (by omega : 0 ≤ (H.1 1826 32) ∧ (H.1 1826 32) ≤ 1000), (by omega : (2 : Int) = 0 → (H.1 1826 31) = 0 ∨ (H.1 1826 30) < (H.1 1826 30)), (by omega : ((H.1 1826 44) ≠ 2 → (H.1 1826 39) = (H.1 1826 39)) ∧ (H.1 1826 39) ≤ (H.1 1826 39)), (fun (q : (2 : Int) = 0) => absurd q (by omega))⟩
  · refine h_run 0 (pc' := 15) (l' := [(0, .inr (.inr 1826)), (1, .inl t), (2, .inl h)]) (st' := [.inl (-1)]) rfl ?_
    refine h_run 3 (pc' := 18) (l' := [(0, .inr (.inr 1826)), (1, .inl t), (2, .inl h), (3, .inl (-1))]) (st' := [.inl (-1), .inl (-1)]) rfl ?_
    refine h_ieq (off := 87) (t := 105) rfl rfl (by decide) (by decide) (fun _ => ?_) (fun c => absurd c (by decide))
    obtain ⟨hvf1, hvf2⟩ := RU_vf hU (Or.inl (by omega))
    have hvr := hU.2.1.2
    refine h_run 4 (pc' := 113) (l' := [(0, .inr (.inr 1826)), (1, .inl t), (2, .inl h), (3, .inl (-1))]) (st' := [.inl (H.1 1826 39), .inr (.inr 1849)]) rfl ?_
    have g169 : -2147483648 ≤ (H.1 1826 39) ∧ (H.1 1826 39) ≤ 2147483647 := hrg0.1 1826 13 39 _ .int rfl rfl
    refine h_run 2 (pc' := 117) (l' := [(0, .inr (.inr 1826)), (1, .inl t), (2, .inl h), (3, .inl (-1))]) (st' := [.inr (.inl (H.1 1826 33)), .inl (H.1 1826 39), .inr (.inr 1849)]) rfl ?_
    refine h_cs (i := 309) (j := 167) (M' := mt_167) (xs := [.inr (.inl (H.1 1826 33)), .inl (H.1 1826 39), .inr (.inr 1849)]) (rest := []) rfl rfl rfl rfl rfl (Nat.le_of_ble_eq_true rfl) (Nat.le_of_ble_eq_true rfl) (by omega) (n_find (by omega) (m := 48) (z := fnd (H.1 1849) (H.1 1826 39) (H.1 1826 33)) rfl (by omega : 0 ≤ (H.1 1826 39) ∧ (H.1 1826 39) ≤ ((48 : Nat) : Int) ∧ 48 ≤ 100) (by omega) rfl) ?_
    rintro _ _ ⟨⟨k170, rfl, f171, f171x⟩ | ⟨rfl, f171⟩, rfl⟩
    · refine h_run 0 (pc' := 120) (l' := [(0, .inr (.inr 1826)), (1, .inl t), (2, .inl h), (3, .inl (-1))]) (st' := [.inl (k170 : Int)]) rfl ?_
      refine h_run 3 (pc' := 126) (l' := [(0, .inr (.inr 1826)), (1, .inl t), (2, .inl h), (3, .inl (-1)), (4, .inl (k170 : Int))]) (st' := [.inl (H.1 1826 44)]) rfl ?_
      have g172 : -2147483648 ≤ (H.1 1826 44) ∧ (H.1 1826 44) ≤ 2147483647 := hrg0.1 1826 13 44 _ .int rfl rfl
      refine h_run 1 (pc' := 127) (l' := [(0, .inr (.inr 1826)), (1, .inl t), (2, .inl h), (3, .inl (-1)), (4, .inl (k170 : Int))]) (st' := [.inl 3, .inl (H.1 1826 44)]) rfl ?_
      refine h_ieq (off := 17) (t := 144) rfl rfl (by omega) (by decide) (fun c173 => ?_) (fun c173 => ?_)
      · replace hvr : hid _ := hvr
        refine h_run 2 (pc' := 146) (l' := [(0, .inr (.inr 1826)), (1, .inl t), (2, .inl h), (3, .inl (-1)), (4, .inl (k170 : Int))]) (st' := [.inl 3, .inr (.inr 1826)]) rfl ?_
        have g174 : -2147483648 ≤ (H.1 1826 35) ∧ (H.1 1826 35) ≤ 2147483647 := hrg0.1 1826 13 35 _ .int rfl rfl
        refine h_cv (i := 278) (j := 159) (b := 1826) (M' := mt_159) (xs := [.inl 3]) (rest := []) rfl rfl rfl rfl rfl rfl (Nat.le_of_ble_eq_true rfl) (Nat.le_of_ble_eq_true rfl) (by omega) (m_bad0 (by omega) (by omega) (by omega : (H.1 1826 35) = 0)) ?_
        rintro _ _ ⟨rfl, rfl⟩
        refine h_run 0 (pc' := 149) (l' := [(0, .inr (.inr 1826)), (1, .inl t), (2, .inl h), (3, .inl (-1)), (4, .inl (k170 : Int))]) (st' := []) rfl ?_
        refine h_run 1 (pc' := 150) (l' := [(0, .inr (.inr 1826)), (1, .inl t), (2, .inl h), (3, .inl (-1)), (4, .inl (k170 : Int))]) (st' := [.inl (-1)]) rfl ?_
        refine h_reti (x := (-1)) rfl rfl ?_
        have g175 : -2147483648 ≤ (H.1 1826 30) ∧ (H.1 1826 30) ≤ 2147483647 := hrg0.1 1826 13 30 _ .int rfl rfl
        have g176 : -2147483648 ≤ (H.1 1826 32) ∧ (H.1 1826 32) ≤ 2147483647 := hrg0.1 1826 13 32 _ .int rfl rfl
        have g177 : -2147483648 ≤ (H.1 1826 29) ∧ (H.1 1826 29) ≤ 2147483647 := hrg0.1 1826 13 29 _ .int rfl rfl
        have g178 : -2147483648 ≤ (H.1 1826 31) ∧ (H.1 1826 31) ≤ 2147483647 := hrg0.1 1826 13 31 _ .int rfl rfl
        have g179 : -2147483648 ≤ (H.1 1826 1) ∧ (H.1 1826 1) ≤ 2147483647 := hrg0.1 1826 13 1 _ .int rfl rfl
        exact ⟨⟨(-1), rfl, by omega, by omega, (Or.inr ⟨(by omega : (3 : Int) ≠ 0), (BD_mk hR (fr_o (fr_o (fr_rf [35, 36] [] H) (by decide)) (by decide)) (by decide) (by decide) (by decide : (3 : Int) ≠ 0) rfl rfl (rch_st hq (by show stTerm Y (me e t) (H.1 1826 41) (1 - h) (SK e H ++ K) X = _; unfold stTerm stApp stVar miss; (repeat (first | rw [if_pos (by omega)] | rw [if_neg (by omega)])); try (first | rfl | (exfalso; omega)))))⟩)⟩, (fr_o (fr_o (fr_rf _ _ _) (by decide)) (by decide)), (by omega : (H.1 1826 30) ≤ (H.1 1826 30) ∧ (H.1 1826 30) ≤ (H.1 1826 29)), (by omega : 0 ≤ (3 : Int) ∧ (3 : Int) ≤ 5), (by omega : 0 ≤ (H.1 1826 32) ∧ (H.1 1826 32) ≤ 1000), (by omega : (3 : Int) = 0 → (H.1 1826 31) = 0 ∨ (H.1 1826 30) < (H.1 1826 30)), (by omega : ((H.1 1826 44) ≠ 2 → (H.1 1826 39) = (H.1 1826 39)) ∧ (H.1 1826 39) ≤ (H.1 1826 39)), (fun (q : (3 : Int) = 0) => absurd q (by omega))⟩
      · refine h_run 2 (pc' := 134) (l' := [(0, .inr (.inr 1826)), (1, .inl t), (2, .inl h), (3, .inl (-1)), (4, .inl (k170 : Int))]) (st' := [.inl (H.1 1826 44)]) rfl ?_
        refine h_run 1 (pc' := 135) (l' := [(0, .inr (.inr 1826)), (1, .inl t), (2, .inl h), (3, .inl (-1)), (4, .inl (k170 : Int))]) (st' := [.inl 1, .inl (H.1 1826 44)]) rfl ?_
        refine h_ine (off := 16) (t := 151) rfl rfl (by omega) (by decide) (fun c180 => ?_) (fun c180 => ?_)
        · obtain ⟨⟨hv1, hv2⟩, hv3⟩ := hvr (by omega)
          have hvf3 := hvf1 (by omega)
          clear hvf1 hvf2 hvr
          refine h_run 1 (pc' := 152) (l' := [(0, .inr (.inr 1826)), (1, .inl t), (2, .inl h), (3, .inl (-1)), (4, .inl (k170 : Int))]) (st' := [.inr (.inr 1826)]) rfl ?_
          have g181 : -2147483648 ≤ (H.1 1826 35) ∧ (H.1 1826 35) ≤ 2147483647 := hrg0.1 1826 13 35 _ .int rfl rfl
          refine h_cv (i := 293) (j := 158) (b := 1826) (M' := mt_158) (xs := []) (rest := []) rfl rfl rfl rfl rfl rfl (Nat.le_of_ble_eq_true rfl) (Nat.le_of_ble_eq_true rfl) (by omega) (m_good1 (by omega) (by omega : (H.1 1826 35) = 0)) ?_
          rintro _ _ ⟨rfl, rfl⟩
          refine h_run 0 (pc' := 155) (l' := [(0, .inr (.inr 1826)), (1, .inl t), (2, .inl h), (3, .inl (-1)), (4, .inl (k170 : Int))]) (st' := [.inl 1]) rfl ?_
          refine h_zeq (off := 13) (t := 168) rfl rfl (by decide) (fun c => absurd c (by decide)) (fun _ => ?_)
          refine h_run 2 (pc' := 160) (l' := [(0, .inr (.inr 1826)), (1, .inl t), (2, .inl h), (3, .inl (-1)), (4, .inl (k170 : Int))]) (st' := [.inl (-1), .inl t]) rfl ?_
          refine h_ine (off := 8) (t := 168) rfl rfl (by omega) (by decide) (fun c182 => ?_) (fun c182 => ?_)
          · refine h_run 1 (pc' := 169) (l' := [(0, .inr (.inr 1826)), (1, .inl t), (2, .inl h), (3, .inl (-1)), (4, .inl (k170 : Int))]) (st' := [.inr (.inr 1826)]) rfl ?_
            refine h_cv (i := 293) (j := 158) (b := 1826) (M' := mt_158) (xs := []) (rest := []) rfl rfl rfl rfl rfl rfl (Nat.le_of_ble_eq_true rfl) (Nat.le_of_ble_eq_true rfl) (by omega) (m_good1 (by omega) (by omega : (H.1 1826 35) = 0)) ?_
            rintro _ _ ⟨rfl, rfl⟩
            refine h_run 0 (pc' := 172) (l' := [(0, .inr (.inr 1826)), (1, .inl t), (2, .inl h), (3, .inl (-1)), (4, .inl (k170 : Int))]) (st' := [.inl 1]) rfl ?_
            refine h_zeq (off := 25) (t := 197) rfl rfl (by decide) (fun c => absurd c (by decide)) (fun _ => ?_)
            refine h_run 2 (pc' := 178) (l' := [(0, .inr (.inr 1826)), (1, .inl t), (2, .inl h), (3, .inl (-1)), (4, .inl (k170 : Int))]) (st' := [.inl (-1), .inl (k170 : Int)]) rfl ?_
            refine h_ieq (off := 19) (t := 197) rfl rfl (by omega) (by decide) (fun c183 => ?_) (fun c183 => ?_)
            · exfalso
              omega
            · refine h_run 2 (pc' := 185) (l' := [(0, .inr (.inr 1826)), (1, .inl t), (2, .inl h), (3, .inl (-1)), (4, .inl (k170 : Int))]) (st' := [.inr (.inr 1850)]) rfl ?_
              have hv4 := (hv3 k170 (by omega)).2
              refine h_run 1 (pc' := 187) (l' := [(0, .inr (.inr 1826)), (1, .inl t), (2, .inl h), (3, .inl (-1)), (4, .inl (k170 : Int))]) (st' := [.inl (k170 : Int), .inr (.inr 1850)]) rfl ?_
              refine h_ild (c := 1850) (j := k170) (i := (k170 : Int)) rfl rfl (by decide) rfl (by omega) ?_
              have g184 : -2147483648 ≤ (H.1 1850 k170) ∧ (H.1 1850 k170) ≤ 2147483647 := hrg0.2 1850 k170 48 .int rfl (by omega)
              refine h_run 0 (pc' := 188) (l' := [(0, .inr (.inr 1826)), (1, .inl t), (2, .inl h), (3, .inl (-1)), (4, .inl (k170 : Int))]) (st' := [.inl (H.1 1850 k170)]) rfl ?_
              refine h_run 1 (pc' := 189) (l' := [(0, .inr (.inr 1826)), (1, .inl t), (2, .inl h), (3, .inl (-1)), (4, .inl (k170 : Int))]) (st' := [.inl t, .inl (H.1 1850 k170)]) rfl ?_
              refine h_ieq (off := 8) (t := 197) rfl rfl (by omega) (by omega) (fun c185 => ?_) (fun c185 => ?_)
              · refine h_run 1 (pc' := 198) (l' := [(0, .inr (.inr 1826)), (1, .inl t), (2, .inl h), (3, .inl (-1)), (4, .inl (k170 : Int))]) (st' := [.inr (.inr 1826)]) rfl ?_
                refine h_cv (i := 293) (j := 158) (b := 1826) (M' := mt_158) (xs := []) (rest := []) rfl rfl rfl rfl rfl rfl (Nat.le_of_ble_eq_true rfl) (Nat.le_of_ble_eq_true rfl) (by omega) (m_good1 (by omega) (by omega : (H.1 1826 35) = 0)) ?_
                rintro _ _ ⟨rfl, rfl⟩
                refine h_run 0 (pc' := 201) (l' := [(0, .inr (.inr 1826)), (1, .inl t), (2, .inl h), (3, .inl (-1)), (4, .inl (k170 : Int))]) (st' := [.inl 1]) rfl ?_
                refine h_zeq (off := 23) (t := 224) rfl rfl (by decide) (fun c => absurd c (by decide)) (fun _ => ?_)
                refine h_run 2 (pc' := 207) (l' := [(0, .inr (.inr 1826)), (1, .inl t), (2, .inl h), (3, .inl (-1)), (4, .inl (k170 : Int))]) (st' := [.inl (-1), .inl (k170 : Int)]) rfl ?_
                refine h_ine (off := 17) (t := 224) rfl rfl (by omega) (by decide) (fun c186 => ?_) (fun c186 => ?_)
                · refine h_run 1 (pc' := 225) (l' := [(0, .inr (.inr 1826)), (1, .inl t), (2, .inl h), (3, .inl (-1)), (4, .inl (k170 : Int))]) (st' := [.inr (.inr 1826)]) rfl ?_
                  have g187 : -2147483648 ≤ (H.1 1826 40) ∧ (H.1 1826 40) ≤ 2147483647 := hrg0.1 1826 13 40 _ .int rfl rfl
                  by_cases b188 : (H.1 1826 40) = 40
                  · refine h_cv (i := 344) (j := 168) (b := 1826) (M' := mt_168) (xs := []) (rest := []) rfl rfl rfl rfl rfl rfl (Nat.le_of_ble_eq_true rfl) (Nat.le_of_ble_eq_true rfl) (by omega) (m_countB (by omega) (by omega : (H.1 1826 35) = 0) (by omega : (H.1 1826 40) = 40)) ?_
                    rintro _ _ ⟨rfl, rfl⟩
                    refine h_run 0 (pc' := 228) (l' := [(0, .inr (.inr 1826)), (1, .inl t), (2, .inl h), (3, .inl (-1)), (4, .inl (k170 : Int))]) (st' := []) rfl ?_
                    refine h_run 1 (pc' := 229) (l' := [(0, .inr (.inr 1826)), (1, .inl t), (2, .inl h), (3, .inl (-1)), (4, .inl (k170 : Int))]) (st' := [.inr (.inr 1826)]) rfl ?_
                    refine h_cv (i := 293) (j := 158) (b := 1826) (M' := mt_158) (xs := []) (rest := []) rfl rfl rfl rfl rfl rfl (Nat.le_of_ble_eq_true rfl) (Nat.le_of_ble_eq_true rfl) (by omega) (m_good0 (by omega) (by omega : (5 : Int) ≠ 0)) ?_
                    rintro _ _ ⟨rfl, rfl⟩
                    refine h_run 0 (pc' := 232) (l' := [(0, .inr (.inr 1826)), (1, .inl t), (2, .inl h), (3, .inl (-1)), (4, .inl (k170 : Int))]) (st' := [.inl 0]) rfl ?_
                    refine h_zne (off := 5) (t := 237) rfl rfl (by decide) (fun c => absurd c (by decide)) (fun _ => ?_)
                    refine h_run 1 (pc' := 236) (l' := [(0, .inr (.inr 1826)), (1, .inl t), (2, .inl h), (3, .inl (-1)), (4, .inl (k170 : Int))]) (st' := [.inl (-1)]) rfl ?_
                    refine h_reti (x := (-1)) rfl rfl ?_
                    have g189 : -2147483648 ≤ (H.1 1826 30) ∧ (H.1 1826 30) ≤ 2147483647 := hrg0.1 1826 13 30 _ .int rfl rfl
                    have g190 : -2147483648 ≤ (H.1 1826 32) ∧ (H.1 1826 32) ≤ 2147483647 := hrg0.1 1826 13 32 _ .int rfl rfl
                    have g191 : -2147483648 ≤ (H.1 1826 29) ∧ (H.1 1826 29) ≤ 2147483647 := hrg0.1 1826 13 29 _ .int rfl rfl
                    have g192 : -2147483648 ≤ (H.1 1826 31) ∧ (H.1 1826 31) ≤ 2147483647 := hrg0.1 1826 13 31 _ .int rfl rfl
                    have g193 : -2147483648 ≤ (H.1 1826 1) ∧ (H.1 1826 1) ≤ 2147483647 := hrg0.1 1826 13 1 _ .int rfl rfl
                    exact ⟨⟨(-1), rfl, by omega, by omega, (Or.inr ⟨(by omega : (5 : Int) ≠ 0), (BD_mk hR (fr_o (fr_o (fr_o (fr_rf [35, 36, 40] [] H) (by decide)) (by decide)) (by decide)) (by decide) (by decide) (by decide : (5 : Int) ≠ 0) rfl rfl (rch_st hq (by show stTerm Y (me e t) (H.1 1826 41) (1 - h) (SK e H ++ K) X = _; unfold stTerm stApp stVar miss; rw [show vfd Y X = ((k170 : Nat) : Int) by omega, Int.toNat_natCast]; (repeat (first | rw [if_pos (by omega)] | rw [if_neg (by omega)])); try (first | rfl | (exfalso; omega)))))⟩)⟩, (fr_o (fr_o (fr_o (fr_rf _ _ _) (by decide)) (by decide)) (by decide)), (by omega : (H.1 1826 30) ≤ (H.1 1826 30) ∧ (H.1 1826 30) ≤ (H.1 1826 29)), (by omega : 0 ≤ (5 : Int) ∧ (5 : Int) ≤ 5), (by omega : 0 ≤ (H.1 1826 32) ∧ (H.1 1826 32) ≤ 1000), (by omega : (5 : Int) = 0 → (H.1 1826 31) = 0 ∨ (H.1 1826 30) < (H.1 1826 30)), (by omega : ((H.1 1826 44) ≠ 2 → (H.1 1826 39) = (H.1 1826 39)) ∧ (H.1 1826 39) ≤ (H.1 1826 39)), (fun (q : (5 : Int) = 0) => absurd q (by omega))⟩
                  · refine h_cv (i := 344) (j := 168) (b := 1826) (M' := mt_168) (xs := []) (rest := []) rfl rfl rfl rfl rfl rfl (Nat.le_of_ble_eq_true rfl) (Nat.le_of_ble_eq_true rfl) (by omega) (m_countA (by omega) (by omega : (H.1 1826 35) = 0) (by omega : 0 ≤ (H.1 1826 40) ∧ (H.1 1826 40) ≤ 1000) (by omega : (H.1 1826 40) ≠ 40)) ?_
                    rintro _ _ ⟨rfl, rfl⟩
                    refine h_run 0 (pc' := 228) (l' := [(0, .inr (.inr 1826)), (1, .inl t), (2, .inl h), (3, .inl (-1)), (4, .inl (k170 : Int))]) (st' := []) rfl ?_
                    refine h_run 1 (pc' := 229) (l' := [(0, .inr (.inr 1826)), (1, .inl t), (2, .inl h), (3, .inl (-1)), (4, .inl (k170 : Int))]) (st' := [.inr (.inr 1826)]) rfl ?_
                    refine h_cv (i := 293) (j := 158) (b := 1826) (M' := mt_158) (xs := []) (rest := []) rfl rfl rfl rfl rfl rfl (Nat.le_of_ble_eq_true rfl) (Nat.le_of_ble_eq_true rfl) (by omega) (m_good1 (by omega) (by omega : (H.1 1826 35) = 0)) ?_
                    rintro _ _ ⟨rfl, rfl⟩
                    refine h_run 0 (pc' := 232) (l' := [(0, .inr (.inr 1826)), (1, .inl t), (2, .inl h), (3, .inl (-1)), (4, .inl (k170 : Int))]) (st' := [.inl 1]) rfl ?_
                    refine h_zne (off := 5) (t := 237) rfl rfl (by decide) (fun _ => ?_) (fun c => absurd c (by decide))
                    refine h_run 2 (pc' := 240) (l' := [(0, .inr (.inr 1826)), (1, .inl t), (2, .inl h), (3, .inl (-1)), (4, .inl (k170 : Int))]) (st' := [.inl (-1), .inl (k170 : Int)]) rfl ?_
                    refine h_ine (off := 11) (t := 251) rfl rfl (by omega) (by decide) (fun c194 => ?_) (fun c194 => ?_)
                    · refine h_run 6 (pc' := 262) (l' := [(0, .inr (.inr 1826)), (1, .inl t), (2, .inl h), (3, .inl (-1)), (4, .inl (k170 : Int))]) (st' := [.inl (1000 + (k170 : Int)), .inr (.inr 1826)]) rfl ?_
                      have g195 : -2147483648 ≤ (H.1 1826 43) ∧ (H.1 1826 43) ≤ 2147483647 := hrg0.1 1826 13 43 _ .int rfl rfl
                      refine h_cv (i := 350) (j := 169) (b := 1826) (M' := mt_169) (xs := [.inl (1000 + (k170 : Int))]) (rest := []) rfl rfl rfl rfl rfl rfl (Nat.le_of_ble_eq_true rfl) (Nat.le_of_ble_eq_true rfl) (by omega) (m_put1 (by omega) (by omega : (H.1 1826 35) = 0) (by omega : 0 ≤ (H.1 1826 43) ∧ (H.1 1826 43) ≤ 47) (by omega)) ?_
                      rintro _ _ ⟨rfl, rfl⟩
                      refine h_run 0 (pc' := 265) (l' := [(0, .inr (.inr 1826)), (1, .inl t), (2, .inl h), (3, .inl (-1)), (4, .inl (k170 : Int))]) (st' := []) rfl ?_
                      have hq9 : rch Y c0 (SK e H ++ K, xput X (1000 + (k170 : Int))) := (rch_st hq (by show stTerm Y (me e t) (H.1 1826 41) (1 - h) (SK e H ++ K) X = _; unfold stTerm stApp stVar miss; rw [show vfd Y X = ((k170 : Nat) : Int) by omega, Int.toNat_natCast]; (repeat (first | rw [if_pos (by omega)] | rw [if_neg (by omega)])); try (first | rfl | (exfalso; omega))))
                      refine h_run 1 (pc' := 266) (l' := [(0, .inr (.inr 1826)), (1, .inl t), (2, .inl h), (3, .inl (-1)), (4, .inl (k170 : Int))]) (st' := [.inr (.inr 1826)]) rfl ?_
                      have g196 : -2147483648 ≤ (H.1 1826 30) ∧ (H.1 1826 30) ≤ 2147483647 := hrg0.1 1826 13 30 _ .int rfl rfl
                      have g197 : -2147483648 ≤ (H.1 1826 29) ∧ (H.1 1826 29) ≤ 2147483647 := hrg0.1 1826 13 29 _ .int rfl rfl
                      have g198 : -2147483648 ≤ (H.1 1826 32) ∧ (H.1 1826 32) ≤ 2147483647 := hrg0.1 1826 13 32 _ .int rfl rfl
                      refine h_cv (i := 297) (j := 165) (b := 1826) (M' := mt_165) (xs := []) (rest := []) rfl rfl rfl rfl rfl rfl (Nat.le_of_ble_eq_true rfl) (Nat.le_of_ble_eq_true rfl) (by omega) (n_nx (by omega) (by omega : 0 ≤ (H.1 1826 30) ∧ (H.1 1826 30) ≤ (H.1 1826 29) ∧ (H.1 1826 29) ≤ 1000) (by omega : 0 ≤ (H.1 1826 35) ∧ (H.1 1826 35) ≤ 5) (by omega : 0 ≤ (H.1 1826 32) ∧ (H.1 1826 32) ≤ 1000) (by omega : (H.1 1826 35) = 0) (X := (xput X (1000 + (k170 : Int)))) (RN_mk hR (fr_o (fr_a (fr_o (fr_rf [40, 43] [1851] H) (by decide)) (by decide)) (by decide)) (by decide) (by decide) (xpt_s _ _).1 (TA_sT (TA_fr hR.2.2.2.2 (fr_o (fr_a (fr_o (fr_rf [40, 43] [1851] H) (by decide)) (by decide)) (by decide)) (by decide) (by decide)) (sT_put X _))) hq9 (SK_lk hK)) ?_
                      rintro _ H199 ⟨rfl, hx199n, hx199f, hx199a, hx199b, hx199c, -, hx199e, hx199g⟩
                      refine h_rng (fun hrg200 => ?_)
                      have hf201 : fr [30, 31, 32, 33, 35, 36, 39, 40, 41, 43, 47] [1849, 1850, 1851, 1852, 1853, 1854] H H199 := fr_t (fr_o (fr_a (fr_o (fr_rf _ _ _) (by decide)) (by decide)) (by decide)) hx199f (by decide) (by decide)
                      replace hx199a : (H.1 1826 30) ≤ (H199.1 1826 30) := hx199a
                      replace hx199b : (H199.1 1826 30) ≤ (H.1 1826 29) := hx199b
                      replace hx199g : (H199.1 1826 35) = 0 → ((H199.1 1826 31) = 0 ∨ (H.1 1826 30) < (H199.1 1826 30)) := hx199g
                      refine h_run 0 (pc' := 269) (l' := [(0, .inr (.inr 1826)), (1, .inl t), (2, .inl h), (3, .inl (-1)), (4, .inl (k170 : Int))]) (st' := []) rfl ?_
                      refine h_run 1 (pc' := 270) (l' := [(0, .inr (.inr 1826)), (1, .inl t), (2, .inl h), (3, .inl (-1)), (4, .inl (k170 : Int))]) (st' := [.inl t]) rfl ?_
                      refine h_reti (x := t) rfl rfl ?_
                      have g202 : -2147483648 ≤ (H199.1 1826 30) ∧ (H199.1 1826 30) ≤ 2147483647 := hrg200.1 1826 13 30 _ .int rfl rfl
                      have g203 : -2147483648 ≤ (H199.1 1826 35) ∧ (H199.1 1826 35) ≤ 2147483647 := hrg200.1 1826 13 35 _ .int rfl rfl
                      have g204 : -2147483648 ≤ (H199.1 1826 32) ∧ (H199.1 1826 32) ≤ 2147483647 := hrg200.1 1826 13 32 _ .int rfl rfl
                      have g205 : -2147483648 ≤ (H199.1 1826 29) ∧ (H199.1 1826 29) ≤ 2147483647 := hrg200.1 1826 13 29 _ .int rfl rfl
                      have e206 : (H199.1 1826 29) = (H.1 1826 29) := hx199f.2.2 29 (by decide)
                      have g207 : -2147483648 ≤ (H199.1 1826 31) ∧ (H199.1 1826 31) ≤ 2147483647 := hrg200.1 1826 13 31 _ .int rfl rfl
                      have g208 : -2147483648 ≤ (H199.1 1826 1) ∧ (H199.1 1826 1) ≤ 2147483647 := hrg200.1 1826 13 1 _ .int rfl rfl
                      have e209 : (H199.1 1826 1) = (H.1 1826 1) := hx199f.2.2 1 (by decide)
                      have g210 : -2147483648 ≤ (H199.1 1826 39) ∧ (H199.1 1826 39) ≤ 2147483647 := hrg200.1 1826 13 39 _ .int rfl rfl
                      have e211 : (H199.1 1826 39) = (H.1 1826 39) := hx199f.2.2 39 (by decide)
                      have g212 : -2147483648 ≤ (H199.1 1826 44) ∧ (H199.1 1826 44) ≤ 2147483647 := hrg200.1 1826 13 44 _ .int rfl rfl
                      have e213 : (H199.1 1826 44) = (H.1 1826 44) := hx199f.2.2 44 (by decide)
                      exact ⟨⟨t, rfl, by omega, by omega, (GB_i hx199n (fun q => ⟨_, (by rw [SK_same (H := H) (hx199f.2.2 47 (by decide)) (hx199f.2.1 1852 (by decide) (by decide)) (hx199f.2.1 1853 (by decide) (by decide)) (hx199f.2.1 1854 (by decide) (by decide))]; exact hq9), ⟨q, VR_put hU.2.1 (hx199f.2.2 40 (by decide)) (hx199f.2.2 44 (by decide)) (hx199f.2.2 39 (by decide)) (hx199f.2.1 1849 (by decide) (by decide)) (hx199f.2.1 1850 (by decide) (by decide)), B0_same hU.2.2.1 (by have q8 : (H199.1 1826 40) = ((H.1 1826 40) + 1) := (hx199f.2.2 40 (by decide)); omega) (hx199f.2.2 44 (by decide)) (hx199f.2.2 47 (by decide)) (hx199f.2.1 1852 (by decide) (by decide)) (hx199f.2.1 1854 (by decide) (by decide)), RD_put hU.2.2.2 (by omega) rfl rfl (hx199f.2.2 43 (by decide)) (hx199f.2.1 1851 (by decide) (by decide))⟩, (FH_leaf (sW_rf X) rfl rfl rfl (by omega) (by omega))⟩))⟩, hf201, (by omega : (H.1 1826 30) ≤ (H199.1 1826 30) ∧ (H199.1 1826 30) ≤ (H.1 1826 29)), (by omega : 0 ≤ (H199.1 1826 35) ∧ (H199.1 1826 35) ≤ 5), (by omega : 0 ≤ (H199.1 1826 32) ∧ (H199.1 1826 32) ≤ 1000), (by omega : (H199.1 1826 35) = 0 → (H199.1 1826 31) = 0 ∨ (H.1 1826 30) < (H199.1 1826 30)), (by omega : ((H.1 1826 44) ≠ 2 → (H199.1 1826 39) = (H.1 1826 39)) ∧ (H.1 1826 39) ≤ (H199.1 1826 39)), fun _ => TT_sign (s := (1000 + (k170 : Int))) (q := 0) hP hTT ⟨⟨(hx199f.2.2 1 (by decide)), (hx199f.2.2 3 (by decide)), (hx199f.2.2 8 (by decide)), (hx199f.2.2 44 (by decide))⟩, (hx199f.2.1 1833 (by decide) (by decide)), (hx199f.2.1 1830 (by decide) (by decide))⟩ (by show m_sg (H.1 1826 3) (H.1 1826 8) (H199.1 1826 39) (1000 + (k170 : Int)); rw [show (H199.1 1826 39) = _ from (hx199f.2.2 39 (by decide))]; exact Or.inr (Or.inr (Or.inr (by show 1000 ≤ (1000 + (k170 : Int)) ∧ (1000 + (k170 : Int)) < 1000 + (H.1 1826 39); omega)))) (ma_0 (by omega)) (by omega) (by omega) ⟨(hx199f.2.2 40 (by decide)), (hx199f.2.2 43 (by decide)), (hx199f.2.2 41 (by decide))⟩ (hx199f.2.1 1851 (by decide) (by decide)) (Or.inl ⟨(hx199f.2.2 39 (by decide)), (hx199f.2.1 1850 (by decide) (by decide))⟩) (Or.inl ⟨rfl, (hx199f.2.2 47 (by decide)), (hx199f.2.1 1852 (by decide) (by decide)), (hx199f.2.1 1853 (by decide) (by decide)), (hx199f.2.1 1854 (by decide) (by decide))⟩)⟩
                    · exfalso
                      omega
                · exfalso
                  omega
              · refine h_run 2 (pc' := 194) (l' := [(0, .inr (.inr 1826)), (1, .inl t), (2, .inl h), (3, .inl (-1)), (4, .inl (k170 : Int))]) (st' := [.inl 4, .inr (.inr 1826)]) rfl ?_
                refine h_cv (i := 278) (j := 159) (b := 1826) (M' := mt_159) (xs := [.inl 4]) (rest := []) rfl rfl rfl rfl rfl rfl (Nat.le_of_ble_eq_true rfl) (Nat.le_of_ble_eq_true rfl) (by omega) (m_bad0 (by omega) (by omega) (by omega : (H.1 1826 35) = 0)) ?_
                rintro _ _ ⟨rfl, rfl⟩
                refine h_run 0 (pc' := 197) (l' := [(0, .inr (.inr 1826)), (1, .inl t), (2, .inl h), (3, .inl (-1)), (4, .inl (k170 : Int))]) (st' := []) rfl ?_
                refine h_run 1 (pc' := 198) (l' := [(0, .inr (.inr 1826)), (1, .inl t), (2, .inl h), (3, .inl (-1)), (4, .inl (k170 : Int))]) (st' := [.inr (.inr 1826)]) rfl ?_
                refine h_cv (i := 293) (j := 158) (b := 1826) (M' := mt_158) (xs := []) (rest := []) rfl rfl rfl rfl rfl rfl (Nat.le_of_ble_eq_true rfl) (Nat.le_of_ble_eq_true rfl) (by omega) (m_good0 (by omega) (by omega : (4 : Int) ≠ 0)) ?_
                rintro _ _ ⟨rfl, rfl⟩
                refine h_run 0 (pc' := 201) (l' := [(0, .inr (.inr 1826)), (1, .inl t), (2, .inl h), (3, .inl (-1)), (4, .inl (k170 : Int))]) (st' := [.inl 0]) rfl ?_
                refine h_zeq (off := 23) (t := 224) rfl rfl (by decide) (fun _ => ?_) (fun c => absurd c (by decide))
                refine h_run 1 (pc' := 225) (l' := [(0, .inr (.inr 1826)), (1, .inl t), (2, .inl h), (3, .inl (-1)), (4, .inl (k170 : Int))]) (st' := [.inr (.inr 1826)]) rfl ?_
                have g214 : -2147483648 ≤ (H.1 1826 40) ∧ (H.1 1826 40) ≤ 2147483647 := hrg0.1 1826 13 40 _ .int rfl rfl
                refine h_cv (i := 344) (j := 168) (b := 1826) (M' := mt_168) (xs := []) (rest := []) rfl rfl rfl rfl rfl rfl (Nat.le_of_ble_eq_true rfl) (Nat.le_of_ble_eq_true rfl) (by omega) (m_countC (by omega) (by omega : (4 : Int) ≠ 0) (by omega : 0 ≤ (H.1 1826 40) ∧ (H.1 1826 40) ≤ 1000)) ?_
                rintro _ _ ⟨rfl, rfl⟩
                refine h_run 0 (pc' := 228) (l' := [(0, .inr (.inr 1826)), (1, .inl t), (2, .inl h), (3, .inl (-1)), (4, .inl (k170 : Int))]) (st' := []) rfl ?_
                refine h_run 1 (pc' := 229) (l' := [(0, .inr (.inr 1826)), (1, .inl t), (2, .inl h), (3, .inl (-1)), (4, .inl (k170 : Int))]) (st' := [.inr (.inr 1826)]) rfl ?_
                refine h_cv (i := 293) (j := 158) (b := 1826) (M' := mt_158) (xs := []) (rest := []) rfl rfl rfl rfl rfl rfl (Nat.le_of_ble_eq_true rfl) (Nat.le_of_ble_eq_true rfl) (by omega) (m_good0 (by omega) (by omega : (4 : Int) ≠ 0)) ?_
                rintro _ _ ⟨rfl, rfl⟩
                refine h_run 0 (pc' := 232) (l' := [(0, .inr (.inr 1826)), (1, .inl t), (2, .inl h), (3, .inl (-1)), (4, .inl (k170 : Int))]) (st' := [.inl 0]) rfl ?_
                refine h_zne (off := 5) (t := 237) rfl rfl (by decide) (fun c => absurd c (by decide)) (fun _ => ?_)
                refine h_run 1 (pc' := 236) (l' := [(0, .inr (.inr 1826)), (1, .inl t), (2, .inl h), (3, .inl (-1)), (4, .inl (k170 : Int))]) (st' := [.inl (-1)]) rfl ?_
                refine h_reti (x := (-1)) rfl rfl ?_
                have g215 : -2147483648 ≤ (H.1 1826 30) ∧ (H.1 1826 30) ≤ 2147483647 := hrg0.1 1826 13 30 _ .int rfl rfl
                have g216 : -2147483648 ≤ (H.1 1826 32) ∧ (H.1 1826 32) ≤ 2147483647 := hrg0.1 1826 13 32 _ .int rfl rfl
                have g217 : -2147483648 ≤ (H.1 1826 29) ∧ (H.1 1826 29) ≤ 2147483647 := hrg0.1 1826 13 29 _ .int rfl rfl
                have g218 : -2147483648 ≤ (H.1 1826 31) ∧ (H.1 1826 31) ≤ 2147483647 := hrg0.1 1826 13 31 _ .int rfl rfl
                have g219 : -2147483648 ≤ (H.1 1826 1) ∧ (H.1 1826 1) ≤ 2147483647 := hrg0.1 1826 13 1 _ .int rfl rfl
                exact ⟨⟨(-1), rfl, by omega, by omega, (Or.inr ⟨(by omega : (4 : Int) ≠ 0), (BD_mk hR (fr_o (fr_o (fr_o (fr_rf [35, 36, 40] [] H) (by decide)) (by decide)) (by decide)) (by decide) (by decide) (by decide : (4 : Int) ≠ 0) rfl rfl (rch_st hq (by show stTerm Y (me e t) (H.1 1826 41) (1 - h) (SK e H ++ K) X = _; unfold stTerm stApp stVar miss; rw [show vfd Y X = ((k170 : Nat) : Int) by omega, Int.toNat_natCast]; (repeat (first | rw [if_pos (by omega)] | rw [if_neg (by omega)])); try (first | rfl | (exfalso; omega)))))⟩)⟩, (fr_o (fr_o (fr_o (fr_rf _ _ _) (by decide)) (by decide)) (by decide)), (by omega : (H.1 1826 30) ≤ (H.1 1826 30) ∧ (H.1 1826 30) ≤ (H.1 1826 29)), (by omega : 0 ≤ (4 : Int) ∧ (4 : Int) ≤ 5), (by omega : 0 ≤ (H.1 1826 32) ∧ (H.1 1826 32) ≤ 1000), (by omega : (4 : Int) = 0 → (H.1 1826 31) = 0 ∨ (H.1 1826 30) < (H.1 1826 30)), (by omega : ((H.1 1826 44) ≠ 2 → (H.1 1826 39) = (H.1 1826 39)) ∧ (H.1 1826 39) ≤ (H.1 1826 39)), (fun (q : (4 : Int) = 0) => absurd q (by omega))⟩
          · refine h_run 2 (pc' := 165) (l' := [(0, .inr (.inr 1826)), (1, .inl t), (2, .inl h), (3, .inl (-1)), (4, .inl (k170 : Int))]) (st' := [.inl 2, .inr (.inr 1826)]) rfl ?_
            refine h_cv (i := 278) (j := 159) (b := 1826) (M' := mt_159) (xs := [.inl 2]) (rest := []) rfl rfl rfl rfl rfl rfl (Nat.le_of_ble_eq_true rfl) (Nat.le_of_ble_eq_true rfl) (by omega) (m_bad0 (by omega) (by omega) (by omega : (H.1 1826 35) = 0)) ?_
            rintro _ _ ⟨rfl, rfl⟩
            refine h_run 0 (pc' := 168) (l' := [(0, .inr (.inr 1826)), (1, .inl t), (2, .inl h), (3, .inl (-1)), (4, .inl (k170 : Int))]) (st' := []) rfl ?_
            refine h_run 1 (pc' := 169) (l' := [(0, .inr (.inr 1826)), (1, .inl t), (2, .inl h), (3, .inl (-1)), (4, .inl (k170 : Int))]) (st' := [.inr (.inr 1826)]) rfl ?_
            refine h_cv (i := 293) (j := 158) (b := 1826) (M' := mt_158) (xs := []) (rest := []) rfl rfl rfl rfl rfl rfl (Nat.le_of_ble_eq_true rfl) (Nat.le_of_ble_eq_true rfl) (by omega) (m_good0 (by omega) (by omega : (2 : Int) ≠ 0)) ?_
            rintro _ _ ⟨rfl, rfl⟩
            refine h_run 0 (pc' := 172) (l' := [(0, .inr (.inr 1826)), (1, .inl t), (2, .inl h), (3, .inl (-1)), (4, .inl (k170 : Int))]) (st' := [.inl 0]) rfl ?_
            refine h_zeq (off := 25) (t := 197) rfl rfl (by decide) (fun _ => ?_) (fun c => absurd c (by decide))
            refine h_run 1 (pc' := 198) (l' := [(0, .inr (.inr 1826)), (1, .inl t), (2, .inl h), (3, .inl (-1)), (4, .inl (k170 : Int))]) (st' := [.inr (.inr 1826)]) rfl ?_
            refine h_cv (i := 293) (j := 158) (b := 1826) (M' := mt_158) (xs := []) (rest := []) rfl rfl rfl rfl rfl rfl (Nat.le_of_ble_eq_true rfl) (Nat.le_of_ble_eq_true rfl) (by omega) (m_good0 (by omega) (by omega : (2 : Int) ≠ 0)) ?_
            rintro _ _ ⟨rfl, rfl⟩
            refine h_run 0 (pc' := 201) (l' := [(0, .inr (.inr 1826)), (1, .inl t), (2, .inl h), (3, .inl (-1)), (4, .inl (k170 : Int))]) (st' := [.inl 0]) rfl ?_
            refine h_zeq (off := 23) (t := 224) rfl rfl (by decide) (fun _ => ?_) (fun c => absurd c (by decide))
            refine h_run 1 (pc' := 225) (l' := [(0, .inr (.inr 1826)), (1, .inl t), (2, .inl h), (3, .inl (-1)), (4, .inl (k170 : Int))]) (st' := [.inr (.inr 1826)]) rfl ?_
            have g220 : -2147483648 ≤ (H.1 1826 40) ∧ (H.1 1826 40) ≤ 2147483647 := hrg0.1 1826 13 40 _ .int rfl rfl
            refine h_cv (i := 344) (j := 168) (b := 1826) (M' := mt_168) (xs := []) (rest := []) rfl rfl rfl rfl rfl rfl (Nat.le_of_ble_eq_true rfl) (Nat.le_of_ble_eq_true rfl) (by omega) (m_countC (by omega) (by omega : (2 : Int) ≠ 0) (by omega : 0 ≤ (H.1 1826 40) ∧ (H.1 1826 40) ≤ 1000)) ?_
            rintro _ _ ⟨rfl, rfl⟩
            refine h_run 0 (pc' := 228) (l' := [(0, .inr (.inr 1826)), (1, .inl t), (2, .inl h), (3, .inl (-1)), (4, .inl (k170 : Int))]) (st' := []) rfl ?_
            refine h_run 1 (pc' := 229) (l' := [(0, .inr (.inr 1826)), (1, .inl t), (2, .inl h), (3, .inl (-1)), (4, .inl (k170 : Int))]) (st' := [.inr (.inr 1826)]) rfl ?_
            refine h_cv (i := 293) (j := 158) (b := 1826) (M' := mt_158) (xs := []) (rest := []) rfl rfl rfl rfl rfl rfl (Nat.le_of_ble_eq_true rfl) (Nat.le_of_ble_eq_true rfl) (by omega) (m_good0 (by omega) (by omega : (2 : Int) ≠ 0)) ?_
            rintro _ _ ⟨rfl, rfl⟩
            refine h_run 0 (pc' := 232) (l' := [(0, .inr (.inr 1826)), (1, .inl t), (2, .inl h), (3, .inl (-1)), (4, .inl (k170 : Int))]) (st' := [.inl 0]) rfl ?_
            refine h_zne (off := 5) (t := 237) rfl rfl (by decide) (fun c => absurd c (by decide)) (fun _ => ?_)
            refine h_run 1 (pc' := 236) (l' := [(0, .inr (.inr 1826)), (1, .inl t), (2, .inl h), (3, .inl (-1)), (4, .inl (k170 : Int))]) (st' := [.inl (-1)]) rfl ?_
            refine h_reti (x := (-1)) rfl rfl ?_
            have g221 : -2147483648 ≤ (H.1 1826 30) ∧ (H.1 1826 30) ≤ 2147483647 := hrg0.1 1826 13 30 _ .int rfl rfl
            have g222 : -2147483648 ≤ (H.1 1826 32) ∧ (H.1 1826 32) ≤ 2147483647 := hrg0.1 1826 13 32 _ .int rfl rfl
            have g223 : -2147483648 ≤ (H.1 1826 29) ∧ (H.1 1826 29) ≤ 2147483647 := hrg0.1 1826 13 29 _ .int rfl rfl
            have g224 : -2147483648 ≤ (H.1 1826 31) ∧ (H.1 1826 31) ≤ 2147483647 := hrg0.1 1826 13 31 _ .int rfl rfl
            have g225 : -2147483648 ≤ (H.1 1826 1) ∧ (H.1 1826 1) ≤ 2147483647 := hrg0.1 1826 13 1 _ .int rfl rfl
            exact ⟨⟨(-1), rfl, by omega, by omega, (Or.inr ⟨(by omega : (2 : Int) ≠ 0), (BD_mk hR (fr_o (fr_o (fr_o (fr_rf [35, 36, 40] [] H) (by decide)) (by decide)) (by decide)) (by decide) (by decide) (by decide : (2 : Int) ≠ 0) rfl rfl (rch_st hq (by show stTerm Y (me e t) (H.1 1826 41) (1 - h) (SK e H ++ K) X = _; unfold stTerm stApp stVar miss; rw [show vfd Y X = ((k170 : Nat) : Int) by omega, Int.toNat_natCast]; (repeat (first | rw [if_pos (by omega)] | rw [if_neg (by omega)])); try (first | rfl | (exfalso; omega)))))⟩)⟩, (fr_o (fr_o (fr_o (fr_rf _ _ _) (by decide)) (by decide)) (by decide)), (by omega : (H.1 1826 30) ≤ (H.1 1826 30) ∧ (H.1 1826 30) ≤ (H.1 1826 29)), (by omega : 0 ≤ (2 : Int) ∧ (2 : Int) ≤ 5), (by omega : 0 ≤ (H.1 1826 32) ∧ (H.1 1826 32) ≤ 1000), (by omega : (2 : Int) = 0 → (H.1 1826 31) = 0 ∨ (H.1 1826 30) < (H.1 1826 30)), (by omega : ((H.1 1826 44) ≠ 2 → (H.1 1826 39) = (H.1 1826 39)) ∧ (H.1 1826 39) ≤ (H.1 1826 39)), (fun (q : (2 : Int) = 0) => absurd q (by omega))⟩
        · refine h_run 2 (pc' := 141) (l' := [(0, .inr (.inr 1826)), (1, .inl t), (2, .inl h), (3, .inl (-1)), (4, .inl (k170 : Int))]) (st' := [.inl (-1), .inl (k170 : Int)]) rfl ?_
          refine h_ine (off := 10) (t := 151) rfl rfl (by omega) (by decide) (fun c226 => ?_) (fun c226 => ?_)
          · obtain ⟨⟨hv1, hv2⟩, hv3⟩ := hvr (by omega)
            have hvf3 := hvf1 (by omega)
            clear hvf1 hvf2 hvr
            refine h_run 1 (pc' := 152) (l' := [(0, .inr (.inr 1826)), (1, .inl t), (2, .inl h), (3, .inl (-1)), (4, .inl (k170 : Int))]) (st' := [.inr (.inr 1826)]) rfl ?_
            have g227 : -2147483648 ≤ (H.1 1826 35) ∧ (H.1 1826 35) ≤ 2147483647 := hrg0.1 1826 13 35 _ .int rfl rfl
            refine h_cv (i := 293) (j := 158) (b := 1826) (M' := mt_158) (xs := []) (rest := []) rfl rfl rfl rfl rfl rfl (Nat.le_of_ble_eq_true rfl) (Nat.le_of_ble_eq_true rfl) (by omega) (m_good1 (by omega) (by omega : (H.1 1826 35) = 0)) ?_
            rintro _ _ ⟨rfl, rfl⟩
            refine h_run 0 (pc' := 155) (l' := [(0, .inr (.inr 1826)), (1, .inl t), (2, .inl h), (3, .inl (-1)), (4, .inl (k170 : Int))]) (st' := [.inl 1]) rfl ?_
            refine h_zeq (off := 13) (t := 168) rfl rfl (by decide) (fun c => absurd c (by decide)) (fun _ => ?_)
            refine h_run 2 (pc' := 160) (l' := [(0, .inr (.inr 1826)), (1, .inl t), (2, .inl h), (3, .inl (-1)), (4, .inl (k170 : Int))]) (st' := [.inl (-1), .inl t]) rfl ?_
            refine h_ine (off := 8) (t := 168) rfl rfl (by omega) (by decide) (fun c228 => ?_) (fun c228 => ?_)
            · refine h_run 1 (pc' := 169) (l' := [(0, .inr (.inr 1826)), (1, .inl t), (2, .inl h), (3, .inl (-1)), (4, .inl (k170 : Int))]) (st' := [.inr (.inr 1826)]) rfl ?_
              refine h_cv (i := 293) (j := 158) (b := 1826) (M' := mt_158) (xs := []) (rest := []) rfl rfl rfl rfl rfl rfl (Nat.le_of_ble_eq_true rfl) (Nat.le_of_ble_eq_true rfl) (by omega) (m_good1 (by omega) (by omega : (H.1 1826 35) = 0)) ?_
              rintro _ _ ⟨rfl, rfl⟩
              refine h_run 0 (pc' := 172) (l' := [(0, .inr (.inr 1826)), (1, .inl t), (2, .inl h), (3, .inl (-1)), (4, .inl (k170 : Int))]) (st' := [.inl 1]) rfl ?_
              refine h_zeq (off := 25) (t := 197) rfl rfl (by decide) (fun c => absurd c (by decide)) (fun _ => ?_)
              refine h_run 2 (pc' := 178) (l' := [(0, .inr (.inr 1826)), (1, .inl t), (2, .inl h), (3, .inl (-1)), (4, .inl (k170 : Int))]) (st' := [.inl (-1), .inl (k170 : Int)]) rfl ?_
              refine h_ieq (off := 19) (t := 197) rfl rfl (by omega) (by decide) (fun c229 => ?_) (fun c229 => ?_)
              · exfalso
                omega
              · refine h_run 2 (pc' := 185) (l' := [(0, .inr (.inr 1826)), (1, .inl t), (2, .inl h), (3, .inl (-1)), (4, .inl (k170 : Int))]) (st' := [.inr (.inr 1850)]) rfl ?_
                have hv4 := (hv3 k170 (by omega)).2
                refine h_run 1 (pc' := 187) (l' := [(0, .inr (.inr 1826)), (1, .inl t), (2, .inl h), (3, .inl (-1)), (4, .inl (k170 : Int))]) (st' := [.inl (k170 : Int), .inr (.inr 1850)]) rfl ?_
                refine h_ild (c := 1850) (j := k170) (i := (k170 : Int)) rfl rfl (by decide) rfl (by omega) ?_
                have g230 : -2147483648 ≤ (H.1 1850 k170) ∧ (H.1 1850 k170) ≤ 2147483647 := hrg0.2 1850 k170 48 .int rfl (by omega)
                refine h_run 0 (pc' := 188) (l' := [(0, .inr (.inr 1826)), (1, .inl t), (2, .inl h), (3, .inl (-1)), (4, .inl (k170 : Int))]) (st' := [.inl (H.1 1850 k170)]) rfl ?_
                refine h_run 1 (pc' := 189) (l' := [(0, .inr (.inr 1826)), (1, .inl t), (2, .inl h), (3, .inl (-1)), (4, .inl (k170 : Int))]) (st' := [.inl t, .inl (H.1 1850 k170)]) rfl ?_
                refine h_ieq (off := 8) (t := 197) rfl rfl (by omega) (by omega) (fun c231 => ?_) (fun c231 => ?_)
                · refine h_run 1 (pc' := 198) (l' := [(0, .inr (.inr 1826)), (1, .inl t), (2, .inl h), (3, .inl (-1)), (4, .inl (k170 : Int))]) (st' := [.inr (.inr 1826)]) rfl ?_
                  refine h_cv (i := 293) (j := 158) (b := 1826) (M' := mt_158) (xs := []) (rest := []) rfl rfl rfl rfl rfl rfl (Nat.le_of_ble_eq_true rfl) (Nat.le_of_ble_eq_true rfl) (by omega) (m_good1 (by omega) (by omega : (H.1 1826 35) = 0)) ?_
                  rintro _ _ ⟨rfl, rfl⟩
                  refine h_run 0 (pc' := 201) (l' := [(0, .inr (.inr 1826)), (1, .inl t), (2, .inl h), (3, .inl (-1)), (4, .inl (k170 : Int))]) (st' := [.inl 1]) rfl ?_
                  refine h_zeq (off := 23) (t := 224) rfl rfl (by decide) (fun c => absurd c (by decide)) (fun _ => ?_)
                  refine h_run 2 (pc' := 207) (l' := [(0, .inr (.inr 1826)), (1, .inl t), (2, .inl h), (3, .inl (-1)), (4, .inl (k170 : Int))]) (st' := [.inl (-1), .inl (k170 : Int)]) rfl ?_
                  refine h_ine (off := 17) (t := 224) rfl rfl (by omega) (by decide) (fun c232 => ?_) (fun c232 => ?_)
                  · refine h_run 1 (pc' := 225) (l' := [(0, .inr (.inr 1826)), (1, .inl t), (2, .inl h), (3, .inl (-1)), (4, .inl (k170 : Int))]) (st' := [.inr (.inr 1826)]) rfl ?_
                    have g233 : -2147483648 ≤ (H.1 1826 40) ∧ (H.1 1826 40) ≤ 2147483647 := hrg0.1 1826 13 40 _ .int rfl rfl
                    by_cases b234 : (H.1 1826 40) = 40
                    · refine h_cv (i := 344) (j := 168) (b := 1826) (M' := mt_168) (xs := []) (rest := []) rfl rfl rfl rfl rfl rfl (Nat.le_of_ble_eq_true rfl) (Nat.le_of_ble_eq_true rfl) (by omega) (m_countB (by omega) (by omega : (H.1 1826 35) = 0) (by omega : (H.1 1826 40) = 40)) ?_
                      rintro _ _ ⟨rfl, rfl⟩
                      refine h_run 0 (pc' := 228) (l' := [(0, .inr (.inr 1826)), (1, .inl t), (2, .inl h), (3, .inl (-1)), (4, .inl (k170 : Int))]) (st' := []) rfl ?_
                      refine h_run 1 (pc' := 229) (l' := [(0, .inr (.inr 1826)), (1, .inl t), (2, .inl h), (3, .inl (-1)), (4, .inl (k170 : Int))]) (st' := [.inr (.inr 1826)]) rfl ?_
                      refine h_cv (i := 293) (j := 158) (b := 1826) (M' := mt_158) (xs := []) (rest := []) rfl rfl rfl rfl rfl rfl (Nat.le_of_ble_eq_true rfl) (Nat.le_of_ble_eq_true rfl) (by omega) (m_good0 (by omega) (by omega : (5 : Int) ≠ 0)) ?_
                      rintro _ _ ⟨rfl, rfl⟩
                      refine h_run 0 (pc' := 232) (l' := [(0, .inr (.inr 1826)), (1, .inl t), (2, .inl h), (3, .inl (-1)), (4, .inl (k170 : Int))]) (st' := [.inl 0]) rfl ?_
                      refine h_zne (off := 5) (t := 237) rfl rfl (by decide) (fun c => absurd c (by decide)) (fun _ => ?_)
                      refine h_run 1 (pc' := 236) (l' := [(0, .inr (.inr 1826)), (1, .inl t), (2, .inl h), (3, .inl (-1)), (4, .inl (k170 : Int))]) (st' := [.inl (-1)]) rfl ?_
                      refine h_reti (x := (-1)) rfl rfl ?_
                      have g235 : -2147483648 ≤ (H.1 1826 30) ∧ (H.1 1826 30) ≤ 2147483647 := hrg0.1 1826 13 30 _ .int rfl rfl
                      have g236 : -2147483648 ≤ (H.1 1826 32) ∧ (H.1 1826 32) ≤ 2147483647 := hrg0.1 1826 13 32 _ .int rfl rfl
                      have g237 : -2147483648 ≤ (H.1 1826 29) ∧ (H.1 1826 29) ≤ 2147483647 := hrg0.1 1826 13 29 _ .int rfl rfl
                      have g238 : -2147483648 ≤ (H.1 1826 31) ∧ (H.1 1826 31) ≤ 2147483647 := hrg0.1 1826 13 31 _ .int rfl rfl
                      have g239 : -2147483648 ≤ (H.1 1826 1) ∧ (H.1 1826 1) ≤ 2147483647 := hrg0.1 1826 13 1 _ .int rfl rfl
                      exact ⟨⟨(-1), rfl, by omega, by omega, (Or.inr ⟨(by omega : (5 : Int) ≠ 0), (BD_mk hR (fr_o (fr_o (fr_o (fr_rf [35, 36, 40] [] H) (by decide)) (by decide)) (by decide)) (by decide) (by decide) (by decide : (5 : Int) ≠ 0) rfl rfl (rch_st hq (by show stTerm Y (me e t) (H.1 1826 41) (1 - h) (SK e H ++ K) X = _; unfold stTerm stApp stVar miss; rw [show vfd Y X = ((k170 : Nat) : Int) by omega, Int.toNat_natCast]; (repeat (first | rw [if_pos (by omega)] | rw [if_neg (by omega)])); try (first | rfl | (exfalso; omega)))))⟩)⟩, (fr_o (fr_o (fr_o (fr_rf _ _ _) (by decide)) (by decide)) (by decide)), (by omega : (H.1 1826 30) ≤ (H.1 1826 30) ∧ (H.1 1826 30) ≤ (H.1 1826 29)), (by omega : 0 ≤ (5 : Int) ∧ (5 : Int) ≤ 5), (by omega : 0 ≤ (H.1 1826 32) ∧ (H.1 1826 32) ≤ 1000), (by omega : (5 : Int) = 0 → (H.1 1826 31) = 0 ∨ (H.1 1826 30) < (H.1 1826 30)), (by omega : ((H.1 1826 44) ≠ 2 → (H.1 1826 39) = (H.1 1826 39)) ∧ (H.1 1826 39) ≤ (H.1 1826 39)), (fun (q : (5 : Int) = 0) => absurd q (by omega))⟩
                    · refine h_cv (i := 344) (j := 168) (b := 1826) (M' := mt_168) (xs := []) (rest := []) rfl rfl rfl rfl rfl rfl (Nat.le_of_ble_eq_true rfl) (Nat.le_of_ble_eq_true rfl) (by omega) (m_countA (by omega) (by omega : (H.1 1826 35) = 0) (by omega : 0 ≤ (H.1 1826 40) ∧ (H.1 1826 40) ≤ 1000) (by omega : (H.1 1826 40) ≠ 40)) ?_
                      rintro _ _ ⟨rfl, rfl⟩
                      refine h_run 0 (pc' := 228) (l' := [(0, .inr (.inr 1826)), (1, .inl t), (2, .inl h), (3, .inl (-1)), (4, .inl (k170 : Int))]) (st' := []) rfl ?_
                      refine h_run 1 (pc' := 229) (l' := [(0, .inr (.inr 1826)), (1, .inl t), (2, .inl h), (3, .inl (-1)), (4, .inl (k170 : Int))]) (st' := [.inr (.inr 1826)]) rfl ?_
                      refine h_cv (i := 293) (j := 158) (b := 1826) (M' := mt_158) (xs := []) (rest := []) rfl rfl rfl rfl rfl rfl (Nat.le_of_ble_eq_true rfl) (Nat.le_of_ble_eq_true rfl) (by omega) (m_good1 (by omega) (by omega : (H.1 1826 35) = 0)) ?_
                      rintro _ _ ⟨rfl, rfl⟩
                      refine h_run 0 (pc' := 232) (l' := [(0, .inr (.inr 1826)), (1, .inl t), (2, .inl h), (3, .inl (-1)), (4, .inl (k170 : Int))]) (st' := [.inl 1]) rfl ?_
                      refine h_zne (off := 5) (t := 237) rfl rfl (by decide) (fun _ => ?_) (fun c => absurd c (by decide))
                      refine h_run 2 (pc' := 240) (l' := [(0, .inr (.inr 1826)), (1, .inl t), (2, .inl h), (3, .inl (-1)), (4, .inl (k170 : Int))]) (st' := [.inl (-1), .inl (k170 : Int)]) rfl ?_
                      refine h_ine (off := 11) (t := 251) rfl rfl (by omega) (by decide) (fun c240 => ?_) (fun c240 => ?_)
                      · refine h_run 6 (pc' := 262) (l' := [(0, .inr (.inr 1826)), (1, .inl t), (2, .inl h), (3, .inl (-1)), (4, .inl (k170 : Int))]) (st' := [.inl (1000 + (k170 : Int)), .inr (.inr 1826)]) rfl ?_
                        have g241 : -2147483648 ≤ (H.1 1826 43) ∧ (H.1 1826 43) ≤ 2147483647 := hrg0.1 1826 13 43 _ .int rfl rfl
                        refine h_cv (i := 350) (j := 169) (b := 1826) (M' := mt_169) (xs := [.inl (1000 + (k170 : Int))]) (rest := []) rfl rfl rfl rfl rfl rfl (Nat.le_of_ble_eq_true rfl) (Nat.le_of_ble_eq_true rfl) (by omega) (m_put1 (by omega) (by omega : (H.1 1826 35) = 0) (by omega : 0 ≤ (H.1 1826 43) ∧ (H.1 1826 43) ≤ 47) (by omega)) ?_
                        rintro _ _ ⟨rfl, rfl⟩
                        refine h_run 0 (pc' := 265) (l' := [(0, .inr (.inr 1826)), (1, .inl t), (2, .inl h), (3, .inl (-1)), (4, .inl (k170 : Int))]) (st' := []) rfl ?_
                        have hq9 : rch Y c0 (SK e H ++ K, xput X (1000 + (k170 : Int))) := (rch_st hq (by show stTerm Y (me e t) (H.1 1826 41) (1 - h) (SK e H ++ K) X = _; unfold stTerm stApp stVar miss; rw [show vfd Y X = ((k170 : Nat) : Int) by omega, Int.toNat_natCast]; (repeat (first | rw [if_pos (by omega)] | rw [if_neg (by omega)])); try (first | rfl | (exfalso; omega))))
                        refine h_run 1 (pc' := 266) (l' := [(0, .inr (.inr 1826)), (1, .inl t), (2, .inl h), (3, .inl (-1)), (4, .inl (k170 : Int))]) (st' := [.inr (.inr 1826)]) rfl ?_
                        have g242 : -2147483648 ≤ (H.1 1826 30) ∧ (H.1 1826 30) ≤ 2147483647 := hrg0.1 1826 13 30 _ .int rfl rfl
                        have g243 : -2147483648 ≤ (H.1 1826 29) ∧ (H.1 1826 29) ≤ 2147483647 := hrg0.1 1826 13 29 _ .int rfl rfl
                        have g244 : -2147483648 ≤ (H.1 1826 32) ∧ (H.1 1826 32) ≤ 2147483647 := hrg0.1 1826 13 32 _ .int rfl rfl
                        refine h_cv (i := 297) (j := 165) (b := 1826) (M' := mt_165) (xs := []) (rest := []) rfl rfl rfl rfl rfl rfl (Nat.le_of_ble_eq_true rfl) (Nat.le_of_ble_eq_true rfl) (by omega) (n_nx (by omega) (by omega : 0 ≤ (H.1 1826 30) ∧ (H.1 1826 30) ≤ (H.1 1826 29) ∧ (H.1 1826 29) ≤ 1000) (by omega : 0 ≤ (H.1 1826 35) ∧ (H.1 1826 35) ≤ 5) (by omega : 0 ≤ (H.1 1826 32) ∧ (H.1 1826 32) ≤ 1000) (by omega : (H.1 1826 35) = 0) (X := (xput X (1000 + (k170 : Int)))) (RN_mk hR (fr_o (fr_a (fr_o (fr_rf [40, 43] [1851] H) (by decide)) (by decide)) (by decide)) (by decide) (by decide) (xpt_s _ _).1 (TA_sT (TA_fr hR.2.2.2.2 (fr_o (fr_a (fr_o (fr_rf [40, 43] [1851] H) (by decide)) (by decide)) (by decide)) (by decide) (by decide)) (sT_put X _))) hq9 (SK_lk hK)) ?_
                        rintro _ H245 ⟨rfl, hx245n, hx245f, hx245a, hx245b, hx245c, -, hx245e, hx245g⟩
                        refine h_rng (fun hrg246 => ?_)
                        have hf247 : fr [30, 31, 32, 33, 35, 36, 39, 40, 41, 43, 47] [1849, 1850, 1851, 1852, 1853, 1854] H H245 := fr_t (fr_o (fr_a (fr_o (fr_rf _ _ _) (by decide)) (by decide)) (by decide)) hx245f (by decide) (by decide)
                        replace hx245a : (H.1 1826 30) ≤ (H245.1 1826 30) := hx245a
                        replace hx245b : (H245.1 1826 30) ≤ (H.1 1826 29) := hx245b
                        replace hx245g : (H245.1 1826 35) = 0 → ((H245.1 1826 31) = 0 ∨ (H.1 1826 30) < (H245.1 1826 30)) := hx245g
                        refine h_run 0 (pc' := 269) (l' := [(0, .inr (.inr 1826)), (1, .inl t), (2, .inl h), (3, .inl (-1)), (4, .inl (k170 : Int))]) (st' := []) rfl ?_
                        refine h_run 1 (pc' := 270) (l' := [(0, .inr (.inr 1826)), (1, .inl t), (2, .inl h), (3, .inl (-1)), (4, .inl (k170 : Int))]) (st' := [.inl t]) rfl ?_
                        refine h_reti (x := t) rfl rfl ?_
                        have g248 : -2147483648 ≤ (H245.1 1826 30) ∧ (H245.1 1826 30) ≤ 2147483647 := hrg246.1 1826 13 30 _ .int rfl rfl
                        have g249 : -2147483648 ≤ (H245.1 1826 35) ∧ (H245.1 1826 35) ≤ 2147483647 := hrg246.1 1826 13 35 _ .int rfl rfl
                        have g250 : -2147483648 ≤ (H245.1 1826 32) ∧ (H245.1 1826 32) ≤ 2147483647 := hrg246.1 1826 13 32 _ .int rfl rfl
                        have g251 : -2147483648 ≤ (H245.1 1826 29) ∧ (H245.1 1826 29) ≤ 2147483647 := hrg246.1 1826 13 29 _ .int rfl rfl
                        have e252 : (H245.1 1826 29) = (H.1 1826 29) := hx245f.2.2 29 (by decide)
                        have g253 : -2147483648 ≤ (H245.1 1826 31) ∧ (H245.1 1826 31) ≤ 2147483647 := hrg246.1 1826 13 31 _ .int rfl rfl
                        have g254 : -2147483648 ≤ (H245.1 1826 1) ∧ (H245.1 1826 1) ≤ 2147483647 := hrg246.1 1826 13 1 _ .int rfl rfl
                        have e255 : (H245.1 1826 1) = (H.1 1826 1) := hx245f.2.2 1 (by decide)
                        have g256 : -2147483648 ≤ (H245.1 1826 39) ∧ (H245.1 1826 39) ≤ 2147483647 := hrg246.1 1826 13 39 _ .int rfl rfl
                        have e257 : (H245.1 1826 39) = (H.1 1826 39) := hx245f.2.2 39 (by decide)
                        have g258 : -2147483648 ≤ (H245.1 1826 44) ∧ (H245.1 1826 44) ≤ 2147483647 := hrg246.1 1826 13 44 _ .int rfl rfl
                        have e259 : (H245.1 1826 44) = (H.1 1826 44) := hx245f.2.2 44 (by decide)
                        exact ⟨⟨t, rfl, by omega, by omega, (GB_i hx245n (fun q => ⟨_, (by rw [SK_same (H := H) (hx245f.2.2 47 (by decide)) (hx245f.2.1 1852 (by decide) (by decide)) (hx245f.2.1 1853 (by decide) (by decide)) (hx245f.2.1 1854 (by decide) (by decide))]; exact hq9), ⟨q, VR_put hU.2.1 (hx245f.2.2 40 (by decide)) (hx245f.2.2 44 (by decide)) (hx245f.2.2 39 (by decide)) (hx245f.2.1 1849 (by decide) (by decide)) (hx245f.2.1 1850 (by decide) (by decide)), B0_same hU.2.2.1 (by have q8 : (H245.1 1826 40) = ((H.1 1826 40) + 1) := (hx245f.2.2 40 (by decide)); omega) (hx245f.2.2 44 (by decide)) (hx245f.2.2 47 (by decide)) (hx245f.2.1 1852 (by decide) (by decide)) (hx245f.2.1 1854 (by decide) (by decide)), RD_put hU.2.2.2 (by omega) rfl rfl (hx245f.2.2 43 (by decide)) (hx245f.2.1 1851 (by decide) (by decide))⟩, (FH_leaf (sW_rf X) rfl rfl rfl (by omega) (by omega))⟩))⟩, hf247, (by omega : (H.1 1826 30) ≤ (H245.1 1826 30) ∧ (H245.1 1826 30) ≤ (H.1 1826 29)), (by omega : 0 ≤ (H245.1 1826 35) ∧ (H245.1 1826 35) ≤ 5), (by omega : 0 ≤ (H245.1 1826 32) ∧ (H245.1 1826 32) ≤ 1000), (by omega : (H245.1 1826 35) = 0 → (H245.1 1826 31) = 0 ∨ (H.1 1826 30) < (H245.1 1826 30)), (by omega : ((H.1 1826 44) ≠ 2 → (H245.1 1826 39) = (H.1 1826 39)) ∧ (H.1 1826 39) ≤ (H245.1 1826 39)), fun _ => TT_sign (s := (1000 + (k170 : Int))) (q := 0) hP hTT ⟨⟨(hx245f.2.2 1 (by decide)), (hx245f.2.2 3 (by decide)), (hx245f.2.2 8 (by decide)), (hx245f.2.2 44 (by decide))⟩, (hx245f.2.1 1833 (by decide) (by decide)), (hx245f.2.1 1830 (by decide) (by decide))⟩ (by show m_sg (H.1 1826 3) (H.1 1826 8) (H245.1 1826 39) (1000 + (k170 : Int)); rw [show (H245.1 1826 39) = _ from (hx245f.2.2 39 (by decide))]; exact Or.inr (Or.inr (Or.inr (by show 1000 ≤ (1000 + (k170 : Int)) ∧ (1000 + (k170 : Int)) < 1000 + (H.1 1826 39); omega)))) (ma_0 (by omega)) (by omega) (by omega) ⟨(hx245f.2.2 40 (by decide)), (hx245f.2.2 43 (by decide)), (hx245f.2.2 41 (by decide))⟩ (hx245f.2.1 1851 (by decide) (by decide)) (Or.inl ⟨(hx245f.2.2 39 (by decide)), (hx245f.2.1 1850 (by decide) (by decide))⟩) (Or.inl ⟨rfl, (hx245f.2.2 47 (by decide)), (hx245f.2.1 1852 (by decide) (by decide)), (hx245f.2.1 1853 (by decide) (by decide)), (hx245f.2.1 1854 (by decide) (by decide))⟩)⟩
                      · exfalso
                        omega
                  · exfalso
                    omega
                · refine h_run 2 (pc' := 194) (l' := [(0, .inr (.inr 1826)), (1, .inl t), (2, .inl h), (3, .inl (-1)), (4, .inl (k170 : Int))]) (st' := [.inl 4, .inr (.inr 1826)]) rfl ?_
                  refine h_cv (i := 278) (j := 159) (b := 1826) (M' := mt_159) (xs := [.inl 4]) (rest := []) rfl rfl rfl rfl rfl rfl (Nat.le_of_ble_eq_true rfl) (Nat.le_of_ble_eq_true rfl) (by omega) (m_bad0 (by omega) (by omega) (by omega : (H.1 1826 35) = 0)) ?_
                  rintro _ _ ⟨rfl, rfl⟩
                  refine h_run 0 (pc' := 197) (l' := [(0, .inr (.inr 1826)), (1, .inl t), (2, .inl h), (3, .inl (-1)), (4, .inl (k170 : Int))]) (st' := []) rfl ?_
                  refine h_run 1 (pc' := 198) (l' := [(0, .inr (.inr 1826)), (1, .inl t), (2, .inl h), (3, .inl (-1)), (4, .inl (k170 : Int))]) (st' := [.inr (.inr 1826)]) rfl ?_
                  refine h_cv (i := 293) (j := 158) (b := 1826) (M' := mt_158) (xs := []) (rest := []) rfl rfl rfl rfl rfl rfl (Nat.le_of_ble_eq_true rfl) (Nat.le_of_ble_eq_true rfl) (by omega) (m_good0 (by omega) (by omega : (4 : Int) ≠ 0)) ?_
                  rintro _ _ ⟨rfl, rfl⟩
                  refine h_run 0 (pc' := 201) (l' := [(0, .inr (.inr 1826)), (1, .inl t), (2, .inl h), (3, .inl (-1)), (4, .inl (k170 : Int))]) (st' := [.inl 0]) rfl ?_
                  refine h_zeq (off := 23) (t := 224) rfl rfl (by decide) (fun _ => ?_) (fun c => absurd c (by decide))
                  refine h_run 1 (pc' := 225) (l' := [(0, .inr (.inr 1826)), (1, .inl t), (2, .inl h), (3, .inl (-1)), (4, .inl (k170 : Int))]) (st' := [.inr (.inr 1826)]) rfl ?_
                  have g260 : -2147483648 ≤ (H.1 1826 40) ∧ (H.1 1826 40) ≤ 2147483647 := hrg0.1 1826 13 40 _ .int rfl rfl
                  refine h_cv (i := 344) (j := 168) (b := 1826) (M' := mt_168) (xs := []) (rest := []) rfl rfl rfl rfl rfl rfl (Nat.le_of_ble_eq_true rfl) (Nat.le_of_ble_eq_true rfl) (by omega) (m_countC (by omega) (by omega : (4 : Int) ≠ 0) (by omega : 0 ≤ (H.1 1826 40) ∧ (H.1 1826 40) ≤ 1000)) ?_
                  rintro _ _ ⟨rfl, rfl⟩
                  refine h_run 0 (pc' := 228) (l' := [(0, .inr (.inr 1826)), (1, .inl t), (2, .inl h), (3, .inl (-1)), (4, .inl (k170 : Int))]) (st' := []) rfl ?_
                  refine h_run 1 (pc' := 229) (l' := [(0, .inr (.inr 1826)), (1, .inl t), (2, .inl h), (3, .inl (-1)), (4, .inl (k170 : Int))]) (st' := [.inr (.inr 1826)]) rfl ?_
                  refine h_cv (i := 293) (j := 158) (b := 1826) (M' := mt_158) (xs := []) (rest := []) rfl rfl rfl rfl rfl rfl (Nat.le_of_ble_eq_true rfl) (Nat.le_of_ble_eq_true rfl) (by omega) (m_good0 (by omega) (by omega : (4 : Int) ≠ 0)) ?_
                  rintro _ _ ⟨rfl, rfl⟩
                  refine h_run 0 (pc' := 232) (l' := [(0, .inr (.inr 1826)), (1, .inl t), (2, .inl h), (3, .inl (-1)), (4, .inl (k170 : Int))]) (st' := [.inl 0]) rfl ?_
                  refine h_zne (off := 5) (t := 237) rfl rfl (by decide) (fun c => absurd c (by decide)) (fun _ => ?_)
                  refine h_run 1 (pc' := 236) (l' := [(0, .inr (.inr 1826)), (1, .inl t), (2, .inl h), (3, .inl (-1)), (4, .inl (k170 : Int))]) (st' := [.inl (-1)]) rfl ?_
                  refine h_reti (x := (-1)) rfl rfl ?_
                  have g261 : -2147483648 ≤ (H.1 1826 30) ∧ (H.1 1826 30) ≤ 2147483647 := hrg0.1 1826 13 30 _ .int rfl rfl
                  have g262 : -2147483648 ≤ (H.1 1826 32) ∧ (H.1 1826 32) ≤ 2147483647 := hrg0.1 1826 13 32 _ .int rfl rfl
                  have g263 : -2147483648 ≤ (H.1 1826 29) ∧ (H.1 1826 29) ≤ 2147483647 := hrg0.1 1826 13 29 _ .int rfl rfl
                  have g264 : -2147483648 ≤ (H.1 1826 31) ∧ (H.1 1826 31) ≤ 2147483647 := hrg0.1 1826 13 31 _ .int rfl rfl
                  have g265 : -2147483648 ≤ (H.1 1826 1) ∧ (H.1 1826 1) ≤ 2147483647 := hrg0.1 1826 13 1 _ .int rfl rfl
                  exact ⟨⟨(-1), rfl, by omega, by omega, (Or.inr ⟨(by omega : (4 : Int) ≠ 0), (BD_mk hR (fr_o (fr_o (fr_o (fr_rf [35, 36, 40] [] H) (by decide)) (by decide)) (by decide)) (by decide) (by decide) (by decide : (4 : Int) ≠ 0) rfl rfl (rch_st hq (by show stTerm Y (me e t) (H.1 1826 41) (1 - h) (SK e H ++ K) X = _; unfold stTerm stApp stVar miss; rw [show vfd Y X = ((k170 : Nat) : Int) by omega, Int.toNat_natCast]; (repeat (first | rw [if_pos (by omega)] | rw [if_neg (by omega)])); try (first | rfl | (exfalso; omega)))))⟩)⟩, (fr_o (fr_o (fr_o (fr_rf _ _ _) (by decide)) (by decide)) (by decide)), (by omega : (H.1 1826 30) ≤ (H.1 1826 30) ∧ (H.1 1826 30) ≤ (H.1 1826 29)), (by omega : 0 ≤ (4 : Int) ∧ (4 : Int) ≤ 5), (by omega : 0 ≤ (H.1 1826 32) ∧ (H.1 1826 32) ≤ 1000), (by omega : (4 : Int) = 0 → (H.1 1826 31) = 0 ∨ (H.1 1826 30) < (H.1 1826 30)), (by omega : ((H.1 1826 44) ≠ 2 → (H.1 1826 39) = (H.1 1826 39)) ∧ (H.1 1826 39) ≤ (H.1 1826 39)), (fun (q : (4 : Int) = 0) => absurd q (by omega))⟩
            · refine h_run 2 (pc' := 165) (l' := [(0, .inr (.inr 1826)), (1, .inl t), (2, .inl h), (3, .inl (-1)), (4, .inl (k170 : Int))]) (st' := [.inl 2, .inr (.inr 1826)]) rfl ?_
              refine h_cv (i := 278) (j := 159) (b := 1826) (M' := mt_159) (xs := [.inl 2]) (rest := []) rfl rfl rfl rfl rfl rfl (Nat.le_of_ble_eq_true rfl) (Nat.le_of_ble_eq_true rfl) (by omega) (m_bad0 (by omega) (by omega) (by omega : (H.1 1826 35) = 0)) ?_
              rintro _ _ ⟨rfl, rfl⟩
              refine h_run 0 (pc' := 168) (l' := [(0, .inr (.inr 1826)), (1, .inl t), (2, .inl h), (3, .inl (-1)), (4, .inl (k170 : Int))]) (st' := []) rfl ?_
              refine h_run 1 (pc' := 169) (l' := [(0, .inr (.inr 1826)), (1, .inl t), (2, .inl h), (3, .inl (-1)), (4, .inl (k170 : Int))]) (st' := [.inr (.inr 1826)]) rfl ?_
              refine h_cv (i := 293) (j := 158) (b := 1826) (M' := mt_158) (xs := []) (rest := []) rfl rfl rfl rfl rfl rfl (Nat.le_of_ble_eq_true rfl) (Nat.le_of_ble_eq_true rfl) (by omega) (m_good0 (by omega) (by omega : (2 : Int) ≠ 0)) ?_
              rintro _ _ ⟨rfl, rfl⟩
              refine h_run 0 (pc' := 172) (l' := [(0, .inr (.inr 1826)), (1, .inl t), (2, .inl h), (3, .inl (-1)), (4, .inl (k170 : Int))]) (st' := [.inl 0]) rfl ?_
              refine h_zeq (off := 25) (t := 197) rfl rfl (by decide) (fun _ => ?_) (fun c => absurd c (by decide))
              refine h_run 1 (pc' := 198) (l' := [(0, .inr (.inr 1826)), (1, .inl t), (2, .inl h), (3, .inl (-1)), (4, .inl (k170 : Int))]) (st' := [.inr (.inr 1826)]) rfl ?_
              refine h_cv (i := 293) (j := 158) (b := 1826) (M' := mt_158) (xs := []) (rest := []) rfl rfl rfl rfl rfl rfl (Nat.le_of_ble_eq_true rfl) (Nat.le_of_ble_eq_true rfl) (by omega) (m_good0 (by omega) (by omega : (2 : Int) ≠ 0)) ?_
              rintro _ _ ⟨rfl, rfl⟩
              refine h_run 0 (pc' := 201) (l' := [(0, .inr (.inr 1826)), (1, .inl t), (2, .inl h), (3, .inl (-1)), (4, .inl (k170 : Int))]) (st' := [.inl 0]) rfl ?_
              refine h_zeq (off := 23) (t := 224) rfl rfl (by decide) (fun _ => ?_) (fun c => absurd c (by decide))
              refine h_run 1 (pc' := 225) (l' := [(0, .inr (.inr 1826)), (1, .inl t), (2, .inl h), (3, .inl (-1)), (4, .inl (k170 : Int))]) (st' := [.inr (.inr 1826)]) rfl ?_
              have g266 : -2147483648 ≤ (H.1 1826 40) ∧ (H.1 1826 40) ≤ 2147483647 := hrg0.1 1826 13 40 _ .int rfl rfl
              refine h_cv (i := 344) (j := 168) (b := 1826) (M' := mt_168) (xs := []) (rest := []) rfl rfl rfl rfl rfl rfl (Nat.le_of_ble_eq_true rfl) (Nat.le_of_ble_eq_true rfl) (by omega) (m_countC (by omega) (by omega : (2 : Int) ≠ 0) (by omega : 0 ≤ (H.1 1826 40) ∧ (H.1 1826 40) ≤ 1000)) ?_
              rintro _ _ ⟨rfl, rfl⟩
              refine h_run 0 (pc' := 228) (l' := [(0, .inr (.inr 1826)), (1, .inl t), (2, .inl h), (3, .inl (-1)), (4, .inl (k170 : Int))]) (st' := []) rfl ?_
              refine h_run 1 (pc' := 229) (l' := [(0, .inr (.inr 1826)), (1, .inl t), (2, .inl h), (3, .inl (-1)), (4, .inl (k170 : Int))]) (st' := [.inr (.inr 1826)]) rfl ?_
              refine h_cv (i := 293) (j := 158) (b := 1826) (M' := mt_158) (xs := []) (rest := []) rfl rfl rfl rfl rfl rfl (Nat.le_of_ble_eq_true rfl) (Nat.le_of_ble_eq_true rfl) (by omega) (m_good0 (by omega) (by omega : (2 : Int) ≠ 0)) ?_
              rintro _ _ ⟨rfl, rfl⟩
              refine h_run 0 (pc' := 232) (l' := [(0, .inr (.inr 1826)), (1, .inl t), (2, .inl h), (3, .inl (-1)), (4, .inl (k170 : Int))]) (st' := [.inl 0]) rfl ?_
              refine h_zne (off := 5) (t := 237) rfl rfl (by decide) (fun c => absurd c (by decide)) (fun _ => ?_)
              refine h_run 1 (pc' := 236) (l' := [(0, .inr (.inr 1826)), (1, .inl t), (2, .inl h), (3, .inl (-1)), (4, .inl (k170 : Int))]) (st' := [.inl (-1)]) rfl ?_
              refine h_reti (x := (-1)) rfl rfl ?_
              have g267 : -2147483648 ≤ (H.1 1826 30) ∧ (H.1 1826 30) ≤ 2147483647 := hrg0.1 1826 13 30 _ .int rfl rfl
              have g268 : -2147483648 ≤ (H.1 1826 32) ∧ (H.1 1826 32) ≤ 2147483647 := hrg0.1 1826 13 32 _ .int rfl rfl
              have g269 : -2147483648 ≤ (H.1 1826 29) ∧ (H.1 1826 29) ≤ 2147483647 := hrg0.1 1826 13 29 _ .int rfl rfl
              have g270 : -2147483648 ≤ (H.1 1826 31) ∧ (H.1 1826 31) ≤ 2147483647 := hrg0.1 1826 13 31 _ .int rfl rfl
              have g271 : -2147483648 ≤ (H.1 1826 1) ∧ (H.1 1826 1) ≤ 2147483647 := hrg0.1 1826 13 1 _ .int rfl rfl
              exact ⟨⟨(-1), rfl, by omega, by omega, (Or.inr ⟨(by omega : (2 : Int) ≠ 0), (BD_mk hR (fr_o (fr_o (fr_o (fr_rf [35, 36, 40] [] H) (by decide)) (by decide)) (by decide)) (by decide) (by decide) (by decide : (2 : Int) ≠ 0) rfl rfl (rch_st hq (by show stTerm Y (me e t) (H.1 1826 41) (1 - h) (SK e H ++ K) X = _; unfold stTerm stApp stVar miss; rw [show vfd Y X = ((k170 : Nat) : Int) by omega, Int.toNat_natCast]; (repeat (first | rw [if_pos (by omega)] | rw [if_neg (by omega)])); try (first | rfl | (exfalso; omega)))))⟩)⟩, (fr_o (fr_o (fr_o (fr_rf _ _ _) (by decide)) (by decide)) (by decide)), (by omega : (H.1 1826 30) ≤ (H.1 1826 30) ∧ (H.1 1826 30) ≤ (H.1 1826 29)), (by omega : 0 ≤ (2 : Int) ∧ (2 : Int) ≤ 5), (by omega : 0 ≤ (H.1 1826 32) ∧ (H.1 1826 32) ≤ 1000), (by omega : (2 : Int) = 0 → (H.1 1826 31) = 0 ∨ (H.1 1826 30) < (H.1 1826 30)), (by omega : ((H.1 1826 44) ≠ 2 → (H.1 1826 39) = (H.1 1826 39)) ∧ (H.1 1826 39) ≤ (H.1 1826 39)), (fun (q : (2 : Int) = 0) => absurd q (by omega))⟩
          · exfalso
            omega
    · refine h_run 0 (pc' := 120) (l' := [(0, .inr (.inr 1826)), (1, .inl t), (2, .inl h), (3, .inl (-1))]) (st' := [.inl (-1)]) rfl ?_
      refine h_run 3 (pc' := 126) (l' := [(0, .inr (.inr 1826)), (1, .inl t), (2, .inl h), (3, .inl (-1)), (4, .inl (-1))]) (st' := [.inl (H.1 1826 44)]) rfl ?_
      have g272 : -2147483648 ≤ (H.1 1826 44) ∧ (H.1 1826 44) ≤ 2147483647 := hrg0.1 1826 13 44 _ .int rfl rfl
      refine h_run 1 (pc' := 127) (l' := [(0, .inr (.inr 1826)), (1, .inl t), (2, .inl h), (3, .inl (-1)), (4, .inl (-1))]) (st' := [.inl 3, .inl (H.1 1826 44)]) rfl ?_
      refine h_ieq (off := 17) (t := 144) rfl rfl (by omega) (by decide) (fun c273 => ?_) (fun c273 => ?_)
      · replace hvr : hid _ := hvr
        refine h_run 2 (pc' := 146) (l' := [(0, .inr (.inr 1826)), (1, .inl t), (2, .inl h), (3, .inl (-1)), (4, .inl (-1))]) (st' := [.inl 3, .inr (.inr 1826)]) rfl ?_
        have g274 : -2147483648 ≤ (H.1 1826 35) ∧ (H.1 1826 35) ≤ 2147483647 := hrg0.1 1826 13 35 _ .int rfl rfl
        refine h_cv (i := 278) (j := 159) (b := 1826) (M' := mt_159) (xs := [.inl 3]) (rest := []) rfl rfl rfl rfl rfl rfl (Nat.le_of_ble_eq_true rfl) (Nat.le_of_ble_eq_true rfl) (by omega) (m_bad0 (by omega) (by omega) (by omega : (H.1 1826 35) = 0)) ?_
        rintro _ _ ⟨rfl, rfl⟩
        refine h_run 0 (pc' := 149) (l' := [(0, .inr (.inr 1826)), (1, .inl t), (2, .inl h), (3, .inl (-1)), (4, .inl (-1))]) (st' := []) rfl ?_
        refine h_run 1 (pc' := 150) (l' := [(0, .inr (.inr 1826)), (1, .inl t), (2, .inl h), (3, .inl (-1)), (4, .inl (-1))]) (st' := [.inl (-1)]) rfl ?_
        refine h_reti (x := (-1)) rfl rfl ?_
        have g275 : -2147483648 ≤ (H.1 1826 30) ∧ (H.1 1826 30) ≤ 2147483647 := hrg0.1 1826 13 30 _ .int rfl rfl
        have g276 : -2147483648 ≤ (H.1 1826 32) ∧ (H.1 1826 32) ≤ 2147483647 := hrg0.1 1826 13 32 _ .int rfl rfl
        have g277 : -2147483648 ≤ (H.1 1826 29) ∧ (H.1 1826 29) ≤ 2147483647 := hrg0.1 1826 13 29 _ .int rfl rfl
        have g278 : -2147483648 ≤ (H.1 1826 31) ∧ (H.1 1826 31) ≤ 2147483647 := hrg0.1 1826 13 31 _ .int rfl rfl
        have g279 : -2147483648 ≤ (H.1 1826 1) ∧ (H.1 1826 1) ≤ 2147483647 := hrg0.1 1826 13 1 _ .int rfl rfl
        exact ⟨⟨(-1), rfl, by omega, by omega, (Or.inr ⟨(by omega : (3 : Int) ≠ 0), (BD_mk hR (fr_o (fr_o (fr_rf [35, 36] [] H) (by decide)) (by decide)) (by decide) (by decide) (by decide : (3 : Int) ≠ 0) rfl rfl (rch_st hq (by show stTerm Y (me e t) (H.1 1826 41) (1 - h) (SK e H ++ K) X = _; unfold stTerm stApp stVar miss; (repeat (first | rw [if_pos (by omega)] | rw [if_neg (by omega)])); try (first | rfl | (exfalso; omega)))))⟩)⟩, (fr_o (fr_o (fr_rf _ _ _) (by decide)) (by decide)), (by omega : (H.1 1826 30) ≤ (H.1 1826 30) ∧ (H.1 1826 30) ≤ (H.1 1826 29)), (by omega : 0 ≤ (3 : Int) ∧ (3 : Int) ≤ 5), (by omega : 0 ≤ (H.1 1826 32) ∧ (H.1 1826 32) ≤ 1000), (by omega : (3 : Int) = 0 → (H.1 1826 31) = 0 ∨ (H.1 1826 30) < (H.1 1826 30)), (by omega : ((H.1 1826 44) ≠ 2 → (H.1 1826 39) = (H.1 1826 39)) ∧ (H.1 1826 39) ≤ (H.1 1826 39)), (fun (q : (3 : Int) = 0) => absurd q (by omega))⟩
      · refine h_run 2 (pc' := 134) (l' := [(0, .inr (.inr 1826)), (1, .inl t), (2, .inl h), (3, .inl (-1)), (4, .inl (-1))]) (st' := [.inl (H.1 1826 44)]) rfl ?_
        refine h_run 1 (pc' := 135) (l' := [(0, .inr (.inr 1826)), (1, .inl t), (2, .inl h), (3, .inl (-1)), (4, .inl (-1))]) (st' := [.inl 1, .inl (H.1 1826 44)]) rfl ?_
        refine h_ine (off := 16) (t := 151) rfl rfl (by omega) (by decide) (fun c280 => ?_) (fun c280 => ?_)
        · obtain ⟨⟨hv1, hv2⟩, hv3⟩ := hvr (by omega)
          have hvf3 := hvf1 (by omega)
          clear hvf1 hvf2 hvr
          refine h_run 1 (pc' := 152) (l' := [(0, .inr (.inr 1826)), (1, .inl t), (2, .inl h), (3, .inl (-1)), (4, .inl (-1))]) (st' := [.inr (.inr 1826)]) rfl ?_
          have g281 : -2147483648 ≤ (H.1 1826 35) ∧ (H.1 1826 35) ≤ 2147483647 := hrg0.1 1826 13 35 _ .int rfl rfl
          refine h_cv (i := 293) (j := 158) (b := 1826) (M' := mt_158) (xs := []) (rest := []) rfl rfl rfl rfl rfl rfl (Nat.le_of_ble_eq_true rfl) (Nat.le_of_ble_eq_true rfl) (by omega) (m_good1 (by omega) (by omega : (H.1 1826 35) = 0)) ?_
          rintro _ _ ⟨rfl, rfl⟩
          refine h_run 0 (pc' := 155) (l' := [(0, .inr (.inr 1826)), (1, .inl t), (2, .inl h), (3, .inl (-1)), (4, .inl (-1))]) (st' := [.inl 1]) rfl ?_
          refine h_zeq (off := 13) (t := 168) rfl rfl (by decide) (fun c => absurd c (by decide)) (fun _ => ?_)
          refine h_run 2 (pc' := 160) (l' := [(0, .inr (.inr 1826)), (1, .inl t), (2, .inl h), (3, .inl (-1)), (4, .inl (-1))]) (st' := [.inl (-1), .inl t]) rfl ?_
          refine h_ine (off := 8) (t := 168) rfl rfl (by omega) (by decide) (fun c282 => ?_) (fun c282 => ?_)
          · refine h_run 1 (pc' := 169) (l' := [(0, .inr (.inr 1826)), (1, .inl t), (2, .inl h), (3, .inl (-1)), (4, .inl (-1))]) (st' := [.inr (.inr 1826)]) rfl ?_
            refine h_cv (i := 293) (j := 158) (b := 1826) (M' := mt_158) (xs := []) (rest := []) rfl rfl rfl rfl rfl rfl (Nat.le_of_ble_eq_true rfl) (Nat.le_of_ble_eq_true rfl) (by omega) (m_good1 (by omega) (by omega : (H.1 1826 35) = 0)) ?_
            rintro _ _ ⟨rfl, rfl⟩
            refine h_run 0 (pc' := 172) (l' := [(0, .inr (.inr 1826)), (1, .inl t), (2, .inl h), (3, .inl (-1)), (4, .inl (-1))]) (st' := [.inl 1]) rfl ?_
            refine h_zeq (off := 25) (t := 197) rfl rfl (by decide) (fun c => absurd c (by decide)) (fun _ => ?_)
            refine h_run 2 (pc' := 178) (l' := [(0, .inr (.inr 1826)), (1, .inl t), (2, .inl h), (3, .inl (-1)), (4, .inl (-1))]) (st' := [.inl (-1), .inl (-1)]) rfl ?_
            refine h_ieq (off := 19) (t := 197) rfl rfl (by decide) (by decide) (fun _ => ?_) (fun c => absurd c (by decide))
            refine h_run 1 (pc' := 198) (l' := [(0, .inr (.inr 1826)), (1, .inl t), (2, .inl h), (3, .inl (-1)), (4, .inl (-1))]) (st' := [.inr (.inr 1826)]) rfl ?_
            refine h_cv (i := 293) (j := 158) (b := 1826) (M' := mt_158) (xs := []) (rest := []) rfl rfl rfl rfl rfl rfl (Nat.le_of_ble_eq_true rfl) (Nat.le_of_ble_eq_true rfl) (by omega) (m_good1 (by omega) (by omega : (H.1 1826 35) = 0)) ?_
            rintro _ _ ⟨rfl, rfl⟩
            refine h_run 0 (pc' := 201) (l' := [(0, .inr (.inr 1826)), (1, .inl t), (2, .inl h), (3, .inl (-1)), (4, .inl (-1))]) (st' := [.inl 1]) rfl ?_
            refine h_zeq (off := 23) (t := 224) rfl rfl (by decide) (fun c => absurd c (by decide)) (fun _ => ?_)
            refine h_run 2 (pc' := 207) (l' := [(0, .inr (.inr 1826)), (1, .inl t), (2, .inl h), (3, .inl (-1)), (4, .inl (-1))]) (st' := [.inl (-1), .inl (-1)]) rfl ?_
            refine h_ine (off := 17) (t := 224) rfl rfl (by decide) (by decide) (fun c => absurd c (by decide)) (fun _ => ?_)
            refine h_run 2 (pc' := 214) (l' := [(0, .inr (.inr 1826)), (1, .inl t), (2, .inl h), (3, .inl (-1)), (4, .inl (-1))]) (st' := [.inl (H.1 1826 39)]) rfl ?_
            refine h_run 1 (pc' := 216) (l' := [(0, .inr (.inr 1826)), (1, .inl t), (2, .inl h), (3, .inl (-1)), (4, .inl (-1))]) (st' := [.inl 6, .inl (H.1 1826 39)]) rfl ?_
            refine h_ine (off := 8) (t := 224) rfl rfl (by omega) (by decide) (fun c283 => ?_) (fun c283 => ?_)
            · refine h_run 1 (pc' := 225) (l' := [(0, .inr (.inr 1826)), (1, .inl t), (2, .inl h), (3, .inl (-1)), (4, .inl (-1))]) (st' := [.inr (.inr 1826)]) rfl ?_
              have g284 : -2147483648 ≤ (H.1 1826 40) ∧ (H.1 1826 40) ≤ 2147483647 := hrg0.1 1826 13 40 _ .int rfl rfl
              by_cases b285 : (H.1 1826 40) = 40
              · refine h_cv (i := 344) (j := 168) (b := 1826) (M' := mt_168) (xs := []) (rest := []) rfl rfl rfl rfl rfl rfl (Nat.le_of_ble_eq_true rfl) (Nat.le_of_ble_eq_true rfl) (by omega) (m_countB (by omega) (by omega : (H.1 1826 35) = 0) (by omega : (H.1 1826 40) = 40)) ?_
                rintro _ _ ⟨rfl, rfl⟩
                refine h_run 0 (pc' := 228) (l' := [(0, .inr (.inr 1826)), (1, .inl t), (2, .inl h), (3, .inl (-1)), (4, .inl (-1))]) (st' := []) rfl ?_
                refine h_run 1 (pc' := 229) (l' := [(0, .inr (.inr 1826)), (1, .inl t), (2, .inl h), (3, .inl (-1)), (4, .inl (-1))]) (st' := [.inr (.inr 1826)]) rfl ?_
                refine h_cv (i := 293) (j := 158) (b := 1826) (M' := mt_158) (xs := []) (rest := []) rfl rfl rfl rfl rfl rfl (Nat.le_of_ble_eq_true rfl) (Nat.le_of_ble_eq_true rfl) (by omega) (m_good0 (by omega) (by omega : (5 : Int) ≠ 0)) ?_
                rintro _ _ ⟨rfl, rfl⟩
                refine h_run 0 (pc' := 232) (l' := [(0, .inr (.inr 1826)), (1, .inl t), (2, .inl h), (3, .inl (-1)), (4, .inl (-1))]) (st' := [.inl 0]) rfl ?_
                refine h_zne (off := 5) (t := 237) rfl rfl (by decide) (fun c => absurd c (by decide)) (fun _ => ?_)
                refine h_run 1 (pc' := 236) (l' := [(0, .inr (.inr 1826)), (1, .inl t), (2, .inl h), (3, .inl (-1)), (4, .inl (-1))]) (st' := [.inl (-1)]) rfl ?_
                refine h_reti (x := (-1)) rfl rfl ?_
                have g286 : -2147483648 ≤ (H.1 1826 30) ∧ (H.1 1826 30) ≤ 2147483647 := hrg0.1 1826 13 30 _ .int rfl rfl
                have g287 : -2147483648 ≤ (H.1 1826 32) ∧ (H.1 1826 32) ≤ 2147483647 := hrg0.1 1826 13 32 _ .int rfl rfl
                have g288 : -2147483648 ≤ (H.1 1826 29) ∧ (H.1 1826 29) ≤ 2147483647 := hrg0.1 1826 13 29 _ .int rfl rfl
                have g289 : -2147483648 ≤ (H.1 1826 31) ∧ (H.1 1826 31) ≤ 2147483647 := hrg0.1 1826 13 31 _ .int rfl rfl
                have g290 : -2147483648 ≤ (H.1 1826 1) ∧ (H.1 1826 1) ≤ 2147483647 := hrg0.1 1826 13 1 _ .int rfl rfl
                exact ⟨⟨(-1), rfl, by omega, by omega, (Or.inr ⟨(by omega : (5 : Int) ≠ 0), (BD_mk hR (fr_o (fr_o (fr_o (fr_rf [35, 36, 40] [] H) (by decide)) (by decide)) (by decide)) (by decide) (by decide) (by decide : (5 : Int) ≠ 0) rfl rfl (rch_st hq (by show stTerm Y (me e t) (H.1 1826 41) (1 - h) (SK e H ++ K) X = _; unfold stTerm stApp stVar miss; (repeat (first | rw [if_pos (by omega)] | rw [if_neg (by omega)])); try (first | rfl | (exfalso; omega)))))⟩)⟩, (fr_o (fr_o (fr_o (fr_rf _ _ _) (by decide)) (by decide)) (by decide)), (by omega : (H.1 1826 30) ≤ (H.1 1826 30) ∧ (H.1 1826 30) ≤ (H.1 1826 29)), (by omega : 0 ≤ (5 : Int) ∧ (5 : Int) ≤ 5), (by omega : 0 ≤ (H.1 1826 32) ∧ (H.1 1826 32) ≤ 1000), (by omega : (5 : Int) = 0 → (H.1 1826 31) = 0 ∨ (H.1 1826 30) < (H.1 1826 30)), (by omega : ((H.1 1826 44) ≠ 2 → (H.1 1826 39) = (H.1 1826 39)) ∧ (H.1 1826 39) ≤ (H.1 1826 39)), (fun (q : (5 : Int) = 0) => absurd q (by omega))⟩
              · refine h_cv (i := 344) (j := 168) (b := 1826) (M' := mt_168) (xs := []) (rest := []) rfl rfl rfl rfl rfl rfl (Nat.le_of_ble_eq_true rfl) (Nat.le_of_ble_eq_true rfl) (by omega) (m_countA (by omega) (by omega : (H.1 1826 35) = 0) (by omega : 0 ≤ (H.1 1826 40) ∧ (H.1 1826 40) ≤ 1000) (by omega : (H.1 1826 40) ≠ 40)) ?_
                rintro _ _ ⟨rfl, rfl⟩
                refine h_run 0 (pc' := 228) (l' := [(0, .inr (.inr 1826)), (1, .inl t), (2, .inl h), (3, .inl (-1)), (4, .inl (-1))]) (st' := []) rfl ?_
                refine h_run 1 (pc' := 229) (l' := [(0, .inr (.inr 1826)), (1, .inl t), (2, .inl h), (3, .inl (-1)), (4, .inl (-1))]) (st' := [.inr (.inr 1826)]) rfl ?_
                refine h_cv (i := 293) (j := 158) (b := 1826) (M' := mt_158) (xs := []) (rest := []) rfl rfl rfl rfl rfl rfl (Nat.le_of_ble_eq_true rfl) (Nat.le_of_ble_eq_true rfl) (by omega) (m_good1 (by omega) (by omega : (H.1 1826 35) = 0)) ?_
                rintro _ _ ⟨rfl, rfl⟩
                refine h_run 0 (pc' := 232) (l' := [(0, .inr (.inr 1826)), (1, .inl t), (2, .inl h), (3, .inl (-1)), (4, .inl (-1))]) (st' := [.inl 1]) rfl ?_
                refine h_zne (off := 5) (t := 237) rfl rfl (by decide) (fun _ => ?_) (fun c => absurd c (by decide))
                refine h_run 2 (pc' := 240) (l' := [(0, .inr (.inr 1826)), (1, .inl t), (2, .inl h), (3, .inl (-1)), (4, .inl (-1))]) (st' := [.inl (-1), .inl (-1)]) rfl ?_
                refine h_ine (off := 11) (t := 251) rfl rfl (by decide) (by decide) (fun c => absurd c (by decide)) (fun _ => ?_)
                refine h_run 2 (pc' := 245) (l' := [(0, .inr (.inr 1826)), (1, .inl t), (2, .inl h), (3, .inl (-1)), (4, .inl (-1))]) (st' := [.inl t, .inr (.inr 1826)]) rfl ?_
                refine h_cv (i := 347) (j := 177) (b := 1826) (M' := mt_177) (xs := [.inl t]) (rest := []) rfl rfl rfl rfl rfl rfl (Nat.le_of_ble_eq_true rfl) (Nat.le_of_ble_eq_true rfl) (by omega) (m_addVariable (by omega) (by omega : 0 ≤ (H.1 1826 39) ∧ (H.1 1826 39) ≤ 47) (by omega)) ?_
                rintro _ _ ⟨rfl, rfl⟩
                refine h_run 0 (pc' := 248) (l' := [(0, .inr (.inr 1826)), (1, .inl t), (2, .inl h), (3, .inl (-1)), (4, .inl (-1))]) (st' := [.inl (((H.1 1826 39) + 1) - 1)]) rfl ?_
                refine h_run 6 (pc' := 262) (l' := [(0, .inr (.inr 1826)), (1, .inl t), (2, .inl h), (3, .inl (-1)), (4, .inl (((H.1 1826 39) + 1) - 1))]) (st' := [.inl (1000 + (((H.1 1826 39) + 1) - 1)), .inr (.inr 1826)]) rfl ?_
                have g291 : -2147483648 ≤ (H.1 1826 43) ∧ (H.1 1826 43) ≤ 2147483647 := hrg0.1 1826 13 43 _ .int rfl rfl
                refine h_cv (i := 350) (j := 169) (b := 1826) (M' := mt_169) (xs := [.inl (1000 + (((H.1 1826 39) + 1) - 1))]) (rest := []) rfl rfl rfl rfl rfl rfl (Nat.le_of_ble_eq_true rfl) (Nat.le_of_ble_eq_true rfl) (by omega) (m_put1 (by omega) (by omega : (H.1 1826 35) = 0) (by omega : 0 ≤ (H.1 1826 43) ∧ (H.1 1826 43) ≤ 47) (by omega)) ?_
                rintro _ _ ⟨rfl, rfl⟩
                refine h_run 0 (pc' := 265) (l' := [(0, .inr (.inr 1826)), (1, .inl t), (2, .inl h), (3, .inl (-1)), (4, .inl (((H.1 1826 39) + 1) - 1))]) (st' := []) rfl ?_
                have hq9 : rch Y c0 (SK e H ++ K, xput (xvar X (tn Y (xi X)) t) (1000 + (((H.1 1826 39) + 1) - 1))) := by rw [show (1000 + (((H.1 1826 39) + 1) - 1)) = 1000 + X 0 1 by omega, show t = me e t by omega]; exact (rch_st hq (by show stTerm Y (me e t) (H.1 1826 41) (1 - h) (SK e H ++ K) X = _; unfold stTerm stApp stVar miss; (repeat (first | rw [if_pos (by omega)] | rw [if_neg (by omega)])); try (first | rfl | (exfalso; omega))))
                refine h_run 1 (pc' := 266) (l' := [(0, .inr (.inr 1826)), (1, .inl t), (2, .inl h), (3, .inl (-1)), (4, .inl (((H.1 1826 39) + 1) - 1))]) (st' := [.inr (.inr 1826)]) rfl ?_
                have g292 : -2147483648 ≤ (H.1 1826 30) ∧ (H.1 1826 30) ≤ 2147483647 := hrg0.1 1826 13 30 _ .int rfl rfl
                have g293 : -2147483648 ≤ (H.1 1826 29) ∧ (H.1 1826 29) ≤ 2147483647 := hrg0.1 1826 13 29 _ .int rfl rfl
                have g294 : -2147483648 ≤ (H.1 1826 32) ∧ (H.1 1826 32) ≤ 2147483647 := hrg0.1 1826 13 32 _ .int rfl rfl
                refine h_cv (i := 297) (j := 165) (b := 1826) (M' := mt_165) (xs := []) (rest := []) rfl rfl rfl rfl rfl rfl (Nat.le_of_ble_eq_true rfl) (Nat.le_of_ble_eq_true rfl) (by omega) (n_nx (by omega) (by omega : 0 ≤ (H.1 1826 30) ∧ (H.1 1826 30) ≤ (H.1 1826 29) ∧ (H.1 1826 29) ≤ 1000) (by omega : 0 ≤ (H.1 1826 35) ∧ (H.1 1826 35) ≤ 5) (by omega : 0 ≤ (H.1 1826 32) ∧ (H.1 1826 32) ≤ 1000) (by omega : (H.1 1826 35) = 0) (X := (xput (xvar X (tn Y (xi X)) t) (1000 + (((H.1 1826 39) + 1) - 1)))) (RN_mk hR (fr_o (fr_a (fr_o (fr_a (fr_a (fr_o (fr_rf [39, 40, 43] [1849, 1850, 1851] H) (by decide)) (by decide)) (by decide)) (by decide)) (by decide)) (by decide)) (by decide) (by decide) (xpv_0 _ _ _ _).1 (TA_sT (TA_fr hR.2.2.2.2 (fr_o (fr_a (fr_o (fr_a (fr_a (fr_o (fr_rf [39, 40, 43] [1849, 1850, 1851] H) (by decide)) (by decide)) (by decide)) (by decide)) (by decide)) (by decide)) (by decide) (by decide)) (sT_tr (sT_var X _ _) (sT_put _ _)))) hq9 (SK_lk hK)) ?_
                rintro _ H295 ⟨rfl, hx295n, hx295f, hx295a, hx295b, hx295c, -, hx295e, hx295g⟩
                refine h_rng (fun hrg296 => ?_)
                have hf297 : fr [30, 31, 32, 33, 35, 36, 39, 40, 41, 43, 47] [1849, 1850, 1851, 1852, 1853, 1854] H H295 := fr_t (fr_o (fr_a (fr_o (fr_a (fr_a (fr_o (fr_rf _ _ _) (by decide)) (by decide)) (by decide)) (by decide)) (by decide)) (by decide)) hx295f (by decide) (by decide)
                replace hx295a : (H.1 1826 30) ≤ (H295.1 1826 30) := hx295a
                replace hx295b : (H295.1 1826 30) ≤ (H.1 1826 29) := hx295b
                replace hx295g : (H295.1 1826 35) = 0 → ((H295.1 1826 31) = 0 ∨ (H.1 1826 30) < (H295.1 1826 30)) := hx295g
                refine h_run 0 (pc' := 269) (l' := [(0, .inr (.inr 1826)), (1, .inl t), (2, .inl h), (3, .inl (-1)), (4, .inl (((H.1 1826 39) + 1) - 1))]) (st' := []) rfl ?_
                refine h_run 1 (pc' := 270) (l' := [(0, .inr (.inr 1826)), (1, .inl t), (2, .inl h), (3, .inl (-1)), (4, .inl (((H.1 1826 39) + 1) - 1))]) (st' := [.inl t]) rfl ?_
                refine h_reti (x := t) rfl rfl ?_
                have g298 : -2147483648 ≤ (H295.1 1826 30) ∧ (H295.1 1826 30) ≤ 2147483647 := hrg296.1 1826 13 30 _ .int rfl rfl
                have g299 : -2147483648 ≤ (H295.1 1826 35) ∧ (H295.1 1826 35) ≤ 2147483647 := hrg296.1 1826 13 35 _ .int rfl rfl
                have g300 : -2147483648 ≤ (H295.1 1826 32) ∧ (H295.1 1826 32) ≤ 2147483647 := hrg296.1 1826 13 32 _ .int rfl rfl
                have g301 : -2147483648 ≤ (H295.1 1826 29) ∧ (H295.1 1826 29) ≤ 2147483647 := hrg296.1 1826 13 29 _ .int rfl rfl
                have e302 : (H295.1 1826 29) = (H.1 1826 29) := hx295f.2.2 29 (by decide)
                have g303 : -2147483648 ≤ (H295.1 1826 31) ∧ (H295.1 1826 31) ≤ 2147483647 := hrg296.1 1826 13 31 _ .int rfl rfl
                have g304 : -2147483648 ≤ (H295.1 1826 1) ∧ (H295.1 1826 1) ≤ 2147483647 := hrg296.1 1826 13 1 _ .int rfl rfl
                have e305 : (H295.1 1826 1) = (H.1 1826 1) := hx295f.2.2 1 (by decide)
                have g306 : -2147483648 ≤ (H295.1 1826 39) ∧ (H295.1 1826 39) ≤ 2147483647 := hrg296.1 1826 13 39 _ .int rfl rfl
                have e307 : (H295.1 1826 39) = ((H.1 1826 39) + 1) := hx295f.2.2 39 (by decide)
                have g308 : -2147483648 ≤ (H295.1 1826 44) ∧ (H295.1 1826 44) ≤ 2147483647 := hrg296.1 1826 13 44 _ .int rfl rfl
                have e309 : (H295.1 1826 44) = (H.1 1826 44) := hx295f.2.2 44 (by decide)
                exact ⟨⟨t, rfl, by omega, by omega, (GB_i hx295n (fun q => ⟨_, (by rw [SK_same (H := H) (hx295f.2.2 47 (by decide)) (hx295f.2.1 1852 (by decide) (by decide)) (hx295f.2.1 1853 (by decide) (by decide)) (hx295f.2.1 1854 (by decide) (by decide))]; exact hq9), ⟨q, VR_var hU.2.1 (by omega) (hx295f.2.2 40 (by decide)) (hx295f.2.2 44 (by decide)) (hx295f.2.2 39 (by decide)) (by rw [← RK_n hR (Or.inl (by omega))]; exact (hx295f.2.1 1849 (by decide) (by decide))) (hx295f.2.1 1850 (by decide) (by decide)), B0_same hU.2.2.1 (by have q8 : (H295.1 1826 40) = ((H.1 1826 40) + 1) := (hx295f.2.2 40 (by decide)); omega) (hx295f.2.2 44 (by decide)) (hx295f.2.2 47 (by decide)) (hx295f.2.1 1852 (by decide) (by decide)) (hx295f.2.1 1854 (by decide) (by decide)), RD_put hU.2.2.2 (by omega) (xvr_s _ _ _).2.2.1 (xvr_s _ _ _).2.2.2.2.2.2 (hx295f.2.2 43 (by decide)) (hx295f.2.1 1851 (by decide) (by decide))⟩, (FH_leaf (sW_var X _ _) (xvr_s _ _ _).2.2.1 (xvr_s _ _ _).2.2.2.1 (xvr_s _ _ _).2.2.2.2.2.2 (by omega) (by omega))⟩))⟩, hf297, (by omega : (H.1 1826 30) ≤ (H295.1 1826 30) ∧ (H295.1 1826 30) ≤ (H.1 1826 29)), (by omega : 0 ≤ (H295.1 1826 35) ∧ (H295.1 1826 35) ≤ 5), (by omega : 0 ≤ (H295.1 1826 32) ∧ (H295.1 1826 32) ≤ 1000), (by omega : (H295.1 1826 35) = 0 → (H295.1 1826 31) = 0 ∨ (H.1 1826 30) < (H295.1 1826 30)), (by omega : ((H.1 1826 44) ≠ 2 → (H295.1 1826 39) = (H.1 1826 39)) ∧ (H.1 1826 39) ≤ (H295.1 1826 39)), fun _ => TT_sign (s := (1000 + (((H.1 1826 39) + 1) - 1))) (q := 0) hP hTT ⟨⟨(hx295f.2.2 1 (by decide)), (hx295f.2.2 3 (by decide)), (hx295f.2.2 8 (by decide)), (hx295f.2.2 44 (by decide))⟩, (hx295f.2.1 1833 (by decide) (by decide)), (hx295f.2.1 1830 (by decide) (by decide))⟩ (by show m_sg (H.1 1826 3) (H.1 1826 8) (H295.1 1826 39) (1000 + (((H.1 1826 39) + 1) - 1)); rw [show (H295.1 1826 39) = _ from (hx295f.2.2 39 (by decide))]; exact Or.inr (Or.inr (Or.inr (by show 1000 ≤ (1000 + (((H.1 1826 39) + 1) - 1)) ∧ (1000 + (((H.1 1826 39) + 1) - 1)) < 1000 + ((H.1 1826 39) + 1); omega)))) (ma_0 (by omega)) (by omega) (by omega) ⟨(hx295f.2.2 40 (by decide)), (hx295f.2.2 43 (by decide)), (hx295f.2.2 41 (by decide))⟩ (hx295f.2.1 1851 (by decide) (by decide)) (Or.inr ⟨by omega, by omega, (hx295f.2.2 39 (by decide)), t, (hx295f.2.1 1850 (by decide) (by decide)), by omega, by omega⟩) (Or.inl ⟨rfl, (hx295f.2.2 47 (by decide)), (hx295f.2.1 1852 (by decide) (by decide)), (hx295f.2.1 1853 (by decide) (by decide)), (hx295f.2.1 1854 (by decide) (by decide))⟩)⟩
            · refine h_run 2 (pc' := 221) (l' := [(0, .inr (.inr 1826)), (1, .inl t), (2, .inl h), (3, .inl (-1)), (4, .inl (-1))]) (st' := [.inl 5, .inr (.inr 1826)]) rfl ?_
              refine h_cv (i := 278) (j := 159) (b := 1826) (M' := mt_159) (xs := [.inl 5]) (rest := []) rfl rfl rfl rfl rfl rfl (Nat.le_of_ble_eq_true rfl) (Nat.le_of_ble_eq_true rfl) (by omega) (m_bad0 (by omega) (by omega) (by omega : (H.1 1826 35) = 0)) ?_
              rintro _ _ ⟨rfl, rfl⟩
              refine h_run 0 (pc' := 224) (l' := [(0, .inr (.inr 1826)), (1, .inl t), (2, .inl h), (3, .inl (-1)), (4, .inl (-1))]) (st' := []) rfl ?_
              refine h_run 1 (pc' := 225) (l' := [(0, .inr (.inr 1826)), (1, .inl t), (2, .inl h), (3, .inl (-1)), (4, .inl (-1))]) (st' := [.inr (.inr 1826)]) rfl ?_
              have g310 : -2147483648 ≤ (H.1 1826 40) ∧ (H.1 1826 40) ≤ 2147483647 := hrg0.1 1826 13 40 _ .int rfl rfl
              refine h_cv (i := 344) (j := 168) (b := 1826) (M' := mt_168) (xs := []) (rest := []) rfl rfl rfl rfl rfl rfl (Nat.le_of_ble_eq_true rfl) (Nat.le_of_ble_eq_true rfl) (by omega) (m_countC (by omega) (by omega : (5 : Int) ≠ 0) (by omega : 0 ≤ (H.1 1826 40) ∧ (H.1 1826 40) ≤ 1000)) ?_
              rintro _ _ ⟨rfl, rfl⟩
              refine h_run 0 (pc' := 228) (l' := [(0, .inr (.inr 1826)), (1, .inl t), (2, .inl h), (3, .inl (-1)), (4, .inl (-1))]) (st' := []) rfl ?_
              refine h_run 1 (pc' := 229) (l' := [(0, .inr (.inr 1826)), (1, .inl t), (2, .inl h), (3, .inl (-1)), (4, .inl (-1))]) (st' := [.inr (.inr 1826)]) rfl ?_
              refine h_cv (i := 293) (j := 158) (b := 1826) (M' := mt_158) (xs := []) (rest := []) rfl rfl rfl rfl rfl rfl (Nat.le_of_ble_eq_true rfl) (Nat.le_of_ble_eq_true rfl) (by omega) (m_good0 (by omega) (by omega : (5 : Int) ≠ 0)) ?_
              rintro _ _ ⟨rfl, rfl⟩
              refine h_run 0 (pc' := 232) (l' := [(0, .inr (.inr 1826)), (1, .inl t), (2, .inl h), (3, .inl (-1)), (4, .inl (-1))]) (st' := [.inl 0]) rfl ?_
              refine h_zne (off := 5) (t := 237) rfl rfl (by decide) (fun c => absurd c (by decide)) (fun _ => ?_)
              refine h_run 1 (pc' := 236) (l' := [(0, .inr (.inr 1826)), (1, .inl t), (2, .inl h), (3, .inl (-1)), (4, .inl (-1))]) (st' := [.inl (-1)]) rfl ?_
              refine h_reti (x := (-1)) rfl rfl ?_
              have g311 : -2147483648 ≤ (H.1 1826 30) ∧ (H.1 1826 30) ≤ 2147483647 := hrg0.1 1826 13 30 _ .int rfl rfl
              have g312 : -2147483648 ≤ (H.1 1826 32) ∧ (H.1 1826 32) ≤ 2147483647 := hrg0.1 1826 13 32 _ .int rfl rfl
              have g313 : -2147483648 ≤ (H.1 1826 29) ∧ (H.1 1826 29) ≤ 2147483647 := hrg0.1 1826 13 29 _ .int rfl rfl
              have g314 : -2147483648 ≤ (H.1 1826 31) ∧ (H.1 1826 31) ≤ 2147483647 := hrg0.1 1826 13 31 _ .int rfl rfl
              have g315 : -2147483648 ≤ (H.1 1826 1) ∧ (H.1 1826 1) ≤ 2147483647 := hrg0.1 1826 13 1 _ .int rfl rfl
              exact ⟨⟨(-1), rfl, by omega, by omega, (Or.inr ⟨(by omega : (5 : Int) ≠ 0), (BD_mk hR (fr_o (fr_o (fr_o (fr_rf [35, 36, 40] [] H) (by decide)) (by decide)) (by decide)) (by decide) (by decide) (by decide : (5 : Int) ≠ 0) rfl rfl (rch_st hq (by show stTerm Y (me e t) (H.1 1826 41) (1 - h) (SK e H ++ K) X = _; unfold stTerm stApp stVar miss; (repeat (first | rw [if_pos (by omega)] | rw [if_neg (by omega)])); try (first | rfl | (exfalso; omega)))))⟩)⟩, (fr_o (fr_o (fr_o (fr_rf _ _ _) (by decide)) (by decide)) (by decide)), (by omega : (H.1 1826 30) ≤ (H.1 1826 30) ∧ (H.1 1826 30) ≤ (H.1 1826 29)), (by omega : 0 ≤ (5 : Int) ∧ (5 : Int) ≤ 5), (by omega : 0 ≤ (H.1 1826 32) ∧ (H.1 1826 32) ≤ 1000), (by omega : (5 : Int) = 0 → (H.1 1826 31) = 0 ∨ (H.1 1826 30) < (H.1 1826 30)), (by omega : ((H.1 1826 44) ≠ 2 → (H.1 1826 39) = (H.1 1826 39)) ∧ (H.1 1826 39) ≤ (H.1 1826 39)), (fun (q : (5 : Int) = 0) => absurd q (by omega))⟩
          · refine h_run 2 (pc' := 165) (l' := [(0, .inr (.inr 1826)), (1, .inl t), (2, .inl h), (3, .inl (-1)), (4, .inl (-1))]) (st' := [.inl 2, .inr (.inr 1826)]) rfl ?_
            refine h_cv (i := 278) (j := 159) (b := 1826) (M' := mt_159) (xs := [.inl 2]) (rest := []) rfl rfl rfl rfl rfl rfl (Nat.le_of_ble_eq_true rfl) (Nat.le_of_ble_eq_true rfl) (by omega) (m_bad0 (by omega) (by omega) (by omega : (H.1 1826 35) = 0)) ?_
            rintro _ _ ⟨rfl, rfl⟩
            refine h_run 0 (pc' := 168) (l' := [(0, .inr (.inr 1826)), (1, .inl t), (2, .inl h), (3, .inl (-1)), (4, .inl (-1))]) (st' := []) rfl ?_
            refine h_run 1 (pc' := 169) (l' := [(0, .inr (.inr 1826)), (1, .inl t), (2, .inl h), (3, .inl (-1)), (4, .inl (-1))]) (st' := [.inr (.inr 1826)]) rfl ?_
            refine h_cv (i := 293) (j := 158) (b := 1826) (M' := mt_158) (xs := []) (rest := []) rfl rfl rfl rfl rfl rfl (Nat.le_of_ble_eq_true rfl) (Nat.le_of_ble_eq_true rfl) (by omega) (m_good0 (by omega) (by omega : (2 : Int) ≠ 0)) ?_
            rintro _ _ ⟨rfl, rfl⟩
            refine h_run 0 (pc' := 172) (l' := [(0, .inr (.inr 1826)), (1, .inl t), (2, .inl h), (3, .inl (-1)), (4, .inl (-1))]) (st' := [.inl 0]) rfl ?_
            refine h_zeq (off := 25) (t := 197) rfl rfl (by decide) (fun _ => ?_) (fun c => absurd c (by decide))
            refine h_run 1 (pc' := 198) (l' := [(0, .inr (.inr 1826)), (1, .inl t), (2, .inl h), (3, .inl (-1)), (4, .inl (-1))]) (st' := [.inr (.inr 1826)]) rfl ?_
            refine h_cv (i := 293) (j := 158) (b := 1826) (M' := mt_158) (xs := []) (rest := []) rfl rfl rfl rfl rfl rfl (Nat.le_of_ble_eq_true rfl) (Nat.le_of_ble_eq_true rfl) (by omega) (m_good0 (by omega) (by omega : (2 : Int) ≠ 0)) ?_
            rintro _ _ ⟨rfl, rfl⟩
            refine h_run 0 (pc' := 201) (l' := [(0, .inr (.inr 1826)), (1, .inl t), (2, .inl h), (3, .inl (-1)), (4, .inl (-1))]) (st' := [.inl 0]) rfl ?_
            refine h_zeq (off := 23) (t := 224) rfl rfl (by decide) (fun _ => ?_) (fun c => absurd c (by decide))
            refine h_run 1 (pc' := 225) (l' := [(0, .inr (.inr 1826)), (1, .inl t), (2, .inl h), (3, .inl (-1)), (4, .inl (-1))]) (st' := [.inr (.inr 1826)]) rfl ?_
            have g316 : -2147483648 ≤ (H.1 1826 40) ∧ (H.1 1826 40) ≤ 2147483647 := hrg0.1 1826 13 40 _ .int rfl rfl
            refine h_cv (i := 344) (j := 168) (b := 1826) (M' := mt_168) (xs := []) (rest := []) rfl rfl rfl rfl rfl rfl (Nat.le_of_ble_eq_true rfl) (Nat.le_of_ble_eq_true rfl) (by omega) (m_countC (by omega) (by omega : (2 : Int) ≠ 0) (by omega : 0 ≤ (H.1 1826 40) ∧ (H.1 1826 40) ≤ 1000)) ?_
            rintro _ _ ⟨rfl, rfl⟩
            refine h_run 0 (pc' := 228) (l' := [(0, .inr (.inr 1826)), (1, .inl t), (2, .inl h), (3, .inl (-1)), (4, .inl (-1))]) (st' := []) rfl ?_
            refine h_run 1 (pc' := 229) (l' := [(0, .inr (.inr 1826)), (1, .inl t), (2, .inl h), (3, .inl (-1)), (4, .inl (-1))]) (st' := [.inr (.inr 1826)]) rfl ?_
            refine h_cv (i := 293) (j := 158) (b := 1826) (M' := mt_158) (xs := []) (rest := []) rfl rfl rfl rfl rfl rfl (Nat.le_of_ble_eq_true rfl) (Nat.le_of_ble_eq_true rfl) (by omega) (m_good0 (by omega) (by omega : (2 : Int) ≠ 0)) ?_
            rintro _ _ ⟨rfl, rfl⟩
            refine h_run 0 (pc' := 232) (l' := [(0, .inr (.inr 1826)), (1, .inl t), (2, .inl h), (3, .inl (-1)), (4, .inl (-1))]) (st' := [.inl 0]) rfl ?_
            refine h_zne (off := 5) (t := 237) rfl rfl (by decide) (fun c => absurd c (by decide)) (fun _ => ?_)
            refine h_run 1 (pc' := 236) (l' := [(0, .inr (.inr 1826)), (1, .inl t), (2, .inl h), (3, .inl (-1)), (4, .inl (-1))]) (st' := [.inl (-1)]) rfl ?_
            refine h_reti (x := (-1)) rfl rfl ?_
            have g317 : -2147483648 ≤ (H.1 1826 30) ∧ (H.1 1826 30) ≤ 2147483647 := hrg0.1 1826 13 30 _ .int rfl rfl
            have g318 : -2147483648 ≤ (H.1 1826 32) ∧ (H.1 1826 32) ≤ 2147483647 := hrg0.1 1826 13 32 _ .int rfl rfl
            have g319 : -2147483648 ≤ (H.1 1826 29) ∧ (H.1 1826 29) ≤ 2147483647 := hrg0.1 1826 13 29 _ .int rfl rfl
            have g320 : -2147483648 ≤ (H.1 1826 31) ∧ (H.1 1826 31) ≤ 2147483647 := hrg0.1 1826 13 31 _ .int rfl rfl
            have g321 : -2147483648 ≤ (H.1 1826 1) ∧ (H.1 1826 1) ≤ 2147483647 := hrg0.1 1826 13 1 _ .int rfl rfl
            exact ⟨⟨(-1), rfl, by omega, by omega, (Or.inr ⟨(by omega : (2 : Int) ≠ 0), (BD_mk hR (fr_o (fr_o (fr_o (fr_rf [35, 36, 40] [] H) (by decide)) (by decide)) (by decide)) (by decide) (by decide) (by decide : (2 : Int) ≠ 0) rfl rfl (rch_st hq (by show stTerm Y (me e t) (H.1 1826 41) (1 - h) (SK e H ++ K) X = _; unfold stTerm stApp stVar miss; (repeat (first | rw [if_pos (by omega)] | rw [if_neg (by omega)])); try (first | rfl | (exfalso; omega)))))⟩)⟩, (fr_o (fr_o (fr_o (fr_rf _ _ _) (by decide)) (by decide)) (by decide)), (by omega : (H.1 1826 30) ≤ (H.1 1826 30) ∧ (H.1 1826 30) ≤ (H.1 1826 29)), (by omega : 0 ≤ (2 : Int) ∧ (2 : Int) ≤ 5), (by omega : 0 ≤ (H.1 1826 32) ∧ (H.1 1826 32) ≤ 1000), (by omega : (2 : Int) = 0 → (H.1 1826 31) = 0 ∨ (H.1 1826 30) < (H.1 1826 30)), (by omega : ((H.1 1826 44) ≠ 2 → (H.1 1826 39) = (H.1 1826 39)) ∧ (H.1 1826 39) ≤ (H.1 1826 39)), (fun (q : (2 : Int) = 0) => absurd q (by omega))⟩
        · refine h_run 2 (pc' := 141) (l' := [(0, .inr (.inr 1826)), (1, .inl t), (2, .inl h), (3, .inl (-1)), (4, .inl (-1))]) (st' := [.inl (-1), .inl (-1)]) rfl ?_
          refine h_ine (off := 10) (t := 151) rfl rfl (by decide) (by decide) (fun c => absurd c (by decide)) (fun _ => ?_)
          replace hvr : hid _ := hvr
          refine h_run 2 (pc' := 146) (l' := [(0, .inr (.inr 1826)), (1, .inl t), (2, .inl h), (3, .inl (-1)), (4, .inl (-1))]) (st' := [.inl 3, .inr (.inr 1826)]) rfl ?_
          have g322 : -2147483648 ≤ (H.1 1826 35) ∧ (H.1 1826 35) ≤ 2147483647 := hrg0.1 1826 13 35 _ .int rfl rfl
          refine h_cv (i := 278) (j := 159) (b := 1826) (M' := mt_159) (xs := [.inl 3]) (rest := []) rfl rfl rfl rfl rfl rfl (Nat.le_of_ble_eq_true rfl) (Nat.le_of_ble_eq_true rfl) (by omega) (m_bad0 (by omega) (by omega) (by omega : (H.1 1826 35) = 0)) ?_
          rintro _ _ ⟨rfl, rfl⟩
          refine h_run 0 (pc' := 149) (l' := [(0, .inr (.inr 1826)), (1, .inl t), (2, .inl h), (3, .inl (-1)), (4, .inl (-1))]) (st' := []) rfl ?_
          refine h_run 1 (pc' := 150) (l' := [(0, .inr (.inr 1826)), (1, .inl t), (2, .inl h), (3, .inl (-1)), (4, .inl (-1))]) (st' := [.inl (-1)]) rfl ?_
          refine h_reti (x := (-1)) rfl rfl ?_
          have g323 : -2147483648 ≤ (H.1 1826 30) ∧ (H.1 1826 30) ≤ 2147483647 := hrg0.1 1826 13 30 _ .int rfl rfl
          have g324 : -2147483648 ≤ (H.1 1826 32) ∧ (H.1 1826 32) ≤ 2147483647 := hrg0.1 1826 13 32 _ .int rfl rfl
          have g325 : -2147483648 ≤ (H.1 1826 29) ∧ (H.1 1826 29) ≤ 2147483647 := hrg0.1 1826 13 29 _ .int rfl rfl
          have g326 : -2147483648 ≤ (H.1 1826 31) ∧ (H.1 1826 31) ≤ 2147483647 := hrg0.1 1826 13 31 _ .int rfl rfl
          have g327 : -2147483648 ≤ (H.1 1826 1) ∧ (H.1 1826 1) ≤ 2147483647 := hrg0.1 1826 13 1 _ .int rfl rfl
          exact ⟨⟨(-1), rfl, by omega, by omega, (Or.inr ⟨(by omega : (3 : Int) ≠ 0), (BD_mk hR (fr_o (fr_o (fr_rf [35, 36] [] H) (by decide)) (by decide)) (by decide) (by decide) (by decide : (3 : Int) ≠ 0) rfl rfl (rch_st hq (by show stTerm Y (me e t) (H.1 1826 41) (1 - h) (SK e H ++ K) X = _; unfold stTerm stApp stVar miss; (repeat (first | rw [if_pos (by omega)] | rw [if_neg (by omega)])); try (first | rfl | (exfalso; omega)))))⟩)⟩, (fr_o (fr_o (fr_rf _ _ _) (by decide)) (by decide)), (by omega : (H.1 1826 30) ≤ (H.1 1826 30) ∧ (H.1 1826 30) ≤ (H.1 1826 29)), (by omega : 0 ≤ (3 : Int) ∧ (3 : Int) ≤ 5), (by omega : 0 ≤ (H.1 1826 32) ∧ (H.1 1826 32) ≤ 1000), (by omega : (3 : Int) = 0 → (H.1 1826 31) = 0 ∨ (H.1 1826 30) < (H.1 1826 30)), (by omega : ((H.1 1826 44) ≠ 2 → (H.1 1826 39) = (H.1 1826 39)) ∧ (H.1 1826 39) ≤ (H.1 1826 39)), (fun (q : (3 : Int) = 0) => absurd q (by omega))⟩
