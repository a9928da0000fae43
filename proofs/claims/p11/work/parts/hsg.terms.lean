/-! small values are closed terms; sides filled with them are -/
theorem ga_tm_app {ar : Int → Int} {ok : Int → Prop} {v w : List Int} {n m : Nat} (h : tm ar ok (ga v) v.length 0 n) (g : tm ar ok (ga w) w.length 0 m) : tm ar ok (ga (v ++ w)) (v ++ w).length 0 (n + m) := by
  rw [List.length_append]
  refine tm_app (tm_at h (fun x hx => by rw [Nat.zero_add]; exact ga_app_l hx)) ?_
  rw [Nat.zero_add]
  exact tm_at g (fun x hx => by rw [ga_app_r (by omega), Nat.add_sub_cancel_left, Nat.zero_add])
theorem tuL_tm {ar : Int → Int} {ok : Int → Prop} {W : vtb} {ag : Nat → Int} {a : Nat} (hW : ∀ i t v, v ∈ W i t → tm ar ok (ga v) v.length 0 1) : ∀ {j n : Nat} {w : List Int}, w ∈ tuL W ag a j n → tm ar ok (ga w) w.length 0 j
  | 0, n, w, h => by
    have h : w ∈ (if n = 0 then [[]] else [] : vls) := h
    split at h
    · rw [List.mem_singleton.mp h]
      exact rfl
    · cases h
  | j + 1, n, w, h => by
    obtain ⟨i, hi, h⟩ := fmN_mem h
    obtain ⟨v, hv, h⟩ := fmL_mem h
    obtain ⟨w1, h1, h2⟩ := List.mem_map.mp h
    rw [← h2, Nat.add_comm]
    exact ga_tm_app (hW _ _ _ hv) (tuL_tm hW h1)
theorem ga_tm_con {ar : Int → Int} {ok : Int → Prop} {s : Int} {w : List Int} {q : Nat} (hs : ok s) (ha : ar s = (q : Int)) (hq : q ≤ 4) (h : tm ar ok (ga w) w.length 0 q) : tm ar ok (ga (s :: w)) (s :: w).length 0 1 := by
  rw [List.length_cons]
  refine ⟨by decide, hs, q, ha, hq, ?_⟩
  rw [show 1 - 1 + q = q by omega]
  exact tm_at h (fun x hx => by rw [show 0 + 1 + x = x + 1 by omega, Nat.zero_add]; rfl)
theorem vlv_tm {ar : Int → Int} {X : rx} {al : Bool} {cn fn : Int} (hc : cn = X 0 4) (har : ∀ c : Nat, (c : Int) < X 0 4 → ar (1 + (c : Int)) = X 4 c) (ha0 : ar 0 = 0) (hX : ∀ c : Nat, (c : Int) < X 0 4 → 0 ≤ X 4 c ∧ X 4 c ≤ 3) : ∀ {N i : Nat} {t : Int} {v : List Int}, v ∈ vlv X al N i t → tm ar (m_sg cn fn 0) (ga v) v.length 0 1
  | 0, _, _, v, h => absurd (show v ∈ ([] : vls) from h) List.not_mem_nil
  | N + 1, i, t, v, h => by
    have h : v ∈ (if i = N + 1 then vB9 X al (vlv X al N) (N + 1) t else vlv X al N i t) := h
    split at h
    · have h : v ∈ vU al (N + 1) ++ fmN (vcL (vlv X al N) X t (N + 1)) (nC9 X) := h
      rcases List.mem_append.mp h with h | h
      · unfold vU at h
        split at h
        · rw [List.mem_singleton.mp h]
          exact ⟨by decide, Or.inl rfl, 0, ha0, by decide, rfl⟩
        · cases h
      · obtain ⟨c, hc9, h⟩ := fmN_mem h
        have hc8 : (c : Int) < X 0 4 := by
          unfold nC9 at hc9
          omega
        unfold vcL at h
        split at h
        · obtain ⟨w, h1, h2⟩ := List.mem_map.mp h
          have h3 := tuL_tm (fun i t v hv => vlv_tm (fn := fn) hc har ha0 hX (N := N) hv) h1
          have h4 := hX c hc8
          rw [← h2]
          refine ga_tm_con (q := aQ9 X c) (Or.inr (Or.inl ⟨by omega, by omega⟩)) ?_ ?_ h3
          · rw [har c hc8]
            unfold aQ9
            omega
          · unfold aQ9
            omega
        · cases h
    · exact vlv_tm hc har ha0 hX h
/-- the k-th value of a list, as a row -/
def vAt (L : vls) (k : Nat) : List Int := L.getD k []
theorem vAt_of {L : vls} {k : Nat} {v : List Int} (h : L[k]? = some v) : vAt L k = v := by
  unfold vAt
  rw [List.getD_eq_getElem?_getD, h]
  rfl
theorem vAt_mem {L : vls} {k : Nat} (h : k < L.length) : vAt L k ∈ L := by
  rw [vAt_of (List.getElem?_eq_getElem h)]
  exact List.getElem_mem h
theorem vL_mem {X : rx} {al : Bool} {t : Int} {n : Nat} {v : List Int} (h : v ∈ vL X al t n) : ∃ i, 1 ≤ i ∧ i ≤ n ∧ v ∈ vv X al i t := by
  obtain ⟨i, h1, h2⟩ := fmN_mem h
  exact ⟨i + 1, by omega, by omega, h2⟩
/-- a side of k signs, its first y filled -/
theorem fil_tp {ar : Int → Int} {cn fn : Int} {a : Nat → Int} {vs : Nat → List Int} {k : Nat} (hT : tm ar (m_sg cn fn 40) a k 0 1) (har : ∀ s, 1000 ≤ s → ar s = 0) (hv : ∀ x, x < k → 1000 ≤ a x → tm ar (m_sg cn fn 0) (ga (vs (a x - 1000).toNat)) (vs (a x - 1000).toNat).length 0 1) : ∀ {y : Nat}, y ≤ k → ∃ mm : Nat, tp ar (m_sg cn fn 0) (ga (fil a vs y)) (fil a vs y).length 0 1 mm ∧ tm ar (m_sg cn fn 40) a (k - y) y mm
  | 0, _ => ⟨1, rfl, hT⟩
  | y + 1, hy => by
    obtain ⟨mm, g1, g2⟩ := fil_tp hT har hv (y := y) (by omega)
    rw [show k - y = (k - (y + 1)) + 1 by omega] at g2
    obtain ⟨h1, h2, q, h3, h4, h5⟩ := g2
    refine ⟨mm - 1 + q, ?_, h5⟩
    rw [show fil a vs (y + 1) = fil a vs y ++ (if 1000 ≤ a y then vs (a y - 1000).toNat else [a y]) from rfl]
    by_cases qv : 1000 ≤ a y
    · rw [if_pos qv]
      rw [har _ qv] at h3
      rw [List.length_append, show mm - 1 + q = mm - 1 by omega]
      refine tp_term (tp_at (a := ga (fil a vs y)) (by rw [show mm - 1 + 1 = mm by omega]; exact g1) (fun x hx => ga_app_l hx)) ?_
      rw [Nat.zero_add]
      exact tm_at (hv y (by omega) qv) (fun x hx => by rw [ga_app_r (by omega), Nat.add_sub_cancel_left, Nat.zero_add])
    · rw [if_neg qv, List.length_append]
      refine tp_snoc (tp_at (a := ga (fil a vs y)) (by rw [show mm - 1 + 1 = mm by omega]; exact g1) (fun x hx => ga_app_l hx)) ?_ ?_ h4
      · rw [Nat.zero_add, ga_app_r (Nat.le_refl _), Nat.sub_self, ga_one]
        unfold m_sg at h2 ⊢
        omega
      · rw [Nat.zero_add, ga_app_r (Nat.le_refl _), Nat.sub_self, ga_one]
        exact h3
theorem fil_tm {ar : Int → Int} {cn fn : Int} {a : Nat → Int} {vs : Nat → List Int} {k : Nat} (hT : tm ar (m_sg cn fn 40) a k 0 1) (har : ∀ s, 1000 ≤ s → ar s = 0) (hv : ∀ x, x < k → 1000 ≤ a x → tm ar (m_sg cn fn 0) (ga (vs (a x - 1000).toNat)) (vs (a x - 1000).toNat).length 0 1) : tm ar (m_sg cn fn 0) (ga (fil a vs k)) (fil a vs k).length 0 1 := by
  obtain ⟨mm, g1, g2⟩ := fil_tp hT har hv (Nat.le_refl k)
  rw [Nat.sub_self] at g2
  have g2 : mm = 0 := g2
  subst g2
  exact tp_tm g1
theorem fil_ln {a : Nat → Int} {vs : Nat → List Int} (hv : ∀ v, (vs v).length ≤ 6) : ∀ k : Nat, (fil a vs k).length ≤ 6 * k
  | 0 => Nat.le_refl _
  | k + 1 => by
    have h := fil_ln (a := a) hv k
    rw [show fil a vs (k + 1) = fil a vs k ++ (if 1000 ≤ a k then vs (a k - 1000).toNat else [a k]) from rfl, List.length_append]
    have h2 : (if 1000 ≤ a k then vs (a k - 1000).toNat else [a k]).length ≤ 6 := by
      split
      · exact hv _
      · show 1 ≤ 6
        decide
    omega
/-- rows -/
def tot9 (X : rx) (al : Bool) (ty : Nat → Int) (n v : Nat) : Nat := (vL X al (ty v) n).length
def rwV (X : rx) (al : Bool) (ty : Nat → Int) (nv n r v : Nat) : List Int := vAt (vL X al (ty v) n) (dgt (tot9 X al ty n) nv r v)
def rwO (ar : Int → Int) (X : rx) (al : Bool) (l : Nat) (ty : Nat → Int) (nv n r : Nat) : Int := if (evF ar X 300 (fil (fun k => X (4 * l + 102) (k + 1)) (rwV X al ty nv n r) (X (4 * l + 102) 0).toNat) 0).1 = 0 ∧ (evF ar X 300 (fil (fun k => X (4 * l + 103) (k + 1)) (rwV X al ty nv n r) (X (4 * l + 103) 0).toNat) 0).1 = 0 then (if (evF ar X 300 (fil (fun k => X (4 * l + 102) (k + 1)) (rwV X al ty nv n r) (X (4 * l + 102) 0).toNat) 0).2.2 = (evF ar X 300 (fil (fun k => X (4 * l + 103) (k + 1)) (rwV X al ty nv n r) (X (4 * l + 103) 0).toNat) 0).2.2 then 0 else 1) else 2
def nRw (X : rx) (al : Bool) (ty : Nat → Int) (nv n : Nat) : Nat := prN (tot9 X al ty n) nv
/-- a law is tried: what it comes to, and the row that is told -/
def tst9 (ar : Int → Int) (X : rx) (al : Bool) (l : Nat) (ty : Nat → Int) (nv n : Nat) : Int × Nat := if 2000 < nRw X al ty nv n then (-105, 0) else tsO (rwO ar X al l ty nv n) (nRw X al ty nv n)
