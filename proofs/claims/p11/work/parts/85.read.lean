/-! the reference reads patterns -/
/-- a fact that omega is not to look at -/
def hid (p : Prop) : Prop := p
/-- k signs from i on turn n terms that are wanted into m -/
def tp (ar : Int → Int) (ok : Int → Prop) (a : Nat → Int) : Nat → Nat → Nat → Nat → Prop
  | 0, _, n, m => n = m
  | k + 1, i, n, m => n ≠ 0 ∧ ok (a i) ∧ ∃ q : Nat, ar (a i) = q ∧ q ≤ 4 ∧ tp ar ok a k (i + 1) (n - 1 + q) m
theorem tp_tm {ar : Int → Int} {ok : Int → Prop} {a : Nat → Int} : ∀ {k i n : Nat}, tp ar ok a k i n 0 → tm ar ok a k i n
  | 0, _, _, h => h
  | _ + 1, _, _, ⟨h1, h2, q, h3, h4, h5⟩ => ⟨h1, h2, q, h3, h4, tp_tm h5⟩
theorem tp_snoc {ar : Int → Int} {ok : Int → Prop} {a : Nat → Int} : ∀ {k i n m q : Nat}, tp ar ok a k i n (m + 1) → ok (a (i + k)) → ar (a (i + k)) = q → q ≤ 4 → tp ar ok a (k + 1) i n (m + q)
  | 0, i, n, m, q, h, h1, h2, h3 => by
    have h : n = m + 1 := h
    subst h
    exact ⟨by omega, h1, q, h2, h3, by show m + 1 - 1 + q = m + q; omega⟩
  | k + 1, i, n, m, q, ⟨g1, g2, r, g3, g4, g5⟩, h1, h2, h3 => by
    rw [show i + (k + 1) = i + 1 + k by omega] at h1 h2
    exact ⟨g1, g2, r, g3, g4, tp_snoc g5 h1 h2 h3⟩
theorem tp_mono {ar ar' : Int → Int} {ok ok' : Int → Prop} {a b : Nat → Int} : ∀ {k i n m : Nat}, tp ar ok a k i n m → (∀ j, i ≤ j → j < i + k → ok (a j) → b j = a j ∧ ok' (a j) ∧ ar' (a j) = ar (a j)) → tp ar' ok' b k i n m
  | 0, _, _, _, h, _ => h
  | k + 1, i, n, m, h, g => by
    obtain ⟨h0, h1, q, h2, h3, h4⟩ := h
    obtain ⟨e1, e2, e3⟩ := g i (Nat.le_refl _) (by omega) h1
    exact ⟨h0, by rw [e1]; exact e2, q, by rw [e1, e3]; exact h2, h3, tp_mono h4 (fun j hj hj2 => g j (by omega) (by omega))⟩
/-- how many arguments are still wanted by the names that stand open -/
def pend (ar : Int → Int) (ou no : Nat → Int) : Nat → Int
  | 0 => 0
  | n + 1 => pend ar ou no n + (ar (ou n) - no n)
theorem pend_eq {ar : Int → Int} {ou no ou' no' : Nat → Int} : ∀ {n : Nat}, (∀ i, i < n → ou' i = ou i ∧ no' i = no i) → pend ar ou' no' n = pend ar ou no n
  | 0, _ => rfl
  | n + 1, h => by
    show pend ar ou' no' n + (ar (ou' n) - no' n) = pend ar ou no n + (ar (ou n) - no n)
    rw [pend_eq (fun i hi => h i (by omega)), (h n (by omega)).1, (h n (by omega)).2]
theorem pend_nn {ar : Int → Int} {ou no : Nat → Int} : ∀ {n : Nat}, (∀ i, i < n → no i ≤ ar (ou i)) → 0 ≤ pend ar ou no n
  | 0, _ => Int.le_refl _
  | n + 1, h => by
    have h1 := pend_nn (fun i hi => h i (by omega) : ∀ i, i < n → no i ≤ ar (ou i))
    have h2 := h n (by omega)
    show 0 ≤ pend ar ou no n + (ar (ou n) - no n)
    omega
/-- a pattern is being read: n names stand open -/
def PT (H : hp) (f n : Nat) : Prop := ((H.1 1826 47) = n ∧ 1 ≤ n ∧ n ≤ 11 ∧ (H.1 1826 41) + 1 = n) ∧ ((H.1 1826 40) ≤ 40 ∧ (H.1 1826 43) + 1 = (H.1 1826 40) ∧ 0 ≤ (H.1 1826 43) ∧ 0 ≤ (H.1 1826 39) ∧ (H.1 1826 39) + 1 ≤ (H.1 1826 40)) ∧ (∀ i, i < n → ((1 ≤ (H.1 1852) i ∧ (H.1 1852) i ≤ (H.1 1826 3)) ∨ (100 ≤ (H.1 1852) i ∧ (H.1 1852) i < 100 + (H.1 1826 8))) ∧ 0 ≤ (H.1 1853) i ∧ (H.1 1853) i ≤ ma (H.1 1833) (H.1 1830) ((H.1 1852) i)) ∧ (∃ m q k : Nat, (m : Int) = pend (ma (H.1 1833) (H.1 1830)) (H.1 1852) (H.1 1853) n ∧ (H.1 1833) f = q ∧ (H.1 1826 43) = k ∧ tp (ma (H.1 1833) (H.1 1830)) (m_sp (H.1 1826 3)) (H.1 1851) k 0 q m) ∧ ∀ v : Nat, (v : Int) < (H.1 1826 39) → ∃ y : Nat, (y : Int) < (H.1 1826 43) ∧ (H.1 1851) y = 1000 + v
theorem PT_fr {ob ar : List Nat} {H K : hp} {f n : Nat} (h : PT H f n) (g : fr ob ar H K) (h1 : ∀ c ∈ [1830, 1833, 1851, 1852, 1853], c ∉ ar) (h2 : ∀ j ∈ [3, 8, 39, 40, 41, 43, 47], j ∉ ob) : PT K f n := by
  have e : ∀ c ∈ [1830, 1833, 1851, 1852, 1853], c ≠ 1826 → K.1 c = H.1 c := fun c hc hn => g.2.1 c hn (h1 c hc)
  have e2 : ∀ j ∈ [3, 8, 39, 40, 41, 43, 47], K.1 1826 j = H.1 1826 j := fun j hj => g.2.2 j (h2 j hj)
  unfold PT
  rw [e 1830 (by decide) (by decide), e 1833 (by decide) (by decide), e 1851 (by decide) (by decide), e 1852 (by decide) (by decide), e 1853 (by decide) (by decide), e2 3 (by decide), e2 8 (by decide), e2 39 (by decide), e2 40 (by decide), e2 41 (by decide), e2 43 (by decide), e2 47 (by decide)]
  exact h
/-- one more sign; the name that stands open has one argument more; brk: it stands open itself -/
theorem PT_step {H K : hp} {f n q : Nat} {s : Int} (h : PT H f n) (hs : m_sp (H.1 1826 3) s) (hq : ma (H.1 1833) (H.1 1830) s = q) (hq4 : q ≤ 4) (hnow : (H.1 1853) (n - 1) < ma (H.1 1833) (H.1 1830) ((H.1 1852) (n - 1))) (eA : (K.1 1833) = (H.1 1833)) (eC : (K.1 1830) = (H.1 1830)) (en : (K.1 1826 3) = (H.1 1826 3) ∧ (K.1 1826 8) = (H.1 1826 8)) (hnm : (H.1 1826 40) ≤ 39) (e1 : (K.1 1826 40) = (H.1 1826 40) + 1 ∧ (K.1 1826 43) = (H.1 1826 43) + 1) (e3 : (K.1 1851) = up (H.1 1851) ((H.1 1826 43)).toNat s) (ev : (K.1 1826 39) = (H.1 1826 39) ∨ ((K.1 1826 39) = (H.1 1826 39) + 1 ∧ s = 1000 + (H.1 1826 39)))
    (b : (q = 0 ∧ (K.1 1826 47) = (H.1 1826 47) ∧ (K.1 1826 41) = (H.1 1826 41) ∧ (K.1 1852) = (H.1 1852) ∧ (K.1 1853) = up (H.1 1853) (n - 1) ((H.1 1853) (n - 1) + 1)) ∨ (1 ≤ s ∧ s ≤ (H.1 1826 3) ∧ n ≤ 10 ∧ (K.1 1826 47) = (H.1 1826 47) + 1 ∧ (K.1 1826 41) = (H.1 1826 41) + 1 ∧ (K.1 1852) = up (H.1 1852) n s ∧ (K.1 1853) = up (up (H.1 1853) (n - 1) ((H.1 1853) (n - 1) + 1)) n 0)) : ∃ n', PT K f n' := by
  obtain ⟨⟨a1, a2, a3, a4⟩, ⟨b1, b2, b3, b4, b5⟩, c1, ⟨m, q0, k, d1, d2, d3, d4⟩, x1⟩ := h
  obtain ⟨n, rfl⟩ : ∃ n0, n = n0 + 1 := ⟨n - 1, by omega⟩
  rw [Nat.add_sub_cancel] at hnow b
  have hk : ((H.1 1826 43)).toNat = k := by omega
  rw [hk] at e3
  have hpn : 0 ≤ pend (ma (H.1 1833) (H.1 1830)) (H.1 1852) (H.1 1853) n := pend_nn (fun i hi => (c1 i (by omega)).2.2)
  have hp : pend (ma (H.1 1833) (H.1 1830)) (H.1 1852) (H.1 1853) (n + 1) = pend (ma (H.1 1833) (H.1 1830)) (H.1 1852) (H.1 1853) n + (ma (H.1 1833) (H.1 1830) ((H.1 1852) n) - (H.1 1853) n) := rfl
  obtain ⟨m, rfl⟩ : ∃ m0, m = m0 + 1 := ⟨m - 1, by omega⟩
  have ht : tp (ma (H.1 1833) (H.1 1830)) (m_sp (H.1 1826 3)) (K.1 1851) (k + 1) 0 q0 (m + q) := by
    refine tp_snoc (tp_mono d4 (fun j _ hj ho => ⟨?_, ho, rfl⟩)) ?_ ?_ hq4
    · rw [e3, up_ne _ _ (by omega)]
    · rw [e3, Nat.zero_add, up_eq]
      exact hs
    · rw [e3, Nat.zero_add, up_eq]
      exact hq
  have hv : ∀ v : Nat, (v : Int) < (K.1 1826 39) → ∃ y : Nat, (y : Int) < (K.1 1826 43) ∧ (K.1 1851) y = 1000 + v := by
    intro v hv
    by_cases hv2 : (v : Int) < (H.1 1826 39)
    · obtain ⟨y, hy, e⟩ := x1 v hv2
      exact ⟨y, by omega, by rw [e3, up_ne _ _ (by omega)]; exact e⟩
    · refine ⟨k, by omega, ?_⟩
      rw [e3, up_eq]
      omega
  rcases b with ⟨k1, k2, k3, k4, k5⟩ | ⟨k0, k1, k2, k3, k4, k5, k6⟩
  · refine ⟨n + 1, ⟨by omega, by omega, by omega, by omega⟩, ⟨by omega, by omega, by omega, by omega, by omega⟩, fun i hi => ?_, ⟨m + q, q0, k + 1, ?_, by rw [eA]; exact d2, by omega, by rw [eA, eC, en.1]; exact ht⟩, hv⟩
    · obtain ⟨y1, y2, y3⟩ := c1 i hi
      rw [eA, eC, k4, k5, en.1, en.2]
      by_cases e : i = n
      · subst e
        rw [up_eq]
        exact ⟨y1, by omega, by omega⟩
      · rw [up_ne _ _ e]
        exact ⟨y1, y2, y3⟩
    · rw [eA, eC, k4, k5]
      show _ = pend (ma (H.1 1833) (H.1 1830)) (H.1 1852) (up (H.1 1853) n ((H.1 1853) n + 1)) n + (ma (H.1 1833) (H.1 1830) ((H.1 1852) n) - up (H.1 1853) n ((H.1 1853) n + 1) n)
      rw [pend_eq (ou := (H.1 1852)) (no := (H.1 1853)) (fun i hi => ⟨rfl, up_ne _ _ (by omega)⟩), up_eq]
      omega
  · refine ⟨n + 2, ⟨by omega, by omega, by omega, by omega⟩, ⟨by omega, by omega, by omega, by omega, by omega⟩, fun i hi => ?_, ⟨m + q, q0, k + 1, ?_, by rw [eA]; exact d2, by omega, by rw [eA, eC, en.1]; exact ht⟩, hv⟩
    · rw [eA, eC, k5, k6, en.1, en.2]
      by_cases e : i = n + 1
      · subst e
        rw [up_eq, up_eq, hq]
        exact ⟨Or.inl ⟨k0, k1⟩, by omega, by omega⟩
      · obtain ⟨y1, y2, y3⟩ := c1 i (by omega)
        rw [up_ne _ _ e, up_ne _ _ e]
        by_cases e2 : i = n
        · subst e2
          rw [up_eq]
          exact ⟨y1, by omega, by omega⟩
        · rw [up_ne _ _ e2]
          exact ⟨y1, y2, y3⟩
    · rw [eA, eC, k5, k6]
      show _ = (pend (ma (H.1 1833) (H.1 1830)) (up (H.1 1852) (n + 1) s) (up (up (H.1 1853) n ((H.1 1853) n + 1)) (n + 1) 0) n + (ma (H.1 1833) (H.1 1830) (up (H.1 1852) (n + 1) s n) - up (up (H.1 1853) n ((H.1 1853) n + 1)) (n + 1) 0 n)) + (ma (H.1 1833) (H.1 1830) (up (H.1 1852) (n + 1) s (n + 1)) - up (up (H.1 1853) n ((H.1 1853) n + 1)) (n + 1) 0 (n + 1))
      rw [pend_eq (ou := (H.1 1852)) (no := (H.1 1853)) (fun i hi => ⟨up_ne _ _ (by omega), by rw [up_ne _ _ (by omega), up_ne _ _ (by omega)]⟩), up_eq, up_eq, hq, up_ne _ _ (by omega), up_ne _ _ (by omega), up_eq]
      omega
/-- a ) -/
theorem PT_shut {H K : hp} {f n : Nat} (h : PT H f n) (h2 : 2 ≤ n) (hnow : ma (H.1 1833) (H.1 1830) ((H.1 1852) (n - 1)) ≤ (H.1 1853) (n - 1)) (eA : (K.1 1833) = (H.1 1833)) (eC : (K.1 1830) = (H.1 1830)) (en : (K.1 1826 3) = (H.1 1826 3) ∧ (K.1 1826 8) = (H.1 1826 8)) (e1 : (K.1 1826 40) = (H.1 1826 40) ∧ (K.1 1826 43) = (H.1 1826 43) ∧ (K.1 1826 39) = (H.1 1826 39)) (e3 : (K.1 1851) = (H.1 1851)) (e4 : (K.1 1826 47) = (H.1 1826 47) - 1 ∧ (K.1 1826 41) = (H.1 1826 41) - 1) (e5 : (K.1 1852) = (H.1 1852)) (e6 : (K.1 1853) = (H.1 1853)) : PT K f (n - 1) := by
  obtain ⟨⟨a1, a2, a3, a4⟩, ⟨b1, b2, b3, b4, b5⟩, c1, ⟨m, q0, k, d1, d2, d3, d4⟩, x1⟩ := h
  obtain ⟨n, rfl⟩ : ∃ n0, n = n0 + 1 := ⟨n - 1, by omega⟩
  rw [Nat.add_sub_cancel] at hnow ⊢
  have hp : pend (ma (H.1 1833) (H.1 1830)) (H.1 1852) (H.1 1853) (n + 1) = pend (ma (H.1 1833) (H.1 1830)) (H.1 1852) (H.1 1853) n + (ma (H.1 1833) (H.1 1830) ((H.1 1852) n) - (H.1 1853) n) := rfl
  have hc := (c1 n (by omega)).2.2
  refine ⟨⟨by omega, by omega, by omega, by omega⟩, ⟨by omega, by omega, by omega, by omega, by omega⟩, fun i hi => ?_, ⟨m, q0, k, ?_, by rw [eA]; exact d2, by omega, by rw [eA, eC, en.1, e3]; exact d4⟩, fun v hv => ?_⟩
  · rw [eA, eC, e5, e6, en.1, en.2]
    exact c1 i (by omega)
  · rw [eA, eC, e5, e6]
    omega
  · rw [e3, e1.2.1]
    exact x1 v (by omega)
/-- the end of the patterns -/
theorem PT_end {H : hp} {f n : Nat} (h : PT H f n) (h1 : n = 1) (hnow : ma (H.1 1833) (H.1 1830) ((H.1 1852) 0) ≤ (H.1 1853) 0) : ∃ k q : Nat, (H.1 1826 43) = k ∧ k ≤ 39 ∧ (H.1 1833) f = q ∧ tm (ma (H.1 1833) (H.1 1830)) (m_sp (H.1 1826 3)) (H.1 1851) k 0 q ∧ (0 ≤ (H.1 1826 39) ∧ (H.1 1826 39) ≤ 39) ∧ ∀ v : Nat, (v : Int) < (H.1 1826 39) → ∃ y : Nat, y < k ∧ (H.1 1851) y = 1000 + v := by
  subst h1
  obtain ⟨⟨a1, a2, a3, a4⟩, ⟨b1, b2, b3, b4, b5⟩, c1, ⟨m, q0, k, d1, d2, d3, d4⟩, x1⟩ := h
  have hp : pend (ma (H.1 1833) (H.1 1830)) (H.1 1852) (H.1 1853) 1 = 0 + (ma (H.1 1833) (H.1 1830) ((H.1 1852) 0) - (H.1 1853) 0) := rfl
  have hc := (c1 0 (by omega)).2.2
  have hm : m = 0 := by omega
  subst hm
  refine ⟨k, q0, d3, by omega, d2, tp_tm d4, by omega, fun v hv => ?_⟩
  obtain ⟨y, hy, e⟩ := x1 v hv
  exact ⟨y, by omega, e⟩

theorem sg_ar {H : hp} (hP : PWc H) {s : Int} (hs : (1 ≤ s ∧ s ≤ (H.1 1826 3)) ∨ (100 ≤ s ∧ s < 100 + (H.1 1826 8))) : (0 ≤ ma (H.1 1833) (H.1 1830) s ∧ ma (H.1 1833) (H.1 1830) s ≤ 4) ∧ (s ≤ 16 → ma (H.1 1833) (H.1 1830) s ≤ 3) ∧ ((1 ≤ s ∧ s ≤ 16) ∨ (100 ≤ s ∧ s ≤ 115)) := by
  obtain ⟨⟨pb1, pb2, pb3, pb4, pb5⟩, pw1, pw2, -, -⟩ := hP
  rcases hs with h | h
  · have := (pw1 (s - 1).toNat (by omega)).1
    rw [ma_c (by omega)]
    omega
  · have := (pw2 (s - 100).toNat (by omega)).1
    rw [ma_f (by omega)]
    omega
theorem sg_ty {H : hp} (hP : PWc H) {s i : Int} (hs : (1 ≤ s ∧ s ≤ (H.1 1826 3)) ∨ (100 ≤ s ∧ s < 100 + (H.1 1826 8))) (hi : 0 ≤ i) (h2 : i < ma (H.1 1833) (H.1 1830) s) : 0 ≤ aty H s i ∧ aty H s i < (H.1 1826 1) := by
  obtain ⟨⟨pb1, pb2, pb3, pb4, pb5⟩, pw1, pw2, -, -⟩ := hP
  unfold aty
  rcases hs with h | h
  · rw [ma_c (by omega)] at h2
    have := (pw1 (s - 1).toNat (by omega)).2.2 i.toNat (by omega)
    rw [if_neg (by omega), show (3 * (s - 1) + i).toNat = 3 * (s - 1).toNat + i.toNat by omega]
    exact this
  · rw [ma_f (by omega)] at h2
    have := (pw2 (s - 100).toNat (by omega)).2.2 i.toNat (by omega)
    rw [if_pos (by omega), show (4 * (s - 100) + i).toNat = 4 * (s - 100).toNat + i.toNat by omega]
    exact this
theorem PT_start {K : hp} {f : Nat} (hP : PWc K) (hf : (f : Int) < (K.1 1826 8)) (h1 : (K.1 1826 47) = 1 ∧ (K.1 1826 41) = 0) (h2 : (K.1 1826 40) = 1 ∧ (K.1 1826 43) = 0 ∧ (K.1 1826 39) = 0) (h3 : (K.1 1852) 0 = 100 + f) (h4 : (K.1 1853) 0 = 0) : PT K f 1 := by
  have hs : (1 ≤ (K.1 1852) 0 ∧ (K.1 1852) 0 ≤ (K.1 1826 3)) ∨ (100 ≤ (K.1 1852) 0 ∧ (K.1 1852) 0 < 100 + (K.1 1826 8)) := by omega
  obtain ⟨a1, a2, a3⟩ := sg_ar hP hs
  have e : ma (K.1 1833) (K.1 1830) ((K.1 1852) 0) = (K.1 1833) f := by
    rw [h3, ma_f (by omega), show ((100 : Int) + f - 100).toNat = f by omega]
  refine ⟨by omega, by omega, fun i hi => ?_, ⟨((K.1 1833) f).toNat, ((K.1 1833) f).toNat, 0, ?_, by omega, by omega, rfl⟩, fun v hv => absurd hv (by omega)⟩
  · have hi : i = 0 := by omega
    subst hi
    exact ⟨hs, by omega, by omega⟩
  · show _ = 0 + (ma (K.1 1833) (K.1 1830) ((K.1 1852) 0) - (K.1 1853) 0)
    omega

/-! wanted -/
set_option maxRecDepth 100000 in
theorem m_wanted {zC : Nat → Option zsh} {d : Nat} (hd : 2 ≤ d) {H : hp}  (hn : 1 ≤ (H.1 1826 47) ∧ (H.1 1826 47) ≤ 64) (hP : PWc H) (hs : (1 ≤ ((H.1 1852) ((H.1 1826 47) - 1).toNat) ∧ ((H.1 1852) ((H.1 1826 47) - 1).toNat) ≤ (H.1 1826 3)) ∨ (100 ≤ ((H.1 1852) ((H.1 1826 47) - 1).toNat) ∧ ((H.1 1852) ((H.1 1826 47) - 1).toNat) < 100 + (H.1 1826 8))) (hi : 0 ≤ ((H.1 1853) ((H.1 1826 47) - 1).toNat)) : hG (zs zC) d mt_174 0 (zargs 0 [.inr (.inr 1826)]) [] H (fun r H2 => ((r = some (.inl (-1)) ∧ ma (H.1 1833) (H.1 1830) ((H.1 1852) ((H.1 1826 47) - 1).toNat) ≤ ((H.1 1853) ((H.1 1826 47) - 1).toNat)) ∨ (r = some (.inl (aty H ((H.1 1852) ((H.1 1826 47) - 1).toNat) ((H.1 1853) ((H.1 1826 47) - 1).toNat))) ∧ ((H.1 1853) ((H.1 1826 47) - 1).toNat) < ma (H.1 1833) (H.1 1830) ((H.1 1852) ((H.1 1826 47) - 1).toNat) ∧ 0 ≤ aty H ((H.1 1852) ((H.1 1826 47) - 1).toNat) ((H.1 1853) ((H.1 1826 47) - 1).toNat) ∧ aty H ((H.1 1852) ((H.1 1826 47) - 1).toNat) ((H.1 1853) ((H.1 1826 47) - 1).toNat) < (H.1 1826 1))) ∧ H = H2) := by
  refine h_rng (fun hrg0 => ?_)
  refine h_run 0 (pc' := 0) (l' := [(0, .inr (.inr 1826))]) (st' := []) rfl ?_
  obtain ⟨pa1, pa2, pa3⟩ := sg_ar hP hs
  refine h_run 4 (pc' := 8) (l' := [(0, .inr (.inr 1826))]) (st' := [.inl (H.1 1826 47), .inr (.inr 1852)]) rfl ?_
  have g1 : -2147483648 ≤ (H.1 1826 47) ∧ (H.1 1826 47) ≤ 2147483647 := hrg0.1 1826 13 47 _ .int rfl rfl
  refine h_run 2 (pc' := 10) (l' := [(0, .inr (.inr 1826))]) (st' := [.inl ((H.1 1826 47) - 1), .inr (.inr 1852)]) rfl ?_
  refine h_ild (c := 1852) (j := (((H.1 1826 47) - 1)).toNat) (i := ((H.1 1826 47) - 1)) rfl rfl (by decide) (by omega) (by omega) ?_
  have g2 : -2147483648 ≤ (H.1 1852 (((H.1 1826 47) - 1)).toNat) ∧ (H.1 1852 (((H.1 1826 47) - 1)).toNat) ≤ 2147483647 := hrg0.2 1852 (((H.1 1826 47) - 1)).toNat 64 .int rfl (by omega)
  refine h_run 0 (pc' := 11) (l' := [(0, .inr (.inr 1826))]) (st' := [.inl (H.1 1852 (((H.1 1826 47) - 1)).toNat)]) rfl ?_
  refine h_run 5 (pc' := 20) (l' := [(0, .inr (.inr 1826)), (1, .inl (H.1 1852 (((H.1 1826 47) - 1)).toNat))]) (st' := [.inl (H.1 1826 47), .inr (.inr 1853)]) rfl ?_
  refine h_run 2 (pc' := 22) (l' := [(0, .inr (.inr 1826)), (1, .inl (H.1 1852 (((H.1 1826 47) - 1)).toNat))]) (st' := [.inl ((H.1 1826 47) - 1), .inr (.inr 1853)]) rfl ?_
  refine h_ild (c := 1853) (j := (((H.1 1826 47) - 1)).toNat) (i := ((H.1 1826 47) - 1)) rfl rfl (by decide) (by omega) (by omega) ?_
  have g3 : -2147483648 ≤ (H.1 1853 (((H.1 1826 47) - 1)).toNat) ∧ (H.1 1853 (((H.1 1826 47) - 1)).toNat) ≤ 2147483647 := hrg0.2 1853 (((H.1 1826 47) - 1)).toNat 64 .int rfl (by omega)
  refine h_run 0 (pc' := 23) (l' := [(0, .inr (.inr 1826)), (1, .inl (H.1 1852 (((H.1 1826 47) - 1)).toNat))]) (st' := [.inl (H.1 1853 (((H.1 1826 47) - 1)).toNat)]) rfl ?_
  refine h_run 4 (pc' := 27) (l' := [(0, .inr (.inr 1826)), (1, .inl (H.1 1852 (((H.1 1826 47) - 1)).toNat)), (2, .inl (H.1 1853 (((H.1 1826 47) - 1)).toNat))]) (st' := [.inl (H.1 1852 (((H.1 1826 47) - 1)).toNat), .inr (.inr 1826), .inl (H.1 1853 (((H.1 1826 47) - 1)).toNat)]) rfl ?_
  refine h_cv (i := 244) (j := 154) (b := 1826) (M' := mt_154) (xs := [.inl (H.1 1852 (((H.1 1826 47) - 1)).toNat)]) (rest := [.inl (H.1 1853 (((H.1 1826 47) - 1)).toNat)]) rfl rfl rfl rfl rfl rfl (Nat.le_of_ble_eq_true rfl) (Nat.le_of_ble_eq_true rfl) (by omega) (m_arity (by omega) (by unfold sg0; omega)) ?_
  rintro _ _ ⟨rfl, rfl⟩
  refine h_run 0 (pc' := 30) (l' := [(0, .inr (.inr 1826)), (1, .inl (H.1 1852 (((H.1 1826 47) - 1)).toNat)), (2, .inl (H.1 1853 (((H.1 1826 47) - 1)).toNat))]) (st' := [.inl (ma (H.1 1833) (H.1 1830) (H.1 1852 (((H.1 1826 47) - 1)).toNat)), .inl (H.1 1853 (((H.1 1826 47) - 1)).toNat)]) rfl ?_
  refine h_ilt (off := 5) (t := 35) rfl rfl (by omega) (by omega) (fun c4 => ?_) (fun c4 => ?_)
  · refine h_run 3 (pc' := 38) (l' := [(0, .inr (.inr 1826)), (1, .inl (H.1 1852 (((H.1 1826 47) - 1)).toNat)), (2, .inl (H.1 1853 (((H.1 1826 47) - 1)).toNat))]) (st' := [.inl (H.1 1853 (((H.1 1826 47) - 1)).toNat), .inl (H.1 1852 (((H.1 1826 47) - 1)).toNat), .inr (.inr 1826)]) rfl ?_
    have hty := sg_ty hP hs hi (by omega)
    refine h_cv (i := 331) (j := 175) (b := 1826) (M' := mt_175) (xs := [.inl (H.1 1853 (((H.1 1826 47) - 1)).toNat), .inl (H.1 1852 (((H.1 1826 47) - 1)).toNat)]) (rest := []) rfl rfl rfl rfl rfl rfl (Nat.le_of_ble_eq_true rfl) (Nat.le_of_ble_eq_true rfl) (by omega) (m_argType (by omega) (by omega)) ?_
    rintro _ _ ⟨rfl, rfl⟩
    refine h_run 0 (pc' := 41) (l' := [(0, .inr (.inr 1826)), (1, .inl (H.1 1852 (((H.1 1826 47) - 1)).toNat)), (2, .inl (H.1 1853 (((H.1 1826 47) - 1)).toNat))]) (st' := [.inl (aty H (H.1 1852 (((H.1 1826 47) - 1)).toNat) (H.1 1853 (((H.1 1826 47) - 1)).toNat))]) rfl ?_
    refine h_reti (x := (aty H (H.1 1852 (((H.1 1826 47) - 1)).toNat) (H.1 1853 (((H.1 1826 47) - 1)).toNat))) rfl rfl ?_
    exact ⟨Or.inr ⟨rfl, by omega, hty⟩, rfl⟩
  · refine h_run 1 (pc' := 34) (l' := [(0, .inr (.inr 1826)), (1, .inl (H.1 1852 (((H.1 1826 47) - 1)).toNat)), (2, .inl (H.1 1853 (((H.1 1826 47) - 1)).toNat))]) (st' := [.inl (-1)]) rfl ?_
    refine h_reti (x := (-1)) rfl rfl ?_
    exact ⟨Or.inl ⟨rfl, by omega⟩, rfl⟩

/-! patternCon -/
set_option maxRecDepth 100000 in
theorem m_patCon0 {zC : Nat → Option zsh} {d : Nat} (hd : 5 ≤ d) {H : hp} {t : Int} (h0 : 0 ≤ (H.1 1826 30) ∧ (H.1 1826 30) ≤ (H.1 1826 29) ∧ (H.1 1826 29) ≤ 1000) (hw : 0 ≤ (H.1 1826 35) ∧ (H.1 1826 35) ≤ 5) (hst : 0 ≤ (H.1 1826 32) ∧ (H.1 1826 32) ≤ 1000) (hP : PWc H) (hn : 1 ≤ (H.1 1826 47) ∧ (H.1 1826 47) ≤ 63) (hnm : 0 ≤ (H.1 1826 40) ∧ (H.1 1826 40) ≤ 999) (hr : 0 ≤ (H.1 1826 43) ∧ (H.1 1826 43) ≤ 46) (ho : 0 ≤ (H.1 1853) ((H.1 1826 47) - 1).toNat ∧ (H.1 1853) ((H.1 1826 47) - 1).toNat ≤ 1000) (ht : -2147483648 ≤ t ∧ t ≤ 2147483647) : hG (zs zC) d mt_179 0 (zargs 0 [.inr (.inr 1826), .inl t, .inl 0]) [] H (fun r H2 => r = none ∧ fr [30, 31, 32, 33, 35, 36, 40, 43, 47] [1851, 1852, 1853] H H2 ∧ ((H.1 1826 30) ≤ (H2.1 1826 30) ∧ (H2.1 1826 30) ≤ (H.1 1826 29)) ∧ (0 ≤ (H2.1 1826 35) ∧ (H2.1 1826 35) ≤ 5) ∧ ((H.1 1826 35) ≠ 0 → (H2.1 1826 35) ≠ 0) ∧ (0 ≤ (H2.1 1826 32) ∧ (H2.1 1826 32) ≤ 1000) ∧ (0 ≤ (H2.1 1826 40) ∧ (H2.1 1826 40) ≤ (H.1 1826 40) + 1) ∧ ((H2.1 1826 35) = 0 → (H2.1 1826 31) = 0 ∨ (H.1 1826 30) < (H2.1 1826 30)) ∧ hid ((H2.1 1826 35) = 0 → ∃ c : Nat, (c : Int) < (H.1 1826 3) ∧ (H.1 1830) c ≤ 0 ∧ (H.1 1826 40) ≠ 40 ∧ ((H2.1 1826 40) = (H.1 1826 40) + 1 ∧ (H2.1 1826 43) = (H.1 1826 43) + 1 ∧ (H2.1 1826 47) = (H.1 1826 47)) ∧ (H2.1 1851) = up (H.1 1851) ((H.1 1826 43)).toNat (1 + (c : Int)) ∧ (H2.1 1852) = (H.1 1852) ∧ (H2.1 1853) = up (H.1 1853) ((H.1 1826 47) - 1).toNat ((H.1 1853) ((H.1 1826 47) - 1).toNat + 1))) := by
  refine h_rng (fun hrg0 => ?_)
  refine h_run 0 (pc' := 0) (l' := [(0, .inr (.inr 1826)), (1, .inl t), (2, .inl 0)]) (st' := []) rfl ?_
  obtain ⟨⟨pb1, pb2, pb3, pb4, pb5⟩, pw1, pw2, pw3, pw4⟩ := (id hP : PW H (H.1 1826 1) (H.1 1826 3) (H.1 1826 8) (H.1 1826 13) (H.1 1826 19))
  refine h_run 1 (pc' := 1) (l' := [(0, .inr (.inr 1826)), (1, .inl t), (2, .inl 0)]) (st' := [.inr (.inr 1826)]) rfl ?_
  have g1 : -2147483648 ≤ (H.1 1826 35) ∧ (H.1 1826 35) ≤ 2147483647 := hrg0.1 1826 13 35 _ .int rfl rfl
  refine h_cv (i := 293) (j := 158) (b := 1826) (M' := mt_158) (xs := []) (rest := []) rfl rfl rfl rfl rfl rfl (Nat.le_of_ble_eq_true rfl) (Nat.le_of_ble_eq_true rfl) (by omega) (m_good (by omega)) ?_
  rintro _ _ ⟨⟨rfl, b2⟩ | ⟨rfl, b2⟩, rfl⟩
  · have b2x : (H.1 1826 35) = 0 := b2
    refine h_run 0 (pc' := 4) (l' := [(0, .inr (.inr 1826)), (1, .inl t), (2, .inl 0)]) (st' := [.inl 1]) rfl ?_
    refine h_zeq (off := 21) (t := 25) rfl rfl (by decide) (fun c => absurd c (by decide)) (fun _ => ?_)
    refine h_run 4 (pc' := 15) (l' := [(0, .inr (.inr 1826)), (1, .inl t), (2, .inl 0)]) (st' := [.inl (H.1 1826 3), .inr (.inr 1828)]) rfl ?_
    have g3 : -2147483648 ≤ (H.1 1826 3) ∧ (H.1 1826 3) ≤ 2147483647 := hrg0.1 1826 13 3 _ .int rfl rfl
    refine h_run 2 (pc' := 19) (l' := [(0, .inr (.inr 1826)), (1, .inl t), (2, .inl 0)]) (st' := [.inr (.inl (H.1 1826 33)), .inl (H.1 1826 3), .inr (.inr 1828)]) rfl ?_
    have g4 : -9223372036854775808 ≤ (H.1 1826 33) ∧ (H.1 1826 33) ≤ 9223372036854775807 := hrg0.1 1826 13 33 _ .long rfl rfl
    refine h_cs (i := 309) (j := 167) (M' := mt_167) (xs := [.inr (.inl (H.1 1826 33)), .inl (H.1 1826 3), .inr (.inr 1828)]) (rest := []) rfl rfl rfl rfl rfl (Nat.le_of_ble_eq_true rfl) (Nat.le_of_ble_eq_true rfl) (by omega) (m_find (by omega) (m := 16) rfl (by omega : 0 ≤ (H.1 1826 3) ∧ (H.1 1826 3) ≤ ((16 : Nat) : Int) ∧ 16 ≤ 100) (by omega)) ?_
    rintro _ _ ⟨⟨k5, rfl, f6, f6x⟩ | ⟨rfl, f6⟩, rfl⟩
    · refine h_run 0 (pc' := 22) (l' := [(0, .inr (.inr 1826)), (1, .inl t), (2, .inl 0)]) (st' := [.inl (k5 : Int)]) rfl ?_
      refine h_run 3 (pc' := 28) (l' := [(0, .inr (.inr 1826)), (1, .inl t), (2, .inl 0), (3, .inl (k5 : Int))]) (st' := [.inr (.inr 1826)]) rfl ?_
      refine h_cv (i := 293) (j := 158) (b := 1826) (M' := mt_158) (xs := []) (rest := []) rfl rfl rfl rfl rfl rfl (Nat.le_of_ble_eq_true rfl) (Nat.le_of_ble_eq_true rfl) (by omega) (m_good1 (by omega) (by omega : (H.1 1826 35) = 0)) ?_
      rintro _ _ ⟨rfl, rfl⟩
      refine h_run 0 (pc' := 31) (l' := [(0, .inr (.inr 1826)), (1, .inl t), (2, .inl 0), (3, .inl (k5 : Int))]) (st' := [.inl 1]) rfl ?_
      refine h_zeq (off := 13) (t := 44) rfl rfl (by decide) (fun c => absurd c (by decide)) (fun _ => ?_)
      refine h_run 2 (pc' := 36) (l' := [(0, .inr (.inr 1826)), (1, .inl t), (2, .inl 0), (3, .inl (k5 : Int))]) (st' := [.inl (-1), .inl (k5 : Int)]) rfl ?_
      refine h_ine (off := 8) (t := 44) rfl rfl (by omega) (by decide) (fun c7 => ?_) (fun c7 => ?_)
      · refine h_run 1 (pc' := 45) (l' := [(0, .inr (.inr 1826)), (1, .inl t), (2, .inl 0), (3, .inl (k5 : Int))]) (st' := [.inr (.inr 1826)]) rfl ?_
        refine h_cv (i := 293) (j := 158) (b := 1826) (M' := mt_158) (xs := []) (rest := []) rfl rfl rfl rfl rfl rfl (Nat.le_of_ble_eq_true rfl) (Nat.le_of_ble_eq_true rfl) (by omega) (m_good1 (by omega) (by omega : (H.1 1826 35) = 0)) ?_
        rintro _ _ ⟨rfl, rfl⟩
        refine h_run 0 (pc' := 48) (l' := [(0, .inr (.inr 1826)), (1, .inl t), (2, .inl 0), (3, .inl (k5 : Int))]) (st' := [.inl 1]) rfl ?_
        refine h_zeq (off := 21) (t := 69) rfl rfl (by decide) (fun c => absurd c (by decide)) (fun _ => ?_)
        refine h_run 1 (pc' := 52) (l' := [(0, .inr (.inr 1826)), (1, .inl t), (2, .inl 0), (3, .inl (k5 : Int))]) (st' := [.inl 0]) rfl ?_
        refine h_zne (off := 17) (t := 69) rfl rfl (by decide) (fun c => absurd c (by decide)) (fun _ => ?_)
        refine h_run 3 (pc' := 60) (l' := [(0, .inr (.inr 1826)), (1, .inl t), (2, .inl 0), (3, .inl (k5 : Int))]) (st' := [.inl (k5 : Int), .inr (.inr 1830)]) rfl ?_
        refine h_ild (c := 1830) (j := k5) (i := (k5 : Int)) rfl rfl (by decide) rfl (by omega) ?_
        have g8 : -2147483648 ≤ (H.1 1830 k5) ∧ (H.1 1830 k5) ≤ 2147483647 := hrg0.2 1830 k5 16 .int rfl (by omega)
        refine h_run 0 (pc' := 61) (l' := [(0, .inr (.inr 1826)), (1, .inl t), (2, .inl 0), (3, .inl (k5 : Int))]) (st' := [.inl (H.1 1830 k5)]) rfl ?_
        refine h_zle (off := 8) (t := 69) rfl rfl (by omega) (fun c9 => ?_) (fun c9 => ?_)
        · refine h_run 1 (pc' := 70) (l' := [(0, .inr (.inr 1826)), (1, .inl t), (2, .inl 0), (3, .inl (k5 : Int))]) (st' := [.inr (.inr 1826)]) rfl ?_
          refine h_cv (i := 293) (j := 158) (b := 1826) (M' := mt_158) (xs := []) (rest := []) rfl rfl rfl rfl rfl rfl (Nat.le_of_ble_eq_true rfl) (Nat.le_of_ble_eq_true rfl) (by omega) (m_good1 (by omega) (by omega : (H.1 1826 35) = 0)) ?_
          rintro _ _ ⟨rfl, rfl⟩
          refine h_run 0 (pc' := 73) (l' := [(0, .inr (.inr 1826)), (1, .inl t), (2, .inl 0), (3, .inl (k5 : Int))]) (st' := [.inl 1]) rfl ?_
          refine h_zeq (off := 18) (t := 91) rfl rfl (by decide) (fun c => absurd c (by decide)) (fun _ => ?_)
          refine h_run 3 (pc' := 81) (l' := [(0, .inr (.inr 1826)), (1, .inl t), (2, .inl 0), (3, .inl (k5 : Int))]) (st' := [.inl (k5 : Int), .inr (.inr 1829)]) rfl ?_
          refine h_ild (c := 1829) (j := k5) (i := (k5 : Int)) rfl rfl (by decide) rfl (by omega) ?_
          have g10 : -2147483648 ≤ (H.1 1829 k5) ∧ (H.1 1829 k5) ≤ 2147483647 := hrg0.2 1829 k5 16 .int rfl (by omega)
          refine h_run 0 (pc' := 82) (l' := [(0, .inr (.inr 1826)), (1, .inl t), (2, .inl 0), (3, .inl (k5 : Int))]) (st' := [.inl (H.1 1829 k5)]) rfl ?_
          refine h_run 1 (pc' := 83) (l' := [(0, .inr (.inr 1826)), (1, .inl t), (2, .inl 0), (3, .inl (k5 : Int))]) (st' := [.inl t, .inl (H.1 1829 k5)]) rfl ?_
          refine h_ieq (off := 8) (t := 91) rfl rfl (by omega) (by omega) (fun c11 => ?_) (fun c11 => ?_)
          · refine h_run 1 (pc' := 92) (l' := [(0, .inr (.inr 1826)), (1, .inl t), (2, .inl 0), (3, .inl (k5 : Int))]) (st' := [.inr (.inr 1826)]) rfl ?_
            have g12 : -2147483648 ≤ (H.1 1826 40) ∧ (H.1 1826 40) ≤ 2147483647 := hrg0.1 1826 13 40 _ .int rfl rfl
            by_cases b13 : (H.1 1826 40) = 40
            · refine h_cv (i := 344) (j := 168) (b := 1826) (M' := mt_168) (xs := []) (rest := []) rfl rfl rfl rfl rfl rfl (Nat.le_of_ble_eq_true rfl) (Nat.le_of_ble_eq_true rfl) (by omega) (m_countB (by omega) (by omega : (H.1 1826 35) = 0) (by omega : (H.1 1826 40) = 40)) ?_
              rintro _ _ ⟨rfl, rfl⟩
              refine h_run 0 (pc' := 95) (l' := [(0, .inr (.inr 1826)), (1, .inl t), (2, .inl 0), (3, .inl (k5 : Int))]) (st' := []) rfl ?_
              refine h_run 1 (pc' := 96) (l' := [(0, .inr (.inr 1826)), (1, .inl t), (2, .inl 0), (3, .inl (k5 : Int))]) (st' := [.inr (.inr 1826)]) rfl ?_
              refine h_cv (i := 293) (j := 158) (b := 1826) (M' := mt_158) (xs := []) (rest := []) rfl rfl rfl rfl rfl rfl (Nat.le_of_ble_eq_true rfl) (Nat.le_of_ble_eq_true rfl) (by omega) (m_good0 (by omega) (by omega : (5 : Int) ≠ 0)) ?_
              rintro _ _ ⟨rfl, rfl⟩
              refine h_run 0 (pc' := 99) (l' := [(0, .inr (.inr 1826)), (1, .inl t), (2, .inl 0), (3, .inl (k5 : Int))]) (st' := [.inl 0]) rfl ?_
              refine h_zne (off := 4) (t := 103) rfl rfl (by decide) (fun c => absurd c (by decide)) (fun _ => ?_)
              refine h_ret rfl rfl ?_
              have g14 : -2147483648 ≤ (H.1 1826 30) ∧ (H.1 1826 30) ≤ 2147483647 := hrg0.1 1826 13 30 _ .int rfl rfl
              have g15 : -2147483648 ≤ (H.1 1826 32) ∧ (H.1 1826 32) ≤ 2147483647 := hrg0.1 1826 13 32 _ .int rfl rfl
              have g16 : -2147483648 ≤ (H.1 1826 29) ∧ (H.1 1826 29) ≤ 2147483647 := hrg0.1 1826 13 29 _ .int rfl rfl
              have g17 : -2147483648 ≤ (H.1 1826 31) ∧ (H.1 1826 31) ≤ 2147483647 := hrg0.1 1826 13 31 _ .int rfl rfl
              have g18 : -2147483648 ≤ (H.1 1826 43) ∧ (H.1 1826 43) ≤ 2147483647 := hrg0.1 1826 13 43 _ .int rfl rfl
              have g19 : -2147483648 ≤ (H.1 1826 47) ∧ (H.1 1826 47) ≤ 2147483647 := hrg0.1 1826 13 47 _ .int rfl rfl
              exact ⟨rfl, (fr_o (fr_o (fr_o (fr_rf _ _ _) (by decide)) (by decide)) (by decide)), (by omega : (H.1 1826 30) ≤ (H.1 1826 30) ∧ (H.1 1826 30) ≤ (H.1 1826 29)), (by omega : 0 ≤ (5 : Int) ∧ (5 : Int) ≤ 5), (by omega : (H.1 1826 35) ≠ 0 → (5 : Int) ≠ 0), (by omega : 0 ≤ (H.1 1826 32) ∧ (H.1 1826 32) ≤ 1000), (by omega : 0 ≤ ((H.1 1826 40) + 1) ∧ ((H.1 1826 40) + 1) ≤ (H.1 1826 40) + 1), (by omega : (5 : Int) = 0 → (H.1 1826 31) = 0 ∨ (H.1 1826 30) < (H.1 1826 30)), (fun (q : (5 : Int) = 0) => absurd q (by omega))⟩
            · refine h_cv (i := 344) (j := 168) (b := 1826) (M' := mt_168) (xs := []) (rest := []) rfl rfl rfl rfl rfl rfl (Nat.le_of_ble_eq_true rfl) (Nat.le_of_ble_eq_true rfl) (by omega) (m_countA (by omega) (by omega : (H.1 1826 35) = 0) (by omega : 0 ≤ (H.1 1826 40) ∧ (H.1 1826 40) ≤ 1000) (by omega : (H.1 1826 40) ≠ 40)) ?_
              rintro _ _ ⟨rfl, rfl⟩
              refine h_run 0 (pc' := 95) (l' := [(0, .inr (.inr 1826)), (1, .inl t), (2, .inl 0), (3, .inl (k5 : Int))]) (st' := []) rfl ?_
              refine h_run 1 (pc' := 96) (l' := [(0, .inr (.inr 1826)), (1, .inl t), (2, .inl 0), (3, .inl (k5 : Int))]) (st' := [.inr (.inr 1826)]) rfl ?_
              refine h_cv (i := 293) (j := 158) (b := 1826) (M' := mt_158) (xs := []) (rest := []) rfl rfl rfl rfl rfl rfl (Nat.le_of_ble_eq_true rfl) (Nat.le_of_ble_eq_true rfl) (by omega) (m_good1 (by omega) (by omega : (H.1 1826 35) = 0)) ?_
              rintro _ _ ⟨rfl, rfl⟩
              refine h_run 0 (pc' := 99) (l' := [(0, .inr (.inr 1826)), (1, .inl t), (2, .inl 0), (3, .inl (k5 : Int))]) (st' := [.inl 1]) rfl ?_
              refine h_zne (off := 4) (t := 103) rfl rfl (by decide) (fun _ => ?_) (fun c => absurd c (by decide))
              refine h_run 4 (pc' := 107) (l' := [(0, .inr (.inr 1826)), (1, .inl t), (2, .inl 0), (3, .inl (k5 : Int))]) (st' := [.inl (1 + (k5 : Int)), .inr (.inr 1826)]) rfl ?_
              have g20 : -2147483648 ≤ (H.1 1826 43) ∧ (H.1 1826 43) ≤ 2147483647 := hrg0.1 1826 13 43 _ .int rfl rfl
              refine h_cv (i := 350) (j := 169) (b := 1826) (M' := mt_169) (xs := [.inl (1 + (k5 : Int))]) (rest := []) rfl rfl rfl rfl rfl rfl (Nat.le_of_ble_eq_true rfl) (Nat.le_of_ble_eq_true rfl) (by omega) (m_put1 (by omega) (by omega : (H.1 1826 35) = 0) (by omega : 0 ≤ (H.1 1826 43) ∧ (H.1 1826 43) ≤ 47) (by omega)) ?_
              rintro _ _ ⟨rfl, rfl⟩
              refine h_run 0 (pc' := 110) (l' := [(0, .inr (.inr 1826)), (1, .inl t), (2, .inl 0), (3, .inl (k5 : Int))]) (st' := []) rfl ?_
              refine h_run 4 (pc' := 118) (l' := [(0, .inr (.inr 1826)), (1, .inl t), (2, .inl 0), (3, .inl (k5 : Int))]) (st' := [.inl (H.1 1826 47), .inr (.inr 1853)]) rfl ?_
              have g21 : -2147483648 ≤ (H.1 1826 47) ∧ (H.1 1826 47) ≤ 2147483647 := hrg0.1 1826 13 47 _ .int rfl rfl
              refine h_run 3 (pc' := 121) (l' := [(0, .inr (.inr 1826)), (1, .inl t), (2, .inl 0), (3, .inl (k5 : Int))]) (st' := [.inl ((H.1 1826 47) - 1), .inr (.inr 1853), .inl ((H.1 1826 47) - 1), .inr (.inr 1853)]) rfl ?_
              refine h_ild (c := 1853) (j := (((H.1 1826 47) - 1)).toNat) (i := ((H.1 1826 47) - 1)) rfl rfl (by decide) (by omega) (by omega) ?_
              have g22 : -2147483648 ≤ (H.1 1853 (((H.1 1826 47) - 1)).toNat) ∧ (H.1 1853 (((H.1 1826 47) - 1)).toNat) ≤ 2147483647 := hrg0.2 1853 (((H.1 1826 47) - 1)).toNat 64 .int rfl (by omega)
              refine h_run 0 (pc' := 122) (l' := [(0, .inr (.inr 1826)), (1, .inl t), (2, .inl 0), (3, .inl (k5 : Int))]) (st' := [.inl (H.1 1853 (((H.1 1826 47) - 1)).toNat), .inl ((H.1 1826 47) - 1), .inr (.inr 1853)]) rfl ?_
              refine h_run 2 (pc' := 124) (l' := [(0, .inr (.inr 1826)), (1, .inl t), (2, .inl 0), (3, .inl (k5 : Int))]) (st' := [.inl ((H.1 1853 (((H.1 1826 47) - 1)).toNat) + 1), .inl ((H.1 1826 47) - 1), .inr (.inr 1853)]) rfl ?_
              refine h_ist (c := 1853) (j := (((H.1 1826 47) - 1)).toNat) (i := ((H.1 1826 47) - 1)) (x := ((H.1 1853 (((H.1 1826 47) - 1)).toNat) + 1)) rfl rfl (by decide) (by decide) (by omega) (by omega) (by omega) ?_
              refine h_run 1 (pc' := 126) (l' := [(0, .inr (.inr 1826)), (1, .inl t), (2, .inl 0), (3, .inl (k5 : Int))]) (st' := [.inl 0]) rfl ?_
              refine h_zeq (off := 35) (t := 161) rfl rfl (by decide) (fun _ => ?_) (fun c => absurd c (by decide))
              refine h_run 1 (pc' := 162) (l' := [(0, .inr (.inr 1826)), (1, .inl t), (2, .inl 0), (3, .inl (k5 : Int))]) (st' := [.inr (.inr 1826)]) rfl ?_
              have g23 : -2147483648 ≤ (H.1 1826 30) ∧ (H.1 1826 30) ≤ 2147483647 := hrg0.1 1826 13 30 _ .int rfl rfl
              have g24 : -2147483648 ≤ (H.1 1826 29) ∧ (H.1 1826 29) ≤ 2147483647 := hrg0.1 1826 13 29 _ .int rfl rfl
              have g25 : -2147483648 ≤ (H.1 1826 32) ∧ (H.1 1826 32) ≤ 2147483647 := hrg0.1 1826 13 32 _ .int rfl rfl
              refine h_cv (i := 297) (j := 165) (b := 1826) (M' := mt_165) (xs := []) (rest := []) rfl rfl rfl rfl rfl rfl (Nat.le_of_ble_eq_true rfl) (Nat.le_of_ble_eq_true rfl) (by omega) (m_next (by omega) (by omega : 0 ≤ (H.1 1826 30) ∧ (H.1 1826 30) ≤ (H.1 1826 29) ∧ (H.1 1826 29) ≤ 1000) (by omega : 0 ≤ (H.1 1826 35) ∧ (H.1 1826 35) ≤ 5) (by omega : 0 ≤ (H.1 1826 32) ∧ (H.1 1826 32) ≤ 1000)) ?_
              rintro _ H26 ⟨rfl, hx26f, hx26a, hx26b, hx26c, -, hx26e, hx26g⟩
              refine h_rng (fun hrg27 => ?_)
              have hf28 : fr [30, 31, 32, 33, 35, 36, 40, 43, 47] [1851, 1852, 1853] H H26 := fr_t (fr_a (fr_o (fr_a (fr_o (fr_rf _ _ _) (by decide)) (by decide)) (by decide)) (by decide)) hx26f (by decide) (by decide)
              replace hx26a : (H.1 1826 30) ≤ (H26.1 1826 30) := hx26a
              replace hx26b : (H26.1 1826 30) ≤ (H.1 1826 29) := hx26b
              replace hx26g : (H26.1 1826 35) = 0 → ((H26.1 1826 31) = 0 ∨ (H.1 1826 30) < (H26.1 1826 30)) := hx26g
              refine h_run 0 (pc' := 165) (l' := [(0, .inr (.inr 1826)), (1, .inl t), (2, .inl 0), (3, .inl (k5 : Int))]) (st' := []) rfl ?_
              refine h_ret rfl rfl ?_
              have g29 : -2147483648 ≤ (H26.1 1826 30) ∧ (H26.1 1826 30) ≤ 2147483647 := hrg27.1 1826 13 30 _ .int rfl rfl
              have g30 : -2147483648 ≤ (H26.1 1826 35) ∧ (H26.1 1826 35) ≤ 2147483647 := hrg27.1 1826 13 35 _ .int rfl rfl
              have g31 : -2147483648 ≤ (H26.1 1826 32) ∧ (H26.1 1826 32) ≤ 2147483647 := hrg27.1 1826 13 32 _ .int rfl rfl
              have g32 : -2147483648 ≤ (H26.1 1826 29) ∧ (H26.1 1826 29) ≤ 2147483647 := hrg27.1 1826 13 29 _ .int rfl rfl
              have e33 : (H26.1 1826 29) = (H.1 1826 29) := hx26f.2.2 29 (by decide)
              have g34 : -2147483648 ≤ (H26.1 1826 40) ∧ (H26.1 1826 40) ≤ 2147483647 := hrg27.1 1826 13 40 _ .int rfl rfl
              have e35 : (H26.1 1826 40) = ((H.1 1826 40) + 1) := hx26f.2.2 40 (by decide)
              have g36 : -2147483648 ≤ (H26.1 1826 31) ∧ (H26.1 1826 31) ≤ 2147483647 := hrg27.1 1826 13 31 _ .int rfl rfl
              have g37 : -2147483648 ≤ (H26.1 1826 43) ∧ (H26.1 1826 43) ≤ 2147483647 := hrg27.1 1826 13 43 _ .int rfl rfl
              have e38 : (H26.1 1826 43) = ((H.1 1826 43) + 1) := hx26f.2.2 43 (by decide)
              have g39 : -2147483648 ≤ (H26.1 1826 47) ∧ (H26.1 1826 47) ≤ 2147483647 := hrg27.1 1826 13 47 _ .int rfl rfl
              have e40 : (H26.1 1826 47) = (H.1 1826 47) := hx26f.2.2 47 (by decide)
              have g41 : -2147483648 ≤ (H26.1 1826 3) ∧ (H26.1 1826 3) ≤ 2147483647 := hrg27.1 1826 13 3 _ .int rfl rfl
              have e42 : (H26.1 1826 3) = (H.1 1826 3) := hx26f.2.2 3 (by decide)
              exact ⟨rfl, hf28, (by omega : (H.1 1826 30) ≤ (H26.1 1826 30) ∧ (H26.1 1826 30) ≤ (H.1 1826 29)), (by omega : 0 ≤ (H26.1 1826 35) ∧ (H26.1 1826 35) ≤ 5), (by omega : (H.1 1826 35) ≠ 0 → (H26.1 1826 35) ≠ 0), (by omega : 0 ≤ (H26.1 1826 32) ∧ (H26.1 1826 32) ≤ 1000), (by omega : 0 ≤ (H26.1 1826 40) ∧ (H26.1 1826 40) ≤ (H.1 1826 40) + 1), (by omega : (H26.1 1826 35) = 0 → (H26.1 1826 31) = 0 ∨ (H.1 1826 30) < (H26.1 1826 30)), fun (q : (H26.1 1826 35) = 0) => ⟨k5, by omega, by omega, by omega, (by omega : (H26.1 1826 40) = (H.1 1826 40) + 1 ∧ (H26.1 1826 43) = (H.1 1826 43) + 1 ∧ (H26.1 1826 47) = (H.1 1826 47)), hx26f.2.1 1851 (by decide) (by decide), hx26f.2.1 1852 (by decide) (by decide), hx26f.2.1 1853 (by decide) (by decide)⟩⟩
          · refine h_run 2 (pc' := 88) (l' := [(0, .inr (.inr 1826)), (1, .inl t), (2, .inl 0), (3, .inl (k5 : Int))]) (st' := [.inl 4, .inr (.inr 1826)]) rfl ?_
            refine h_cv (i := 278) (j := 159) (b := 1826) (M' := mt_159) (xs := [.inl 4]) (rest := []) rfl rfl rfl rfl rfl rfl (Nat.le_of_ble_eq_true rfl) (Nat.le_of_ble_eq_true rfl) (by omega) (m_bad0 (by omega) (by omega) (by omega : (H.1 1826 35) = 0)) ?_
            rintro _ _ ⟨rfl, rfl⟩
            refine h_run 0 (pc' := 91) (l' := [(0, .inr (.inr 1826)), (1, .inl t), (2, .inl 0), (3, .inl (k5 : Int))]) (st' := []) rfl ?_
            refine h_run 1 (pc' := 92) (l' := [(0, .inr (.inr 1826)), (1, .inl t), (2, .inl 0), (3, .inl (k5 : Int))]) (st' := [.inr (.inr 1826)]) rfl ?_
            have g43 : -2147483648 ≤ (H.1 1826 40) ∧ (H.1 1826 40) ≤ 2147483647 := hrg0.1 1826 13 40 _ .int rfl rfl
            refine h_cv (i := 344) (j := 168) (b := 1826) (M' := mt_168) (xs := []) (rest := []) rfl rfl rfl rfl rfl rfl (Nat.le_of_ble_eq_true rfl) (Nat.le_of_ble_eq_true rfl) (by omega) (m_countC (by omega) (by omega : (4 : Int) ≠ 0) (by omega : 0 ≤ (H.1 1826 40) ∧ (H.1 1826 40) ≤ 1000)) ?_
            rintro _ _ ⟨rfl, rfl⟩
            refine h_run 0 (pc' := 95) (l' := [(0, .inr (.inr 1826)), (1, .inl t), (2, .inl 0), (3, .inl (k5 : Int))]) (st' := []) rfl ?_
            refine h_run 1 (pc' := 96) (l' := [(0, .inr (.inr 1826)), (1, .inl t), (2, .inl 0), (3, .inl (k5 : Int))]) (st' := [.inr (.inr 1826)]) rfl ?_
            refine h_cv (i := 293) (j := 158) (b := 1826) (M' := mt_158) (xs := []) (rest := []) rfl rfl rfl rfl rfl rfl (Nat.le_of_ble_eq_true rfl) (Nat.le_of_ble_eq_true rfl) (by omega) (m_good0 (by omega) (by omega : (4 : Int) ≠ 0)) ?_
            rintro _ _ ⟨rfl, rfl⟩
            refine h_run 0 (pc' := 99) (l' := [(0, .inr (.inr 1826)), (1, .inl t), (2, .inl 0), (3, .inl (k5 : Int))]) (st' := [.inl 0]) rfl ?_
            refine h_zne (off := 4) (t := 103) rfl rfl (by decide) (fun c => absurd c (by decide)) (fun _ => ?_)
            refine h_ret rfl rfl ?_
            have g44 : -2147483648 ≤ (H.1 1826 30) ∧ (H.1 1826 30) ≤ 2147483647 := hrg0.1 1826 13 30 _ .int rfl rfl
            have g45 : -2147483648 ≤ (H.1 1826 32) ∧ (H.1 1826 32) ≤ 2147483647 := hrg0.1 1826 13 32 _ .int rfl rfl
            have g46 : -2147483648 ≤ (H.1 1826 29) ∧ (H.1 1826 29) ≤ 2147483647 := hrg0.1 1826 13 29 _ .int rfl rfl
            have g47 : -2147483648 ≤ (H.1 1826 31) ∧ (H.1 1826 31) ≤ 2147483647 := hrg0.1 1826 13 31 _ .int rfl rfl
            have g48 : -2147483648 ≤ (H.1 1826 43) ∧ (H.1 1826 43) ≤ 2147483647 := hrg0.1 1826 13 43 _ .int rfl rfl
            have g49 : -2147483648 ≤ (H.1 1826 47) ∧ (H.1 1826 47) ≤ 2147483647 := hrg0.1 1826 13 47 _ .int rfl rfl
            exact ⟨rfl, (fr_o (fr_o (fr_o (fr_rf _ _ _) (by decide)) (by decide)) (by decide)), (by omega : (H.1 1826 30) ≤ (H.1 1826 30) ∧ (H.1 1826 30) ≤ (H.1 1826 29)), (by omega : 0 ≤ (4 : Int) ∧ (4 : Int) ≤ 5), (by omega : (H.1 1826 35) ≠ 0 → (4 : Int) ≠ 0), (by omega : 0 ≤ (H.1 1826 32) ∧ (H.1 1826 32) ≤ 1000), (by omega : 0 ≤ ((H.1 1826 40) + 1) ∧ ((H.1 1826 40) + 1) ≤ (H.1 1826 40) + 1), (by omega : (4 : Int) = 0 → (H.1 1826 31) = 0 ∨ (H.1 1826 30) < (H.1 1826 30)), (fun (q : (4 : Int) = 0) => absurd q (by omega))⟩
        · refine h_run 2 (pc' := 66) (l' := [(0, .inr (.inr 1826)), (1, .inl t), (2, .inl 0), (3, .inl (k5 : Int))]) (st' := [.inl 2, .inr (.inr 1826)]) rfl ?_
          refine h_cv (i := 278) (j := 159) (b := 1826) (M' := mt_159) (xs := [.inl 2]) (rest := []) rfl rfl rfl rfl rfl rfl (Nat.le_of_ble_eq_true rfl) (Nat.le_of_ble_eq_true rfl) (by omega) (m_bad0 (by omega) (by omega) (by omega : (H.1 1826 35) = 0)) ?_
          rintro _ _ ⟨rfl, rfl⟩
          refine h_run 0 (pc' := 69) (l' := [(0, .inr (.inr 1826)), (1, .inl t), (2, .inl 0), (3, .inl (k5 : Int))]) (st' := []) rfl ?_
          refine h_run 1 (pc' := 70) (l' := [(0, .inr (.inr 1826)), (1, .inl t), (2, .inl 0), (3, .inl (k5 : Int))]) (st' := [.inr (.inr 1826)]) rfl ?_
          refine h_cv (i := 293) (j := 158) (b := 1826) (M' := mt_158) (xs := []) (rest := []) rfl rfl rfl rfl rfl rfl (Nat.le_of_ble_eq_true rfl) (Nat.le_of_ble_eq_true rfl) (by omega) (m_good0 (by omega) (by omega : (2 : Int) ≠ 0)) ?_
          rintro _ _ ⟨rfl, rfl⟩
          refine h_run 0 (pc' := 73) (l' := [(0, .inr (.inr 1826)), (1, .inl t), (2, .inl 0), (3, .inl (k5 : Int))]) (st' := [.inl 0]) rfl ?_
          refine h_zeq (off := 18) (t := 91) rfl rfl (by decide) (fun _ => ?_) (fun c => absurd c (by decide))
          refine h_run 1 (pc' := 92) (l' := [(0, .inr (.inr 1826)), (1, .inl t), (2, .inl 0), (3, .inl (k5 : Int))]) (st' := [.inr (.inr 1826)]) rfl ?_
          have g50 : -2147483648 ≤ (H.1 1826 40) ∧ (H.1 1826 40) ≤ 2147483647 := hrg0.1 1826 13 40 _ .int rfl rfl
          refine h_cv (i := 344) (j := 168) (b := 1826) (M' := mt_168) (xs := []) (rest := []) rfl rfl rfl rfl rfl rfl (Nat.le_of_ble_eq_true rfl) (Nat.le_of_ble_eq_true rfl) (by omega) (m_countC (by omega) (by omega : (2 : Int) ≠ 0) (by omega : 0 ≤ (H.1 1826 40) ∧ (H.1 1826 40) ≤ 1000)) ?_
          rintro _ _ ⟨rfl, rfl⟩
          refine h_run 0 (pc' := 95) (l' := [(0, .inr (.inr 1826)), (1, .inl t), (2, .inl 0), (3, .inl (k5 : Int))]) (st' := []) rfl ?_
          refine h_run 1 (pc' := 96) (l' := [(0, .inr (.inr 1826)), (1, .inl t), (2, .inl 0), (3, .inl (k5 : Int))]) (st' := [.inr (.inr 1826)]) rfl ?_
          refine h_cv (i := 293) (j := 158) (b := 1826) (M' := mt_158) (xs := []) (rest := []) rfl rfl rfl rfl rfl rfl (Nat.le_of_ble_eq_true rfl) (Nat.le_of_ble_eq_true rfl) (by omega) (m_good0 (by omega) (by omega : (2 : Int) ≠ 0)) ?_
          rintro _ _ ⟨rfl, rfl⟩
          refine h_run 0 (pc' := 99) (l' := [(0, .inr (.inr 1826)), (1, .inl t), (2, .inl 0), (3, .inl (k5 : Int))]) (st' := [.inl 0]) rfl ?_
          refine h_zne (off := 4) (t := 103) rfl rfl (by decide) (fun c => absurd c (by decide)) (fun _ => ?_)
          refine h_ret rfl rfl ?_
          have g51 : -2147483648 ≤ (H.1 1826 30) ∧ (H.1 1826 30) ≤ 2147483647 := hrg0.1 1826 13 30 _ .int rfl rfl
          have g52 : -2147483648 ≤ (H.1 1826 32) ∧ (H.1 1826 32) ≤ 2147483647 := hrg0.1 1826 13 32 _ .int rfl rfl
          have g53 : -2147483648 ≤ (H.1 1826 29) ∧ (H.1 1826 29) ≤ 2147483647 := hrg0.1 1826 13 29 _ .int rfl rfl
          have g54 : -2147483648 ≤ (H.1 1826 31) ∧ (H.1 1826 31) ≤ 2147483647 := hrg0.1 1826 13 31 _ .int rfl rfl
          have g55 : -2147483648 ≤ (H.1 1826 43) ∧ (H.1 1826 43) ≤ 2147483647 := hrg0.1 1826 13 43 _ .int rfl rfl
          have g56 : -2147483648 ≤ (H.1 1826 47) ∧ (H.1 1826 47) ≤ 2147483647 := hrg0.1 1826 13 47 _ .int rfl rfl
          exact ⟨rfl, (fr_o (fr_o (fr_o (fr_rf _ _ _) (by decide)) (by decide)) (by decide)), (by omega : (H.1 1826 30) ≤ (H.1 1826 30) ∧ (H.1 1826 30) ≤ (H.1 1826 29)), (by omega : 0 ≤ (2 : Int) ∧ (2 : Int) ≤ 5), (by omega : (H.1 1826 35) ≠ 0 → (2 : Int) ≠ 0), (by omega : 0 ≤ (H.1 1826 32) ∧ (H.1 1826 32) ≤ 1000), (by omega : 0 ≤ ((H.1 1826 40) + 1) ∧ ((H.1 1826 40) + 1) ≤ (H.1 1826 40) + 1), (by omega : (2 : Int) = 0 → (H.1 1826 31) = 0 ∨ (H.1 1826 30) < (H.1 1826 30)), (fun (q : (2 : Int) = 0) => absurd q (by omega))⟩
      · refine h_run 2 (pc' := 41) (l' := [(0, .inr (.inr 1826)), (1, .inl t), (2, .inl 0), (3, .inl (k5 : Int))]) (st' := [.inl 3, .inr (.inr 1826)]) rfl ?_
        refine h_cv (i := 278) (j := 159) (b := 1826) (M' := mt_159) (xs := [.inl 3]) (rest := []) rfl rfl rfl rfl rfl rfl (Nat.le_of_ble_eq_true rfl) (Nat.le_of_ble_eq_true rfl) (by omega) (m_bad0 (by omega) (by omega) (by omega : (H.1 1826 35) = 0)) ?_
        rintro _ _ ⟨rfl, rfl⟩
        refine h_run 0 (pc' := 44) (l' := [(0, .inr (.inr 1826)), (1, .inl t), (2, .inl 0), (3, .inl (k5 : Int))]) (st' := []) rfl ?_
        refine h_run 1 (pc' := 45) (l' := [(0, .inr (.inr 1826)), (1, .inl t), (2, .inl 0), (3, .inl (k5 : Int))]) (st' := [.inr (.inr 1826)]) rfl ?_
        refine h_cv (i := 293) (j := 158) (b := 1826) (M' := mt_158) (xs := []) (rest := []) rfl rfl rfl rfl rfl rfl (Nat.le_of_ble_eq_true rfl) (Nat.le_of_ble_eq_true rfl) (by omega) (m_good0 (by omega) (by omega : (3 : Int) ≠ 0)) ?_
        rintro _ _ ⟨rfl, rfl⟩
        refine h_run 0 (pc' := 48) (l' := [(0, .inr (.inr 1826)), (1, .inl t), (2, .inl 0), (3, .inl (k5 : Int))]) (st' := [.inl 0]) rfl ?_
        refine h_zeq (off := 21) (t := 69) rfl rfl (by decide) (fun _ => ?_) (fun c => absurd c (by decide))
        refine h_run 1 (pc' := 70) (l' := [(0, .inr (.inr 1826)), (1, .inl t), (2, .inl 0), (3, .inl (k5 : Int))]) (st' := [.inr (.inr 1826)]) rfl ?_
        refine h_cv (i := 293) (j := 158) (b := 1826) (M' := mt_158) (xs := []) (rest := []) rfl rfl rfl rfl rfl rfl (Nat.le_of_ble_eq_true rfl) (Nat.le_of_ble_eq_true rfl) (by omega) (m_good0 (by omega) (by omega : (3 : Int) ≠ 0)) ?_
        rintro _ _ ⟨rfl, rfl⟩
        refine h_run 0 (pc' := 73) (l' := [(0, .inr (.inr 1826)), (1, .inl t), (2, .inl 0), (3, .inl (k5 : Int))]) (st' := [.inl 0]) rfl ?_
        refine h_zeq (off := 18) (t := 91) rfl rfl (by decide) (fun _ => ?_) (fun c => absurd c (by decide))
        refine h_run 1 (pc' := 92) (l' := [(0, .inr (.inr 1826)), (1, .inl t), (2, .inl 0), (3, .inl (k5 : Int))]) (st' := [.inr (.inr 1826)]) rfl ?_
        have g57 : -2147483648 ≤ (H.1 1826 40) ∧ (H.1 1826 40) ≤ 2147483647 := hrg0.1 1826 13 40 _ .int rfl rfl
        refine h_cv (i := 344) (j := 168) (b := 1826) (M' := mt_168) (xs := []) (rest := []) rfl rfl rfl rfl rfl rfl (Nat.le_of_ble_eq_true rfl) (Nat.le_of_ble_eq_true rfl) (by omega) (m_countC (by omega) (by omega : (3 : Int) ≠ 0) (by omega : 0 ≤ (H.1 1826 40) ∧ (H.1 1826 40) ≤ 1000)) ?_
        rintro _ _ ⟨rfl, rfl⟩
        refine h_run 0 (pc' := 95) (l' := [(0, .inr (.inr 1826)), (1, .inl t), (2, .inl 0), (3, .inl (k5 : Int))]) (st' := []) rfl ?_
        refine h_run 1 (pc' := 96) (l' := [(0, .inr (.inr 1826)), (1, .inl t), (2, .inl 0), (3, .inl (k5 : Int))]) (st' := [.inr (.inr 1826)]) rfl ?_
        refine h_cv (i := 293) (j := 158) (b := 1826) (M' := mt_158) (xs := []) (rest := []) rfl rfl rfl rfl rfl rfl (Nat.le_of_ble_eq_true rfl) (Nat.le_of_ble_eq_true rfl) (by omega) (m_good0 (by omega) (by omega : (3 : Int) ≠ 0)) ?_
        rintro _ _ ⟨rfl, rfl⟩
        refine h_run 0 (pc' := 99) (l' := [(0, .inr (.inr 1826)), (1, .inl t), (2, .inl 0), (3, .inl (k5 : Int))]) (st' := [.inl 0]) rfl ?_
        refine h_zne (off := 4) (t := 103) rfl rfl (by decide) (fun c => absurd c (by decide)) (fun _ => ?_)
        refine h_ret rfl rfl ?_
        have g58 : -2147483648 ≤ (H.1 1826 30) ∧ (H.1 1826 30) ≤ 2147483647 := hrg0.1 1826 13 30 _ .int rfl rfl
        have g59 : -2147483648 ≤ (H.1 1826 32) ∧ (H.1 1826 32) ≤ 2147483647 := hrg0.1 1826 13 32 _ .int rfl rfl
        have g60 : -2147483648 ≤ (H.1 1826 29) ∧ (H.1 1826 29) ≤ 2147483647 := hrg0.1 1826 13 29 _ .int rfl rfl
        have g61 : -2147483648 ≤ (H.1 1826 31) ∧ (H.1 1826 31) ≤ 2147483647 := hrg0.1 1826 13 31 _ .int rfl rfl
        have g62 : -2147483648 ≤ (H.1 1826 43) ∧ (H.1 1826 43) ≤ 2147483647 := hrg0.1 1826 13 43 _ .int rfl rfl
        have g63 : -2147483648 ≤ (H.1 1826 47) ∧ (H.1 1826 47) ≤ 2147483647 := hrg0.1 1826 13 47 _ .int rfl rfl
        exact ⟨rfl, (fr_o (fr_o (fr_o (fr_rf _ _ _) (by decide)) (by decide)) (by decide)), (by omega : (H.1 1826 30) ≤ (H.1 1826 30) ∧ (H.1 1826 30) ≤ (H.1 1826 29)), (by omega : 0 ≤ (3 : Int) ∧ (3 : Int) ≤ 5), (by omega : (H.1 1826 35) ≠ 0 → (3 : Int) ≠ 0), (by omega : 0 ≤ (H.1 1826 32) ∧ (H.1 1826 32) ≤ 1000), (by omega : 0 ≤ ((H.1 1826 40) + 1) ∧ ((H.1 1826 40) + 1) ≤ (H.1 1826 40) + 1), (by omega : (3 : Int) = 0 → (H.1 1826 31) = 0 ∨ (H.1 1826 30) < (H.1 1826 30)), (fun (q : (3 : Int) = 0) => absurd q (by omega))⟩
    · refine h_run 0 (pc' := 22) (l' := [(0, .inr (.inr 1826)), (1, .inl t), (2, .inl 0)]) (st' := [.inl (-1)]) rfl ?_
      refine h_run 3 (pc' := 28) (l' := [(0, .inr (.inr 1826)), (1, .inl t), (2, .inl 0), (3, .inl (-1))]) (st' := [.inr (.inr 1826)]) rfl ?_
      refine h_cv (i := 293) (j := 158) (b := 1826) (M' := mt_158) (xs := []) (rest := []) rfl rfl rfl rfl rfl rfl (Nat.le_of_ble_eq_true rfl) (Nat.le_of_ble_eq_true rfl) (by omega) (m_good1 (by omega) (by omega : (H.1 1826 35) = 0)) ?_
      rintro _ _ ⟨rfl, rfl⟩
      refine h_run 0 (pc' := 31) (l' := [(0, .inr (.inr 1826)), (1, .inl t), (2, .inl 0), (3, .inl (-1))]) (st' := [.inl 1]) rfl ?_
      refine h_zeq (off := 13) (t := 44) rfl rfl (by decide) (fun c => absurd c (by decide)) (fun _ => ?_)
      refine h_run 2 (pc' := 36) (l' := [(0, .inr (.inr 1826)), (1, .inl t), (2, .inl 0), (3, .inl (-1))]) (st' := [.inl (-1), .inl (-1)]) rfl ?_
      refine h_ine (off := 8) (t := 44) rfl rfl (by decide) (by decide) (fun c => absurd c (by decide)) (fun _ => ?_)
      refine h_run 2 (pc' := 41) (l' := [(0, .inr (.inr 1826)), (1, .inl t), (2, .inl 0), (3, .inl (-1))]) (st' := [.inl 3, .inr (.inr 1826)]) rfl ?_
      refine h_cv (i := 278) (j := 159) (b := 1826) (M' := mt_159) (xs := [.inl 3]) (rest := []) rfl rfl rfl rfl rfl rfl (Nat.le_of_ble_eq_true rfl) (Nat.le_of_ble_eq_true rfl) (by omega) (m_bad0 (by omega) (by omega) (by omega : (H.1 1826 35) = 0)) ?_
      rintro _ _ ⟨rfl, rfl⟩
      refine h_run 0 (pc' := 44) (l' := [(0, .inr (.inr 1826)), (1, .inl t), (2, .inl 0), (3, .inl (-1))]) (st' := []) rfl ?_
      refine h_run 1 (pc' := 45) (l' := [(0, .inr (.inr 1826)), (1, .inl t), (2, .inl 0), (3, .inl (-1))]) (st' := [.inr (.inr 1826)]) rfl ?_
      refine h_cv (i := 293) (j := 158) (b := 1826) (M' := mt_158) (xs := []) (rest := []) rfl rfl rfl rfl rfl rfl (Nat.le_of_ble_eq_true rfl) (Nat.le_of_ble_eq_true rfl) (by omega) (m_good0 (by omega) (by omega : (3 : Int) ≠ 0)) ?_
      rintro _ _ ⟨rfl, rfl⟩
      refine h_run 0 (pc' := 48) (l' := [(0, .inr (.inr 1826)), (1, .inl t), (2, .inl 0), (3, .inl (-1))]) (st' := [.inl 0]) rfl ?_
      refine h_zeq (off := 21) (t := 69) rfl rfl (by decide) (fun _ => ?_) (fun c => absurd c (by decide))
      refine h_run 1 (pc' := 70) (l' := [(0, .inr (.inr 1826)), (1, .inl t), (2, .inl 0), (3, .inl (-1))]) (st' := [.inr (.inr 1826)]) rfl ?_
      refine h_cv (i := 293) (j := 158) (b := 1826) (M' := mt_158) (xs := []) (rest := []) rfl rfl rfl rfl rfl rfl (Nat.le_of_ble_eq_true rfl) (Nat.le_of_ble_eq_true rfl) (by omega) (m_good0 (by omega) (by omega : (3 : Int) ≠ 0)) ?_
      rintro _ _ ⟨rfl, rfl⟩
      refine h_run 0 (pc' := 73) (l' := [(0, .inr (.inr 1826)), (1, .inl t), (2, .inl 0), (3, .inl (-1))]) (st' := [.inl 0]) rfl ?_
      refine h_zeq (off := 18) (t := 91) rfl rfl (by decide) (fun _ => ?_) (fun c => absurd c (by decide))
      refine h_run 1 (pc' := 92) (l' := [(0, .inr (.inr 1826)), (1, .inl t), (2, .inl 0), (3, .inl (-1))]) (st' := [.inr (.inr 1826)]) rfl ?_
      have g64 : -2147483648 ≤ (H.1 1826 40) ∧ (H.1 1826 40) ≤ 2147483647 := hrg0.1 1826 13 40 _ .int rfl rfl
      refine h_cv (i := 344) (j := 168) (b := 1826) (M' := mt_168) (xs := []) (rest := []) rfl rfl rfl rfl rfl rfl (Nat.le_of_ble_eq_true rfl) (Nat.le_of_ble_eq_true rfl) (by omega) (m_countC (by omega) (by omega : (3 : Int) ≠ 0) (by omega : 0 ≤ (H.1 1826 40) ∧ (H.1 1826 40) ≤ 1000)) ?_
      rintro _ _ ⟨rfl, rfl⟩
      refine h_run 0 (pc' := 95) (l' := [(0, .inr (.inr 1826)), (1, .inl t), (2, .inl 0), (3, .inl (-1))]) (st' := []) rfl ?_
      refine h_run 1 (pc' := 96) (l' := [(0, .inr (.inr 1826)), (1, .inl t), (2, .inl 0), (3, .inl (-1))]) (st' := [.inr (.inr 1826)]) rfl ?_
      refine h_cv (i := 293) (j := 158) (b := 1826) (M' := mt_158) (xs := []) (rest := []) rfl rfl rfl rfl rfl rfl (Nat.le_of_ble_eq_true rfl) (Nat.le_of_ble_eq_true rfl) (by omega) (m_good0 (by omega) (by omega : (3 : Int) ≠ 0)) ?_
      rintro _ _ ⟨rfl, rfl⟩
      refine h_run 0 (pc' := 99) (l' := [(0, .inr (.inr 1826)), (1, .inl t), (2, .inl 0), (3, .inl (-1))]) (st' := [.inl 0]) rfl ?_
      refine h_zne (off := 4) (t := 103) rfl rfl (by decide) (fun c => absurd c (by decide)) (fun _ => ?_)
      refine h_ret rfl rfl ?_
      have g65 : -2147483648 ≤ (H.1 1826 30) ∧ (H.1 1826 30) ≤ 2147483647 := hrg0.1 1826 13 30 _ .int rfl rfl
      have g66 : -2147483648 ≤ (H.1 1826 32) ∧ (H.1 1826 32) ≤ 2147483647 := hrg0.1 1826 13 32 _ .int rfl rfl
      have g67 : -2147483648 ≤ (H.1 1826 29) ∧ (H.1 1826 29) ≤ 2147483647 := hrg0.1 1826 13 29 _ .int rfl rfl
      have g68 : -2147483648 ≤ (H.1 1826 31) ∧ (H.1 1826 31) ≤ 2147483647 := hrg0.1 1826 13 31 _ .int rfl rfl
      have g69 : -2147483648 ≤ (H.1 1826 43) ∧ (H.1 1826 43) ≤ 2147483647 := hrg0.1 1826 13 43 _ .int rfl rfl
      have g70 : -2147483648 ≤ (H.1 1826 47) ∧ (H.1 1826 47) ≤ 2147483647 := hrg0.1 1826 13 47 _ .int rfl rfl
      exact ⟨rfl, (fr_o (fr_o (fr_o (fr_rf _ _ _) (by decide)) (by decide)) (by decide)), (by omega : (H.1 1826 30) ≤ (H.1 1826 30) ∧ (H.1 1826 30) ≤ (H.1 1826 29)), (by omega : 0 ≤ (3 : Int) ∧ (3 : Int) ≤ 5), (by omega : (H.1 1826 35) ≠ 0 → (3 : Int) ≠ 0), (by omega : 0 ≤ (H.1 1826 32) ∧ (H.1 1826 32) ≤ 1000), (by omega : 0 ≤ ((H.1 1826 40) + 1) ∧ ((H.1 1826 40) + 1) ≤ (H.1 1826 40) + 1), (by omega : (3 : Int) = 0 → (H.1 1826 31) = 0 ∨ (H.1 1826 30) < (H.1 1826 30)), (fun (q : (3 : Int) = 0) => absurd q (by omega))⟩
  · have b2x : (H.1 1826 35) ≠ 0 := b2
    refine h_run 0 (pc' := 4) (l' := [(0, .inr (.inr 1826)), (1, .inl t), (2, .inl 0)]) (st' := [.inl 0]) rfl ?_
    refine h_zeq (off := 21) (t := 25) rfl rfl (by decide) (fun _ => ?_) (fun c => absurd c (by decide))
    refine h_run 3 (pc' := 28) (l' := [(0, .inr (.inr 1826)), (1, .inl t), (2, .inl 0), (3, .inl (-1))]) (st' := [.inr (.inr 1826)]) rfl ?_
    refine h_cv (i := 293) (j := 158) (b := 1826) (M' := mt_158) (xs := []) (rest := []) rfl rfl rfl rfl rfl rfl (Nat.le_of_ble_eq_true rfl) (Nat.le_of_ble_eq_true rfl) (by omega) (m_good0 (by omega) (by omega : (H.1 1826 35) ≠ 0)) ?_
    rintro _ _ ⟨rfl, rfl⟩
    refine h_run 0 (pc' := 31) (l' := [(0, .inr (.inr 1826)), (1, .inl t), (2, .inl 0), (3, .inl (-1))]) (st' := [.inl 0]) rfl ?_
    refine h_zeq (off := 13) (t := 44) rfl rfl (by decide) (fun _ => ?_) (fun c => absurd c (by decide))
    refine h_run 1 (pc' := 45) (l' := [(0, .inr (.inr 1826)), (1, .inl t), (2, .inl 0), (3, .inl (-1))]) (st' := [.inr (.inr 1826)]) rfl ?_
    refine h_cv (i := 293) (j := 158) (b := 1826) (M' := mt_158) (xs := []) (rest := []) rfl rfl rfl rfl rfl rfl (Nat.le_of_ble_eq_true rfl) (Nat.le_of_ble_eq_true rfl) (by omega) (m_good0 (by omega) (by omega : (H.1 1826 35) ≠ 0)) ?_
    rintro _ _ ⟨rfl, rfl⟩
    refine h_run 0 (pc' := 48) (l' := [(0, .inr (.inr 1826)), (1, .inl t), (2, .inl 0), (3, .inl (-1))]) (st' := [.inl 0]) rfl ?_
    refine h_zeq (off := 21) (t := 69) rfl rfl (by decide) (fun _ => ?_) (fun c => absurd c (by decide))
    refine h_run 1 (pc' := 70) (l' := [(0, .inr (.inr 1826)), (1, .inl t), (2, .inl 0), (3, .inl (-1))]) (st' := [.inr (.inr 1826)]) rfl ?_
    refine h_cv (i := 293) (j := 158) (b := 1826) (M' := mt_158) (xs := []) (rest := []) rfl rfl rfl rfl rfl rfl (Nat.le_of_ble_eq_true rfl) (Nat.le_of_ble_eq_true rfl) (by omega) (m_good0 (by omega) (by omega : (H.1 1826 35) ≠ 0)) ?_
    rintro _ _ ⟨rfl, rfl⟩
    refine h_run 0 (pc' := 73) (l' := [(0, .inr (.inr 1826)), (1, .inl t), (2, .inl 0), (3, .inl (-1))]) (st' := [.inl 0]) rfl ?_
    refine h_zeq (off := 18) (t := 91) rfl rfl (by decide) (fun _ => ?_) (fun c => absurd c (by decide))
    refine h_run 1 (pc' := 92) (l' := [(0, .inr (.inr 1826)), (1, .inl t), (2, .inl 0), (3, .inl (-1))]) (st' := [.inr (.inr 1826)]) rfl ?_
    have g71 : -2147483648 ≤ (H.1 1826 40) ∧ (H.1 1826 40) ≤ 2147483647 := hrg0.1 1826 13 40 _ .int rfl rfl
    refine h_cv (i := 344) (j := 168) (b := 1826) (M' := mt_168) (xs := []) (rest := []) rfl rfl rfl rfl rfl rfl (Nat.le_of_ble_eq_true rfl) (Nat.le_of_ble_eq_true rfl) (by omega) (m_countC (by omega) (by omega : (H.1 1826 35) ≠ 0) (by omega : 0 ≤ (H.1 1826 40) ∧ (H.1 1826 40) ≤ 1000)) ?_
    rintro _ _ ⟨rfl, rfl⟩
    refine h_run 0 (pc' := 95) (l' := [(0, .inr (.inr 1826)), (1, .inl t), (2, .inl 0), (3, .inl (-1))]) (st' := []) rfl ?_
    refine h_run 1 (pc' := 96) (l' := [(0, .inr (.inr 1826)), (1, .inl t), (2, .inl 0), (3, .inl (-1))]) (st' := [.inr (.inr 1826)]) rfl ?_
    refine h_cv (i := 293) (j := 158) (b := 1826) (M' := mt_158) (xs := []) (rest := []) rfl rfl rfl rfl rfl rfl (Nat.le_of_ble_eq_true rfl) (Nat.le_of_ble_eq_true rfl) (by omega) (m_good0 (by omega) (by omega : (H.1 1826 35) ≠ 0)) ?_
    rintro _ _ ⟨rfl, rfl⟩
    refine h_run 0 (pc' := 99) (l' := [(0, .inr (.inr 1826)), (1, .inl t), (2, .inl 0), (3, .inl (-1))]) (st' := [.inl 0]) rfl ?_
    refine h_zne (off := 4) (t := 103) rfl rfl (by decide) (fun c => absurd c (by decide)) (fun _ => ?_)
    refine h_ret rfl rfl ?_
    have g72 : -2147483648 ≤ (H.1 1826 30) ∧ (H.1 1826 30) ≤ 2147483647 := hrg0.1 1826 13 30 _ .int rfl rfl
    have g73 : -2147483648 ≤ (H.1 1826 32) ∧ (H.1 1826 32) ≤ 2147483647 := hrg0.1 1826 13 32 _ .int rfl rfl
    have g74 : -2147483648 ≤ (H.1 1826 29) ∧ (H.1 1826 29) ≤ 2147483647 := hrg0.1 1826 13 29 _ .int rfl rfl
    have g75 : -2147483648 ≤ (H.1 1826 31) ∧ (H.1 1826 31) ≤ 2147483647 := hrg0.1 1826 13 31 _ .int rfl rfl
    have g76 : -2147483648 ≤ (H.1 1826 43) ∧ (H.1 1826 43) ≤ 2147483647 := hrg0.1 1826 13 43 _ .int rfl rfl
    have g77 : -2147483648 ≤ (H.1 1826 47) ∧ (H.1 1826 47) ≤ 2147483647 := hrg0.1 1826 13 47 _ .int rfl rfl
    have g78 : -2147483648 ≤ (H.1 1826 3) ∧ (H.1 1826 3) ≤ 2147483647 := hrg0.1 1826 13 3 _ .int rfl rfl
    exact ⟨rfl, (fr_o (fr_rf _ _ _) (by decide)), (by omega : (H.1 1826 30) ≤ (H.1 1826 30) ∧ (H.1 1826 30) ≤ (H.1 1826 29)), (by omega : 0 ≤ (H.1 1826 35) ∧ (H.1 1826 35) ≤ 5), (by omega : (H.1 1826 35) ≠ 0 → (H.1 1826 35) ≠ 0), (by omega : 0 ≤ (H.1 1826 32) ∧ (H.1 1826 32) ≤ 1000), (by omega : 0 ≤ ((H.1 1826 40) + 1) ∧ ((H.1 1826 40) + 1) ≤ (H.1 1826 40) + 1), (by omega : (H.1 1826 35) = 0 → (H.1 1826 31) = 0 ∨ (H.1 1826 30) < (H.1 1826 30)), (fun (q : (H.1 1826 35) = 0) => absurd q (by omega))⟩

/-! patternCon -/
set_option maxRecDepth 100000 in
theorem m_patCon1 {zC : Nat → Option zsh} {d : Nat} (hd : 5 ≤ d) {H : hp} {t : Int} (h0 : 0 ≤ (H.1 1826 30) ∧ (H.1 1826 30) ≤ (H.1 1826 29) ∧ (H.1 1826 29) ≤ 1000) (hw : 0 ≤ (H.1 1826 35) ∧ (H.1 1826 35) ≤ 5) (hst : 0 ≤ (H.1 1826 32) ∧ (H.1 1826 32) ≤ 1000) (hP : PWc H) (hn : 1 ≤ (H.1 1826 47) ∧ (H.1 1826 47) ≤ 63) (hnm : 0 ≤ (H.1 1826 40) ∧ (H.1 1826 40) ≤ 999) (hr : 0 ≤ (H.1 1826 43) ∧ (H.1 1826 43) ≤ 46) (ho : 0 ≤ (H.1 1853) ((H.1 1826 47) - 1).toNat ∧ (H.1 1853) ((H.1 1826 47) - 1).toNat ≤ 1000) (ht : -2147483648 ≤ t ∧ t ≤ 2147483647) : hG (zs zC) d mt_179 0 (zargs 0 [.inr (.inr 1826), .inl t, .inl 1]) [] H (fun r H2 => r = none ∧ fr [30, 31, 32, 33, 35, 36, 40, 43, 47] [1851, 1852, 1853] H H2 ∧ ((H.1 1826 30) ≤ (H2.1 1826 30) ∧ (H2.1 1826 30) ≤ (H.1 1826 29)) ∧ (0 ≤ (H2.1 1826 35) ∧ (H2.1 1826 35) ≤ 5) ∧ ((H.1 1826 35) ≠ 0 → (H2.1 1826 35) ≠ 0) ∧ (0 ≤ (H2.1 1826 32) ∧ (H2.1 1826 32) ≤ 1000) ∧ (0 ≤ (H2.1 1826 40) ∧ (H2.1 1826 40) ≤ (H.1 1826 40) + 1) ∧ ((H2.1 1826 35) = 0 → (H2.1 1826 31) = 0 ∨ (H.1 1826 30) < (H2.1 1826 30)) ∧ hid ((H2.1 1826 35) = 0 → ∃ c : Nat, (c : Int) < (H.1 1826 3) ∧ (H.1 1826 40) ≠ 40 ∧ ((H2.1 1826 40) = (H.1 1826 40) + 1 ∧ (H2.1 1826 43) = (H.1 1826 43) + 1 ∧ (H2.1 1826 47) = (H.1 1826 47) + 1) ∧ (H2.1 1851) = up (H.1 1851) ((H.1 1826 43)).toNat (1 + (c : Int)) ∧ (H2.1 1852) = up (H.1 1852) ((H.1 1826 47)).toNat (1 + (c : Int)) ∧ (H2.1 1853) = up (up (H.1 1853) ((H.1 1826 47) - 1).toNat ((H.1 1853) ((H.1 1826 47) - 1).toNat + 1)) ((H.1 1826 47)).toNat 0)) := by
  refine h_rng (fun hrg0 => ?_)
  refine h_run 0 (pc' := 0) (l' := [(0, .inr (.inr 1826)), (1, .inl t), (2, .inl 1)]) (st' := []) rfl ?_
  obtain ⟨⟨pb1, pb2, pb3, pb4, pb5⟩, pw1, pw2, pw3, pw4⟩ := (id hP : PW H (H.1 1826 1) (H.1 1826 3) (H.1 1826 8) (H.1 1826 13) (H.1 1826 19))
  refine h_run 1 (pc' := 1) (l' := [(0, .inr (.inr 1826)), (1, .inl t), (2, .inl 1)]) (st' := [.inr (.inr 1826)]) rfl ?_
  have g1 : -2147483648 ≤ (H.1 1826 35) ∧ (H.1 1826 35) ≤ 2147483647 := hrg0.1 1826 13 35 _ .int rfl rfl
  refine h_cv (i := 293) (j := 158) (b := 1826) (M' := mt_158) (xs := []) (rest := []) rfl rfl rfl rfl rfl rfl (Nat.le_of_ble_eq_true rfl) (Nat.le_of_ble_eq_true rfl) (by omega) (m_good (by omega)) ?_
  rintro _ _ ⟨⟨rfl, b2⟩ | ⟨rfl, b2⟩, rfl⟩
  · have b2x : (H.1 1826 35) = 0 := b2
    refine h_run 0 (pc' := 4) (l' := [(0, .inr (.inr 1826)), (1, .inl t), (2, .inl 1)]) (st' := [.inl 1]) rfl ?_
    refine h_zeq (off := 21) (t := 25) rfl rfl (by decide) (fun c => absurd c (by decide)) (fun _ => ?_)
    refine h_run 4 (pc' := 15) (l' := [(0, .inr (.inr 1826)), (1, .inl t), (2, .inl 1)]) (st' := [.inl (H.1 1826 3), .inr (.inr 1828)]) rfl ?_
    have g3 : -2147483648 ≤ (H.1 1826 3) ∧ (H.1 1826 3) ≤ 2147483647 := hrg0.1 1826 13 3 _ .int rfl rfl
    refine h_run 2 (pc' := 19) (l' := [(0, .inr (.inr 1826)), (1, .inl t), (2, .inl 1)]) (st' := [.inr (.inl (H.1 1826 33)), .inl (H.1 1826 3), .inr (.inr 1828)]) rfl ?_
    have g4 : -9223372036854775808 ≤ (H.1 1826 33) ∧ (H.1 1826 33) ≤ 9223372036854775807 := hrg0.1 1826 13 33 _ .long rfl rfl
    refine h_cs (i := 309) (j := 167) (M' := mt_167) (xs := [.inr (.inl (H.1 1826 33)), .inl (H.1 1826 3), .inr (.inr 1828)]) (rest := []) rfl rfl rfl rfl rfl (Nat.le_of_ble_eq_true rfl) (Nat.le_of_ble_eq_true rfl) (by omega) (m_find (by omega) (m := 16) rfl (by omega : 0 ≤ (H.1 1826 3) ∧ (H.1 1826 3) ≤ ((16 : Nat) : Int) ∧ 16 ≤ 100) (by omega)) ?_
    rintro _ _ ⟨⟨k5, rfl, f6, f6x⟩ | ⟨rfl, f6⟩, rfl⟩
    · refine h_run 0 (pc' := 22) (l' := [(0, .inr (.inr 1826)), (1, .inl t), (2, .inl 1)]) (st' := [.inl (k5 : Int)]) rfl ?_
      refine h_run 3 (pc' := 28) (l' := [(0, .inr (.inr 1826)), (1, .inl t), (2, .inl 1), (3, .inl (k5 : Int))]) (st' := [.inr (.inr 1826)]) rfl ?_
      refine h_cv (i := 293) (j := 158) (b := 1826) (M' := mt_158) (xs := []) (rest := []) rfl rfl rfl rfl rfl rfl (Nat.le_of_ble_eq_true rfl) (Nat.le_of_ble_eq_true rfl) (by omega) (m_good1 (by omega) (by omega : (H.1 1826 35) = 0)) ?_
      rintro _ _ ⟨rfl, rfl⟩
      refine h_run 0 (pc' := 31) (l' := [(0, .inr (.inr 1826)), (1, .inl t), (2, .inl 1), (3, .inl (k5 : Int))]) (st' := [.inl 1]) rfl ?_
      refine h_zeq (off := 13) (t := 44) rfl rfl (by decide) (fun c => absurd c (by decide)) (fun _ => ?_)
      refine h_run 2 (pc' := 36) (l' := [(0, .inr (.inr 1826)), (1, .inl t), (2, .inl 1), (3, .inl (k5 : Int))]) (st' := [.inl (-1), .inl (k5 : Int)]) rfl ?_
      refine h_ine (off := 8) (t := 44) rfl rfl (by omega) (by decide) (fun c7 => ?_) (fun c7 => ?_)
      · refine h_run 1 (pc' := 45) (l' := [(0, .inr (.inr 1826)), (1, .inl t), (2, .inl 1), (3, .inl (k5 : Int))]) (st' := [.inr (.inr 1826)]) rfl ?_
        refine h_cv (i := 293) (j := 158) (b := 1826) (M' := mt_158) (xs := []) (rest := []) rfl rfl rfl rfl rfl rfl (Nat.le_of_ble_eq_true rfl) (Nat.le_of_ble_eq_true rfl) (by omega) (m_good1 (by omega) (by omega : (H.1 1826 35) = 0)) ?_
        rintro _ _ ⟨rfl, rfl⟩
        refine h_run 0 (pc' := 48) (l' := [(0, .inr (.inr 1826)), (1, .inl t), (2, .inl 1), (3, .inl (k5 : Int))]) (st' := [.inl 1]) rfl ?_
        refine h_zeq (off := 21) (t := 69) rfl rfl (by decide) (fun c => absurd c (by decide)) (fun _ => ?_)
        refine h_run 1 (pc' := 52) (l' := [(0, .inr (.inr 1826)), (1, .inl t), (2, .inl 1), (3, .inl (k5 : Int))]) (st' := [.inl 1]) rfl ?_
        refine h_zne (off := 17) (t := 69) rfl rfl (by decide) (fun _ => ?_) (fun c => absurd c (by decide))
        refine h_run 1 (pc' := 70) (l' := [(0, .inr (.inr 1826)), (1, .inl t), (2, .inl 1), (3, .inl (k5 : Int))]) (st' := [.inr (.inr 1826)]) rfl ?_
        refine h_cv (i := 293) (j := 158) (b := 1826) (M' := mt_158) (xs := []) (rest := []) rfl rfl rfl rfl rfl rfl (Nat.le_of_ble_eq_true rfl) (Nat.le_of_ble_eq_true rfl) (by omega) (m_good1 (by omega) (by omega : (H.1 1826 35) = 0)) ?_
        rintro _ _ ⟨rfl, rfl⟩
        refine h_run 0 (pc' := 73) (l' := [(0, .inr (.inr 1826)), (1, .inl t), (2, .inl 1), (3, .inl (k5 : Int))]) (st' := [.inl 1]) rfl ?_
        refine h_zeq (off := 18) (t := 91) rfl rfl (by decide) (fun c => absurd c (by decide)) (fun _ => ?_)
        refine h_run 3 (pc' := 81) (l' := [(0, .inr (.inr 1826)), (1, .inl t), (2, .inl 1), (3, .inl (k5 : Int))]) (st' := [.inl (k5 : Int), .inr (.inr 1829)]) rfl ?_
        refine h_ild (c := 1829) (j := k5) (i := (k5 : Int)) rfl rfl (by decide) rfl (by omega) ?_
        have g8 : -2147483648 ≤ (H.1 1829 k5) ∧ (H.1 1829 k5) ≤ 2147483647 := hrg0.2 1829 k5 16 .int rfl (by omega)
        refine h_run 0 (pc' := 82) (l' := [(0, .inr (.inr 1826)), (1, .inl t), (2, .inl 1), (3, .inl (k5 : Int))]) (st' := [.inl (H.1 1829 k5)]) rfl ?_
        refine h_run 1 (pc' := 83) (l' := [(0, .inr (.inr 1826)), (1, .inl t), (2, .inl 1), (3, .inl (k5 : Int))]) (st' := [.inl t, .inl (H.1 1829 k5)]) rfl ?_
        refine h_ieq (off := 8) (t := 91) rfl rfl (by omega) (by omega) (fun c9 => ?_) (fun c9 => ?_)
        · refine h_run 1 (pc' := 92) (l' := [(0, .inr (.inr 1826)), (1, .inl t), (2, .inl 1), (3, .inl (k5 : Int))]) (st' := [.inr (.inr 1826)]) rfl ?_
          have g10 : -2147483648 ≤ (H.1 1826 40) ∧ (H.1 1826 40) ≤ 2147483647 := hrg0.1 1826 13 40 _ .int rfl rfl
          by_cases b11 : (H.1 1826 40) = 40
          · refine h_cv (i := 344) (j := 168) (b := 1826) (M' := mt_168) (xs := []) (rest := []) rfl rfl rfl rfl rfl rfl (Nat.le_of_ble_eq_true rfl) (Nat.le_of_ble_eq_true rfl) (by omega) (m_countB (by omega) (by omega : (H.1 1826 35) = 0) (by omega : (H.1 1826 40) = 40)) ?_
            rintro _ _ ⟨rfl, rfl⟩
            refine h_run 0 (pc' := 95) (l' := [(0, .inr (.inr 1826)), (1, .inl t), (2, .inl 1), (3, .inl (k5 : Int))]) (st' := []) rfl ?_
            refine h_run 1 (pc' := 96) (l' := [(0, .inr (.inr 1826)), (1, .inl t), (2, .inl 1), (3, .inl (k5 : Int))]) (st' := [.inr (.inr 1826)]) rfl ?_
            refine h_cv (i := 293) (j := 158) (b := 1826) (M' := mt_158) (xs := []) (rest := []) rfl rfl rfl rfl rfl rfl (Nat.le_of_ble_eq_true rfl) (Nat.le_of_ble_eq_true rfl) (by omega) (m_good0 (by omega) (by omega : (5 : Int) ≠ 0)) ?_
            rintro _ _ ⟨rfl, rfl⟩
            refine h_run 0 (pc' := 99) (l' := [(0, .inr (.inr 1826)), (1, .inl t), (2, .inl 1), (3, .inl (k5 : Int))]) (st' := [.inl 0]) rfl ?_
            refine h_zne (off := 4) (t := 103) rfl rfl (by decide) (fun c => absurd c (by decide)) (fun _ => ?_)
            refine h_ret rfl rfl ?_
            have g12 : -2147483648 ≤ (H.1 1826 30) ∧ (H.1 1826 30) ≤ 2147483647 := hrg0.1 1826 13 30 _ .int rfl rfl
            have g13 : -2147483648 ≤ (H.1 1826 32) ∧ (H.1 1826 32) ≤ 2147483647 := hrg0.1 1826 13 32 _ .int rfl rfl
            have g14 : -2147483648 ≤ (H.1 1826 29) ∧ (H.1 1826 29) ≤ 2147483647 := hrg0.1 1826 13 29 _ .int rfl rfl
            have g15 : -2147483648 ≤ (H.1 1826 31) ∧ (H.1 1826 31) ≤ 2147483647 := hrg0.1 1826 13 31 _ .int rfl rfl
            have g16 : -2147483648 ≤ (H.1 1826 43) ∧ (H.1 1826 43) ≤ 2147483647 := hrg0.1 1826 13 43 _ .int rfl rfl
            have g17 : -2147483648 ≤ (H.1 1826 47) ∧ (H.1 1826 47) ≤ 2147483647 := hrg0.1 1826 13 47 _ .int rfl rfl
            exact ⟨rfl, (fr_o (fr_o (fr_o (fr_rf _ _ _) (by decide)) (by decide)) (by decide)), (by omega : (H.1 1826 30) ≤ (H.1 1826 30) ∧ (H.1 1826 30) ≤ (H.1 1826 29)), (by omega : 0 ≤ (5 : Int) ∧ (5 : Int) ≤ 5), (by omega : (H.1 1826 35) ≠ 0 → (5 : Int) ≠ 0), (by omega : 0 ≤ (H.1 1826 32) ∧ (H.1 1826 32) ≤ 1000), (by omega : 0 ≤ ((H.1 1826 40) + 1) ∧ ((H.1 1826 40) + 1) ≤ (H.1 1826 40) + 1), (by omega : (5 : Int) = 0 → (H.1 1826 31) = 0 ∨ (H.1 1826 30) < (H.1 1826 30)), (fun (q : (5 : Int) = 0) => absurd q (by omega))⟩
          · refine h_cv (i := 344) (j := 168) (b := 1826) (M' := mt_168) (xs := []) (rest := []) rfl rfl rfl rfl rfl rfl (Nat.le_of_ble_eq_true rfl) (Nat.le_of_ble_eq_true rfl) (by omega) (m_countA (by omega) (by omega : (H.1 1826 35) = 0) (by omega : 0 ≤ (H.1 1826 40) ∧ (H.1 1826 40) ≤ 1000) (by omega : (H.1 1826 40) ≠ 40)) ?_
            rintro _ _ ⟨rfl, rfl⟩
            refine h_run 0 (pc' := 95) (l' := [(0, .inr (.inr 1826)), (1, .inl t), (2, .inl 1), (3, .inl (k5 : Int))]) (st' := []) rfl ?_
            refine h_run 1 (pc' := 96) (l' := [(0, .inr (.inr 1826)), (1, .inl t), (2, .inl 1), (3, .inl (k5 : Int))]) (st' := [.inr (.inr 1826)]) rfl ?_
            refine h_cv (i := 293) (j := 158) (b := 1826) (M' := mt_158) (xs := []) (rest := []) rfl rfl rfl rfl rfl rfl (Nat.le_of_ble_eq_true rfl) (Nat.le_of_ble_eq_true rfl) (by omega) (m_good1 (by omega) (by omega : (H.1 1826 35) = 0)) ?_
            rintro _ _ ⟨rfl, rfl⟩
            refine h_run 0 (pc' := 99) (l' := [(0, .inr (.inr 1826)), (1, .inl t), (2, .inl 1), (3, .inl (k5 : Int))]) (st' := [.inl 1]) rfl ?_
            refine h_zne (off := 4) (t := 103) rfl rfl (by decide) (fun _ => ?_) (fun c => absurd c (by decide))
            refine h_run 4 (pc' := 107) (l' := [(0, .inr (.inr 1826)), (1, .inl t), (2, .inl 1), (3, .inl (k5 : Int))]) (st' := [.inl (1 + (k5 : Int)), .inr (.inr 1826)]) rfl ?_
            have g18 : -2147483648 ≤ (H.1 1826 43) ∧ (H.1 1826 43) ≤ 2147483647 := hrg0.1 1826 13 43 _ .int rfl rfl
            refine h_cv (i := 350) (j := 169) (b := 1826) (M' := mt_169) (xs := [.inl (1 + (k5 : Int))]) (rest := []) rfl rfl rfl rfl rfl rfl (Nat.le_of_ble_eq_true rfl) (Nat.le_of_ble_eq_true rfl) (by omega) (m_put1 (by omega) (by omega : (H.1 1826 35) = 0) (by omega : 0 ≤ (H.1 1826 43) ∧ (H.1 1826 43) ≤ 47) (by omega)) ?_
            rintro _ _ ⟨rfl, rfl⟩
            refine h_run 0 (pc' := 110) (l' := [(0, .inr (.inr 1826)), (1, .inl t), (2, .inl 1), (3, .inl (k5 : Int))]) (st' := []) rfl ?_
            refine h_run 4 (pc' := 118) (l' := [(0, .inr (.inr 1826)), (1, .inl t), (2, .inl 1), (3, .inl (k5 : Int))]) (st' := [.inl (H.1 1826 47), .inr (.inr 1853)]) rfl ?_
            have g19 : -2147483648 ≤ (H.1 1826 47) ∧ (H.1 1826 47) ≤ 2147483647 := hrg0.1 1826 13 47 _ .int rfl rfl
            refine h_run 3 (pc' := 121) (l' := [(0, .inr (.inr 1826)), (1, .inl t), (2, .inl 1), (3, .inl (k5 : Int))]) (st' := [.inl ((H.1 1826 47) - 1), .inr (.inr 1853), .inl ((H.1 1826 47) - 1), .inr (.inr 1853)]) rfl ?_
            refine h_ild (c := 1853) (j := (((H.1 1826 47) - 1)).toNat) (i := ((H.1 1826 47) - 1)) rfl rfl (by decide) (by omega) (by omega) ?_
            have g20 : -2147483648 ≤ (H.1 1853 (((H.1 1826 47) - 1)).toNat) ∧ (H.1 1853 (((H.1 1826 47) - 1)).toNat) ≤ 2147483647 := hrg0.2 1853 (((H.1 1826 47) - 1)).toNat 64 .int rfl (by omega)
            refine h_run 0 (pc' := 122) (l' := [(0, .inr (.inr 1826)), (1, .inl t), (2, .inl 1), (3, .inl (k5 : Int))]) (st' := [.inl (H.1 1853 (((H.1 1826 47) - 1)).toNat), .inl ((H.1 1826 47) - 1), .inr (.inr 1853)]) rfl ?_
            refine h_run 2 (pc' := 124) (l' := [(0, .inr (.inr 1826)), (1, .inl t), (2, .inl 1), (3, .inl (k5 : Int))]) (st' := [.inl ((H.1 1853 (((H.1 1826 47) - 1)).toNat) + 1), .inl ((H.1 1826 47) - 1), .inr (.inr 1853)]) rfl ?_
            refine h_ist (c := 1853) (j := (((H.1 1826 47) - 1)).toNat) (i := ((H.1 1826 47) - 1)) (x := ((H.1 1853 (((H.1 1826 47) - 1)).toNat) + 1)) rfl rfl (by decide) (by decide) (by omega) (by omega) (by omega) ?_
            refine h_run 1 (pc' := 126) (l' := [(0, .inr (.inr 1826)), (1, .inl t), (2, .inl 1), (3, .inl (k5 : Int))]) (st' := [.inl 1]) rfl ?_
            refine h_zeq (off := 35) (t := 161) rfl rfl (by decide) (fun c => absurd c (by decide)) (fun _ => ?_)
            refine h_run 4 (pc' := 137) (l' := [(0, .inr (.inr 1826)), (1, .inl t), (2, .inl 1), (3, .inl (k5 : Int))]) (st' := [.inl (H.1 1826 47), .inr (.inr 1852)]) rfl ?_
            refine h_run 3 (pc' := 140) (l' := [(0, .inr (.inr 1826)), (1, .inl t), (2, .inl 1), (3, .inl (k5 : Int))]) (st' := [.inl (1 + (k5 : Int)), .inl (H.1 1826 47), .inr (.inr 1852)]) rfl ?_
            refine h_ist (c := 1852) (j := ((H.1 1826 47)).toNat) (i := (H.1 1826 47)) (x := (1 + (k5 : Int))) rfl rfl (by decide) (by decide) (by omega) (by omega) (by omega) ?_
            refine h_run 4 (pc' := 149) (l' := [(0, .inr (.inr 1826)), (1, .inl t), (2, .inl 1), (3, .inl (k5 : Int))]) (st' := [.inl (H.1 1826 47), .inr (.inr 1853)]) rfl ?_
            refine h_run 1 (pc' := 150) (l' := [(0, .inr (.inr 1826)), (1, .inl t), (2, .inl 1), (3, .inl (k5 : Int))]) (st' := [.inl 0, .inl (H.1 1826 47), .inr (.inr 1853)]) rfl ?_
            refine h_ist (c := 1853) (j := ((H.1 1826 47)).toNat) (i := (H.1 1826 47)) (x := 0) rfl rfl (by decide) (by decide) (by omega) (by omega) (by decide) ?_
            refine h_run 3 (pc' := 156) (l' := [(0, .inr (.inr 1826)), (1, .inl t), (2, .inl 1), (3, .inl (k5 : Int))]) (st' := [.inl (H.1 1826 47), .inr (.inr 1826)]) rfl ?_
            refine h_run 2 (pc' := 158) (l' := [(0, .inr (.inr 1826)), (1, .inl t), (2, .inl 1), (3, .inl (k5 : Int))]) (st' := [.inl ((H.1 1826 47) + 1), .inr (.inr 1826)]) rfl ?_
            refine h_puti (i := 328) (ci := 13) (k := 47) (a := 1826) (x := ((H.1 1826 47) + 1)) rfl rfl rfl rfl rfl rfl (by decide) (by omega) ?_
            refine h_run 1 (pc' := 162) (l' := [(0, .inr (.inr 1826)), (1, .inl t), (2, .inl 1), (3, .inl (k5 : Int))]) (st' := [.inr (.inr 1826)]) rfl ?_
            have g21 : -2147483648 ≤ (H.1 1826 30) ∧ (H.1 1826 30) ≤ 2147483647 := hrg0.1 1826 13 30 _ .int rfl rfl
            have g22 : -2147483648 ≤ (H.1 1826 29) ∧ (H.1 1826 29) ≤ 2147483647 := hrg0.1 1826 13 29 _ .int rfl rfl
            have g23 : -2147483648 ≤ (H.1 1826 32) ∧ (H.1 1826 32) ≤ 2147483647 := hrg0.1 1826 13 32 _ .int rfl rfl
            refine h_cv (i := 297) (j := 165) (b := 1826) (M' := mt_165) (xs := []) (rest := []) rfl rfl rfl rfl rfl rfl (Nat.le_of_ble_eq_true rfl) (Nat.le_of_ble_eq_true rfl) (by omega) (m_next (by omega) (by omega : 0 ≤ (H.1 1826 30) ∧ (H.1 1826 30) ≤ (H.1 1826 29) ∧ (H.1 1826 29) ≤ 1000) (by omega : 0 ≤ (H.1 1826 35) ∧ (H.1 1826 35) ≤ 5) (by omega : 0 ≤ (H.1 1826 32) ∧ (H.1 1826 32) ≤ 1000)) ?_
            rintro _ H24 ⟨rfl, hx24f, hx24a, hx24b, hx24c, -, hx24e, hx24g⟩
            refine h_rng (fun hrg25 => ?_)
            have hf26 : fr [30, 31, 32, 33, 35, 36, 40, 43, 47] [1851, 1852, 1853] H H24 := fr_t (fr_o (fr_a (fr_a (fr_a (fr_o (fr_a (fr_o (fr_rf _ _ _) (by decide)) (by decide)) (by decide)) (by decide)) (by decide)) (by decide)) (by decide)) hx24f (by decide) (by decide)
            replace hx24a : (H.1 1826 30) ≤ (H24.1 1826 30) := hx24a
            replace hx24b : (H24.1 1826 30) ≤ (H.1 1826 29) := hx24b
            replace hx24g : (H24.1 1826 35) = 0 → ((H24.1 1826 31) = 0 ∨ (H.1 1826 30) < (H24.1 1826 30)) := hx24g
            refine h_run 0 (pc' := 165) (l' := [(0, .inr (.inr 1826)), (1, .inl t), (2, .inl 1), (3, .inl (k5 : Int))]) (st' := []) rfl ?_
            refine h_ret rfl rfl ?_
            have g27 : -2147483648 ≤ (H24.1 1826 30) ∧ (H24.1 1826 30) ≤ 2147483647 := hrg25.1 1826 13 30 _ .int rfl rfl
            have g28 : -2147483648 ≤ (H24.1 1826 35) ∧ (H24.1 1826 35) ≤ 2147483647 := hrg25.1 1826 13 35 _ .int rfl rfl
            have g29 : -2147483648 ≤ (H24.1 1826 32) ∧ (H24.1 1826 32) ≤ 2147483647 := hrg25.1 1826 13 32 _ .int rfl rfl
            have g30 : -2147483648 ≤ (H24.1 1826 29) ∧ (H24.1 1826 29) ≤ 2147483647 := hrg25.1 1826 13 29 _ .int rfl rfl
            have e31 : (H24.1 1826 29) = (H.1 1826 29) := hx24f.2.2 29 (by decide)
            have g32 : -2147483648 ≤ (H24.1 1826 40) ∧ (H24.1 1826 40) ≤ 2147483647 := hrg25.1 1826 13 40 _ .int rfl rfl
            have e33 : (H24.1 1826 40) = ((H.1 1826 40) + 1) := hx24f.2.2 40 (by decide)
            have g34 : -2147483648 ≤ (H24.1 1826 31) ∧ (H24.1 1826 31) ≤ 2147483647 := hrg25.1 1826 13 31 _ .int rfl rfl
            have g35 : -2147483648 ≤ (H24.1 1826 43) ∧ (H24.1 1826 43) ≤ 2147483647 := hrg25.1 1826 13 43 _ .int rfl rfl
            have e36 : (H24.1 1826 43) = ((H.1 1826 43) + 1) := hx24f.2.2 43 (by decide)
            have g37 : -2147483648 ≤ (H24.1 1826 47) ∧ (H24.1 1826 47) ≤ 2147483647 := hrg25.1 1826 13 47 _ .int rfl rfl
            have e38 : (H24.1 1826 47) = ((H.1 1826 47) + 1) := hx24f.2.2 47 (by decide)
            have g39 : -2147483648 ≤ (H24.1 1826 3) ∧ (H24.1 1826 3) ≤ 2147483647 := hrg25.1 1826 13 3 _ .int rfl rfl
            have e40 : (H24.1 1826 3) = (H.1 1826 3) := hx24f.2.2 3 (by decide)
            exact ⟨rfl, hf26, (by omega : (H.1 1826 30) ≤ (H24.1 1826 30) ∧ (H24.1 1826 30) ≤ (H.1 1826 29)), (by omega : 0 ≤ (H24.1 1826 35) ∧ (H24.1 1826 35) ≤ 5), (by omega : (H.1 1826 35) ≠ 0 → (H24.1 1826 35) ≠ 0), (by omega : 0 ≤ (H24.1 1826 32) ∧ (H24.1 1826 32) ≤ 1000), (by omega : 0 ≤ (H24.1 1826 40) ∧ (H24.1 1826 40) ≤ (H.1 1826 40) + 1), (by omega : (H24.1 1826 35) = 0 → (H24.1 1826 31) = 0 ∨ (H.1 1826 30) < (H24.1 1826 30)), fun (q : (H24.1 1826 35) = 0) => ⟨k5, by omega, by omega, (by omega : (H24.1 1826 40) = (H.1 1826 40) + 1 ∧ (H24.1 1826 43) = (H.1 1826 43) + 1 ∧ (H24.1 1826 47) = (H.1 1826 47) + 1), hx24f.2.1 1851 (by decide) (by decide), hx24f.2.1 1852 (by decide) (by decide), hx24f.2.1 1853 (by decide) (by decide)⟩⟩
        · refine h_run 2 (pc' := 88) (l' := [(0, .inr (.inr 1826)), (1, .inl t), (2, .inl 1), (3, .inl (k5 : Int))]) (st' := [.inl 4, .inr (.inr 1826)]) rfl ?_
          refine h_cv (i := 278) (j := 159) (b := 1826) (M' := mt_159) (xs := [.inl 4]) (rest := []) rfl rfl rfl rfl rfl rfl (Nat.le_of_ble_eq_true rfl) (Nat.le_of_ble_eq_true rfl) (by omega) (m_bad0 (by omega) (by omega) (by omega : (H.1 1826 35) = 0)) ?_
          rintro _ _ ⟨rfl, rfl⟩
          refine h_run 0 (pc' := 91) (l' := [(0, .inr (.inr 1826)), (1, .inl t), (2, .inl 1), (3, .inl (k5 : Int))]) (st' := []) rfl ?_
          refine h_run 1 (pc' := 92) (l' := [(0, .inr (.inr 1826)), (1, .inl t), (2, .inl 1), (3, .inl (k5 : Int))]) (st' := [.inr (.inr 1826)]) rfl ?_
          have g41 : -2147483648 ≤ (H.1 1826 40) ∧ (H.1 1826 40) ≤ 2147483647 := hrg0.1 1826 13 40 _ .int rfl rfl
          refine h_cv (i := 344) (j := 168) (b := 1826) (M' := mt_168) (xs := []) (rest := []) rfl rfl rfl rfl rfl rfl (Nat.le_of_ble_eq_true rfl) (Nat.le_of_ble_eq_true rfl) (by omega) (m_countC (by omega) (by omega : (4 : Int) ≠ 0) (by omega : 0 ≤ (H.1 1826 40) ∧ (H.1 1826 40) ≤ 1000)) ?_
          rintro _ _ ⟨rfl, rfl⟩
          refine h_run 0 (pc' := 95) (l' := [(0, .inr (.inr 1826)), (1, .inl t), (2, .inl 1), (3, .inl (k5 : Int))]) (st' := []) rfl ?_
          refine h_run 1 (pc' := 96) (l' := [(0, .inr (.inr 1826)), (1, .inl t), (2, .inl 1), (3, .inl (k5 : Int))]) (st' := [.inr (.inr 1826)]) rfl ?_
          refine h_cv (i := 293) (j := 158) (b := 1826) (M' := mt_158) (xs := []) (rest := []) rfl rfl rfl rfl rfl rfl (Nat.le_of_ble_eq_true rfl) (Nat.le_of_ble_eq_true rfl) (by omega) (m_good0 (by omega) (by omega : (4 : Int) ≠ 0)) ?_
          rintro _ _ ⟨rfl, rfl⟩
          refine h_run 0 (pc' := 99) (l' := [(0, .inr (.inr 1826)), (1, .inl t), (2, .inl 1), (3, .inl (k5 : Int))]) (st' := [.inl 0]) rfl ?_
          refine h_zne (off := 4) (t := 103) rfl rfl (by decide) (fun c => absurd c (by decide)) (fun _ => ?_)
          refine h_ret rfl rfl ?_
          have g42 : -2147483648 ≤ (H.1 1826 30) ∧ (H.1 1826 30) ≤ 2147483647 := hrg0.1 1826 13 30 _ .int rfl rfl
          have g43 : -2147483648 ≤ (H.1 1826 32) ∧ (H.1 1826 32) ≤ 2147483647 := hrg0.1 1826 13 32 _ .int rfl rfl
          have g44 : -2147483648 ≤ (H.1 1826 29) ∧ (H.1 1826 29) ≤ 2147483647 := hrg0.1 1826 13 29 _ .int rfl rfl
          have g45 : -2147483648 ≤ (H.1 1826 31) ∧ (H.1 1826 31) ≤ 2147483647 := hrg0.1 1826 13 31 _ .int rfl rfl
          have g46 : -2147483648 ≤ (H.1 1826 43) ∧ (H.1 1826 43) ≤ 2147483647 := hrg0.1 1826 13 43 _ .int rfl rfl
          have g47 : -2147483648 ≤ (H.1 1826 47) ∧ (H.1 1826 47) ≤ 2147483647 := hrg0.1 1826 13 47 _ .int rfl rfl
          exact ⟨rfl, (fr_o (fr_o (fr_o (fr_rf _ _ _) (by decide)) (by decide)) (by decide)), (by omega : (H.1 1826 30) ≤ (H.1 1826 30) ∧ (H.1 1826 30) ≤ (H.1 1826 29)), (by omega : 0 ≤ (4 : Int) ∧ (4 : Int) ≤ 5), (by omega : (H.1 1826 35) ≠ 0 → (4 : Int) ≠ 0), (by omega : 0 ≤ (H.1 1826 32) ∧ (H.1 1826 32) ≤ 1000), (by omega : 0 ≤ ((H.1 1826 40) + 1) ∧ ((H.1 1826 40) + 1) ≤ (H.1 1826 40) + 1), (by omega : (4 : Int) = 0 → (H.1 1826 31) = 0 ∨ (H.1 1826 30) < (H.1 1826 30)), (fun (q : (4 : Int) = 0) => absurd q (by omega))⟩
      · refine h_run 2 (pc' := 41) (l' := [(0, .inr (.inr 1826)), (1, .inl t), (2, .inl 1), (3, .inl (k5 : Int))]) (st' := [.inl 3, .inr (.inr 1826)]) rfl ?_
        refine h_cv (i := 278) (j := 159) (b := 1826) (M' := mt_159) (xs := [.inl 3]) (rest := []) rfl rfl rfl rfl rfl rfl (Nat.le_of_ble_eq_true rfl) (Nat.le_of_ble_eq_true rfl) (by omega) (m_bad0 (by omega) (by omega) (by omega : (H.1 1826 35) = 0)) ?_
        rintro _ _ ⟨rfl, rfl⟩
        refine h_run 0 (pc' := 44) (l' := [(0, .inr (.inr 1826)), (1, .inl t), (2, .inl 1), (3, .inl (k5 : Int))]) (st' := []) rfl ?_
        refine h_run 1 (pc' := 45) (l' := [(0, .inr (.inr 1826)), (1, .inl t), (2, .inl 1), (3, .inl (k5 : Int))]) (st' := [.inr (.inr 1826)]) rfl ?_
        refine h_cv (i := 293) (j := 158) (b := 1826) (M' := mt_158) (xs := []) (rest := []) rfl rfl rfl rfl rfl rfl (Nat.le_of_ble_eq_true rfl) (Nat.le_of_ble_eq_true rfl) (by omega) (m_good0 (by omega) (by omega : (3 : Int) ≠ 0)) ?_
        rintro _ _ ⟨rfl, rfl⟩
        refine h_run 0 (pc' := 48) (l' := [(0, .inr (.inr 1826)), (1, .inl t), (2, .inl 1), (3, .inl (k5 : Int))]) (st' := [.inl 0]) rfl ?_
        refine h_zeq (off := 21) (t := 69) rfl rfl (by decide) (fun _ => ?_) (fun c => absurd c (by decide))
        refine h_run 1 (pc' := 70) (l' := [(0, .inr (.inr 1826)), (1, .inl t), (2, .inl 1), (3, .inl (k5 : Int))]) (st' := [.inr (.inr 1826)]) rfl ?_
        refine h_cv (i := 293) (j := 158) (b := 1826) (M' := mt_158) (xs := []) (rest := []) rfl rfl rfl rfl rfl rfl (Nat.le_of_ble_eq_true rfl) (Nat.le_of_ble_eq_true rfl) (by omega) (m_good0 (by omega) (by omega : (3 : Int) ≠ 0)) ?_
        rintro _ _ ⟨rfl, rfl⟩
        refine h_run 0 (pc' := 73) (l' := [(0, .inr (.inr 1826)), (1, .inl t), (2, .inl 1), (3, .inl (k5 : Int))]) (st' := [.inl 0]) rfl ?_
        refine h_zeq (off := 18) (t := 91) rfl rfl (by decide) (fun _ => ?_) (fun c => absurd c (by decide))
        refine h_run 1 (pc' := 92) (l' := [(0, .inr (.inr 1826)), (1, .inl t), (2, .inl 1), (3, .inl (k5 : Int))]) (st' := [.inr (.inr 1826)]) rfl ?_
        have g48 : -2147483648 ≤ (H.1 1826 40) ∧ (H.1 1826 40) ≤ 2147483647 := hrg0.1 1826 13 40 _ .int rfl rfl
        refine h_cv (i := 344) (j := 168) (b := 1826) (M' := mt_168) (xs := []) (rest := []) rfl rfl rfl rfl rfl rfl (Nat.le_of_ble_eq_true rfl) (Nat.le_of_ble_eq_true rfl) (by omega) (m_countC (by omega) (by omega : (3 : Int) ≠ 0) (by omega : 0 ≤ (H.1 1826 40) ∧ (H.1 1826 40) ≤ 1000)) ?_
        rintro _ _ ⟨rfl, rfl⟩
        refine h_run 0 (pc' := 95) (l' := [(0, .inr (.inr 1826)), (1, .inl t), (2, .inl 1), (3, .inl (k5 : Int))]) (st' := []) rfl ?_
        refine h_run 1 (pc' := 96) (l' := [(0, .inr (.inr 1826)), (1, .inl t), (2, .inl 1), (3, .inl (k5 : Int))]) (st' := [.inr (.inr 1826)]) rfl ?_
        refine h_cv (i := 293) (j := 158) (b := 1826) (M' := mt_158) (xs := []) (rest := []) rfl rfl rfl rfl rfl rfl (Nat.le_of_ble_eq_true rfl) (Nat.le_of_ble_eq_true rfl) (by omega) (m_good0 (by omega) (by omega : (3 : Int) ≠ 0)) ?_
        rintro _ _ ⟨rfl, rfl⟩
        refine h_run 0 (pc' := 99) (l' := [(0, .inr (.inr 1826)), (1, .inl t), (2, .inl 1), (3, .inl (k5 : Int))]) (st' := [.inl 0]) rfl ?_
        refine h_zne (off := 4) (t := 103) rfl rfl (by decide) (fun c => absurd c (by decide)) (fun _ => ?_)
        refine h_ret rfl rfl ?_
        have g49 : -2147483648 ≤ (H.1 1826 30) ∧ (H.1 1826 30) ≤ 2147483647 := hrg0.1 1826 13 30 _ .int rfl rfl
        have g50 : -2147483648 ≤ (H.1 1826 32) ∧ (H.1 1826 32) ≤ 2147483647 := hrg0.1 1826 13 32 _ .int rfl rfl
        have g51 : -2147483648 ≤ (H.1 1826 29) ∧ (H.1 1826 29) ≤ 2147483647 := hrg0.1 1826 13 29 _ .int rfl rfl
        have g52 : -2147483648 ≤ (H.1 1826 31) ∧ (H.1 1826 31) ≤ 2147483647 := hrg0.1 1826 13 31 _ .int rfl rfl
        have g53 : -2147483648 ≤ (H.1 1826 43) ∧ (H.1 1826 43) ≤ 2147483647 := hrg0.1 1826 13 43 _ .int rfl rfl
        have g54 : -2147483648 ≤ (H.1 1826 47) ∧ (H.1 1826 47) ≤ 2147483647 := hrg0.1 1826 13 47 _ .int rfl rfl
        exact ⟨rfl, (fr_o (fr_o (fr_o (fr_rf _ _ _) (by decide)) (by decide)) (by decide)), (by omega : (H.1 1826 30) ≤ (H.1 1826 30) ∧ (H.1 1826 30) ≤ (H.1 1826 29)), (by omega : 0 ≤ (3 : Int) ∧ (3 : Int) ≤ 5), (by omega : (H.1 1826 35) ≠ 0 → (3 : Int) ≠ 0), (by omega : 0 ≤ (H.1 1826 32) ∧ (H.1 1826 32) ≤ 1000), (by omega : 0 ≤ ((H.1 1826 40) + 1) ∧ ((H.1 1826 40) + 1) ≤ (H.1 1826 40) + 1), (by omega : (3 : Int) = 0 → (H.1 1826 31) = 0 ∨ (H.1 1826 30) < (H.1 1826 30)), (fun (q : (3 : Int) = 0) => absurd q (by omega))⟩
    · refine h_run 0 (pc' := 22) (l' := [(0, .inr (.inr 1826)), (1, .inl t), (2, .inl 1)]) (st' := [.inl (-1)]) rfl ?_
      refine h_run 3 (pc' := 28) (l' := [(0, .inr (.inr 1826)), (1, .inl t), (2, .inl 1), (3, .inl (-1))]) (st' := [.inr (.inr 1826)]) rfl ?_
      refine h_cv (i := 293) (j := 158) (b := 1826) (M' := mt_158) (xs := []) (rest := []) rfl rfl rfl rfl rfl rfl (Nat.le_of_ble_eq_true rfl) (Nat.le_of_ble_eq_true rfl) (by omega) (m_good1 (by omega) (by omega : (H.1 1826 35) = 0)) ?_
      rintro _ _ ⟨rfl, rfl⟩
      refine h_run 0 (pc' := 31) (l' := [(0, .inr (.inr 1826)), (1, .inl t), (2, .inl 1), (3, .inl (-1))]) (st' := [.inl 1]) rfl ?_
      refine h_zeq (off := 13) (t := 44) rfl rfl (by decide) (fun c => absurd c (by decide)) (fun _ => ?_)
      refine h_run 2 (pc' := 36) (l' := [(0, .inr (.inr 1826)), (1, .inl t), (2, .inl 1), (3, .inl (-1))]) (st' := [.inl (-1), .inl (-1)]) rfl ?_
      refine h_ine (off := 8) (t := 44) rfl rfl (by decide) (by decide) (fun c => absurd c (by decide)) (fun _ => ?_)
      refine h_run 2 (pc' := 41) (l' := [(0, .inr (.inr 1826)), (1, .inl t), (2, .inl 1), (3, .inl (-1))]) (st' := [.inl 3, .inr (.inr 1826)]) rfl ?_
      refine h_cv (i := 278) (j := 159) (b := 1826) (M' := mt_159) (xs := [.inl 3]) (rest := []) rfl rfl rfl rfl rfl rfl (Nat.le_of_ble_eq_true rfl) (Nat.le_of_ble_eq_true rfl) (by omega) (m_bad0 (by omega) (by omega) (by omega : (H.1 1826 35) = 0)) ?_
      rintro _ _ ⟨rfl, rfl⟩
      refine h_run 0 (pc' := 44) (l' := [(0, .inr (.inr 1826)), (1, .inl t), (2, .inl 1), (3, .inl (-1))]) (st' := []) rfl ?_
      refine h_run 1 (pc' := 45) (l' := [(0, .inr (.inr 1826)), (1, .inl t), (2, .inl 1), (3, .inl (-1))]) (st' := [.inr (.inr 1826)]) rfl ?_
      refine h_cv (i := 293) (j := 158) (b := 1826) (M' := mt_158) (xs := []) (rest := []) rfl rfl rfl rfl rfl rfl (Nat.le_of_ble_eq_true rfl) (Nat.le_of_ble_eq_true rfl) (by omega) (m_good0 (by omega) (by omega : (3 : Int) ≠ 0)) ?_
      rintro _ _ ⟨rfl, rfl⟩
      refine h_run 0 (pc' := 48) (l' := [(0, .inr (.inr 1826)), (1, .inl t), (2, .inl 1), (3, .inl (-1))]) (st' := [.inl 0]) rfl ?_
      refine h_zeq (off := 21) (t := 69) rfl rfl (by decide) (fun _ => ?_) (fun c => absurd c (by decide))
      refine h_run 1 (pc' := 70) (l' := [(0, .inr (.inr 1826)), (1, .inl t), (2, .inl 1), (3, .inl (-1))]) (st' := [.inr (.inr 1826)]) rfl ?_
      refine h_cv (i := 293) (j := 158) (b := 1826) (M' := mt_158) (xs := []) (rest := []) rfl rfl rfl rfl rfl rfl (Nat.le_of_ble_eq_true rfl) (Nat.le_of_ble_eq_true rfl) (by omega) (m_good0 (by omega) (by omega : (3 : Int) ≠ 0)) ?_
      rintro _ _ ⟨rfl, rfl⟩
      refine h_run 0 (pc' := 73) (l' := [(0, .inr (.inr 1826)), (1, .inl t), (2, .inl 1), (3, .inl (-1))]) (st' := [.inl 0]) rfl ?_
      refine h_zeq (off := 18) (t := 91) rfl rfl (by decide) (fun _ => ?_) (fun c => absurd c (by decide))
      refine h_run 1 (pc' := 92) (l' := [(0, .inr (.inr 1826)), (1, .inl t), (2, .inl 1), (3, .inl (-1))]) (st' := [.inr (.inr 1826)]) rfl ?_
      have g55 : -2147483648 ≤ (H.1 1826 40) ∧ (H.1 1826 40) ≤ 2147483647 := hrg0.1 1826 13 40 _ .int rfl rfl
      refine h_cv (i := 344) (j := 168) (b := 1826) (M' := mt_168) (xs := []) (rest := []) rfl rfl rfl rfl rfl rfl (Nat.le_of_ble_eq_true rfl) (Nat.le_of_ble_eq_true rfl) (by omega) (m_countC (by omega) (by omega : (3 : Int) ≠ 0) (by omega : 0 ≤ (H.1 1826 40) ∧ (H.1 1826 40) ≤ 1000)) ?_
      rintro _ _ ⟨rfl, rfl⟩
      refine h_run 0 (pc' := 95) (l' := [(0, .inr (.inr 1826)), (1, .inl t), (2, .inl 1), (3, .inl (-1))]) (st' := []) rfl ?_
      refine h_run 1 (pc' := 96) (l' := [(0, .inr (.inr 1826)), (1, .inl t), (2, .inl 1), (3, .inl (-1))]) (st' := [.inr (.inr 1826)]) rfl ?_
      refine h_cv (i := 293) (j := 158) (b := 1826) (M' := mt_158) (xs := []) (rest := []) rfl rfl rfl rfl rfl rfl (Nat.le_of_ble_eq_true rfl) (Nat.le_of_ble_eq_true rfl) (by omega) (m_good0 (by omega) (by omega : (3 : Int) ≠ 0)) ?_
      rintro _ _ ⟨rfl, rfl⟩
      refine h_run 0 (pc' := 99) (l' := [(0, .inr (.inr 1826)), (1, .inl t), (2, .inl 1), (3, .inl (-1))]) (st' := [.inl 0]) rfl ?_
      refine h_zne (off := 4) (t := 103) rfl rfl (by decide) (fun c => absurd c (by decide)) (fun _ => ?_)
      refine h_ret rfl rfl ?_
      have g56 : -2147483648 ≤ (H.1 1826 30) ∧ (H.1 1826 30) ≤ 2147483647 := hrg0.1 1826 13 30 _ .int rfl rfl
      have g57 : -2147483648 ≤ (H.1 1826 32) ∧ (H.1 1826 32) ≤ 2147483647 := hrg0.1 1826 13 32 _ .int rfl rfl
      have g58 : -2147483648 ≤ (H.1 1826 29) ∧ (H.1 1826 29) ≤ 2147483647 := hrg0.1 1826 13 29 _ .int rfl rfl
      have g59 : -2147483648 ≤ (H.1 1826 31) ∧ (H.1 1826 31) ≤ 2147483647 := hrg0.1 1826 13 31 _ .int rfl rfl
      have g60 : -2147483648 ≤ (H.1 1826 43) ∧ (H.1 1826 43) ≤ 2147483647 := hrg0.1 1826 13 43 _ .int rfl rfl
      have g61 : -2147483648 ≤ (H.1 1826 47) ∧ (H.1 1826 47) ≤ 2147483647 := hrg0.1 1826 13 47 _ .int rfl rfl
      exact ⟨rfl, (fr_o (fr_o (fr_o (fr_rf _ _ _) (by decide)) (by decide)) (by decide)), (by omega : (H.1 1826 30) ≤ (H.1 1826 30) ∧ (H.1 1826 30) ≤ (H.1 1826 29)), (by omega : 0 ≤ (3 : Int) ∧ (3 : Int) ≤ 5), (by omega : (H.1 1826 35) ≠ 0 → (3 : Int) ≠ 0), (by omega : 0 ≤ (H.1 1826 32) ∧ (H.1 1826 32) ≤ 1000), (by omega : 0 ≤ ((H.1 1826 40) + 1) ∧ ((H.1 1826 40) + 1) ≤ (H.1 1826 40) + 1), (by omega : (3 : Int) = 0 → (H.1 1826 31) = 0 ∨ (H.1 1826 30) < (H.1 1826 30)), (fun (q : (3 : Int) = 0) => absurd q (by omega))⟩
  · have b2x : (H.1 1826 35) ≠ 0 := b2
    refine h_run 0 (pc' := 4) (l' := [(0, .inr (.inr 1826)), (1, .inl t), (2, .inl 1)]) (st' := [.inl 0]) rfl ?_
    refine h_zeq (off := 21) (t := 25) rfl rfl (by decide) (fun _ => ?_) (fun c => absurd c (by decide))
    refine h_run 3 (pc' := 28) (l' := [(0, .inr (.inr 1826)), (1, .inl t), (2, .inl 1), (3, .inl (-1))]) (st' := [.inr (.inr 1826)]) rfl ?_
    refine h_cv (i := 293) (j := 158) (b := 1826) (M' := mt_158) (xs := []) (rest := []) rfl rfl rfl rfl rfl rfl (Nat.le_of_ble_eq_true rfl) (Nat.le_of_ble_eq_true rfl) (by omega) (m_good0 (by omega) (by omega : (H.1 1826 35) ≠ 0)) ?_
    rintro _ _ ⟨rfl, rfl⟩
    refine h_run 0 (pc' := 31) (l' := [(0, .inr (.inr 1826)), (1, .inl t), (2, .inl 1), (3, .inl (-1))]) (st' := [.inl 0]) rfl ?_
    refine h_zeq (off := 13) (t := 44) rfl rfl (by decide) (fun _ => ?_) (fun c => absurd c (by decide))
    refine h_run 1 (pc' := 45) (l' := [(0, .inr (.inr 1826)), (1, .inl t), (2, .inl 1), (3, .inl (-1))]) (st' := [.inr (.inr 1826)]) rfl ?_
    refine h_cv (i := 293) (j := 158) (b := 1826) (M' := mt_158) (xs := []) (rest := []) rfl rfl rfl rfl rfl rfl (Nat.le_of_ble_eq_true rfl) (Nat.le_of_ble_eq_true rfl) (by omega) (m_good0 (by omega) (by omega : (H.1 1826 35) ≠ 0)) ?_
    rintro _ _ ⟨rfl, rfl⟩
    refine h_run 0 (pc' := 48) (l' := [(0, .inr (.inr 1826)), (1, .inl t), (2, .inl 1), (3, .inl (-1))]) (st' := [.inl 0]) rfl ?_
    refine h_zeq (off := 21) (t := 69) rfl rfl (by decide) (fun _ => ?_) (fun c => absurd c (by decide))
    refine h_run 1 (pc' := 70) (l' := [(0, .inr (.inr 1826)), (1, .inl t), (2, .inl 1), (3, .inl (-1))]) (st' := [.inr (.inr 1826)]) rfl ?_
    refine h_cv (i := 293) (j := 158) (b := 1826) (M' := mt_158) (xs := []) (rest := []) rfl rfl rfl rfl rfl rfl (Nat.le_of_ble_eq_true rfl) (Nat.le_of_ble_eq_true rfl) (by omega) (m_good0 (by omega) (by omega : (H.1 1826 35) ≠ 0)) ?_
    rintro _ _ ⟨rfl, rfl⟩
    refine h_run 0 (pc' := 73) (l' := [(0, .inr (.inr 1826)), (1, .inl t), (2, .inl 1), (3, .inl (-1))]) (st' := [.inl 0]) rfl ?_
    refine h_zeq (off := 18) (t := 91) rfl rfl (by decide) (fun _ => ?_) (fun c => absurd c (by decide))
    refine h_run 1 (pc' := 92) (l' := [(0, .inr (.inr 1826)), (1, .inl t), (2, .inl 1), (3, .inl (-1))]) (st' := [.inr (.inr 1826)]) rfl ?_
    have g62 : -2147483648 ≤ (H.1 1826 40) ∧ (H.1 1826 40) ≤ 2147483647 := hrg0.1 1826 13 40 _ .int rfl rfl
    refine h_cv (i := 344) (j := 168) (b := 1826) (M' := mt_168) (xs := []) (rest := []) rfl rfl rfl rfl rfl rfl (Nat.le_of_ble_eq_true rfl) (Nat.le_of_ble_eq_true rfl) (by omega) (m_countC (by omega) (by omega : (H.1 1826 35) ≠ 0) (by omega : 0 ≤ (H.1 1826 40) ∧ (H.1 1826 40) ≤ 1000)) ?_
    rintro _ _ ⟨rfl, rfl⟩
    refine h_run 0 (pc' := 95) (l' := [(0, .inr (.inr 1826)), (1, .inl t), (2, .inl 1), (3, .inl (-1))]) (st' := []) rfl ?_
    refine h_run 1 (pc' := 96) (l' := [(0, .inr (.inr 1826)), (1, .inl t), (2, .inl 1), (3, .inl (-1))]) (st' := [.inr (.inr 1826)]) rfl ?_
    refine h_cv (i := 293) (j := 158) (b := 1826) (M' := mt_158) (xs := []) (rest := []) rfl rfl rfl rfl rfl rfl (Nat.le_of_ble_eq_true rfl) (Nat.le_of_ble_eq_true rfl) (by omega) (m_good0 (by omega) (by omega : (H.1 1826 35) ≠ 0)) ?_
    rintro _ _ ⟨rfl, rfl⟩
    refine h_run 0 (pc' := 99) (l' := [(0, .inr (.inr 1826)), (1, .inl t), (2, .inl 1), (3, .inl (-1))]) (st' := [.inl 0]) rfl ?_
    refine h_zne (off := 4) (t := 103) rfl rfl (by decide) (fun c => absurd c (by decide)) (fun _ => ?_)
    refine h_ret rfl rfl ?_
    have g63 : -2147483648 ≤ (H.1 1826 30) ∧ (H.1 1826 30) ≤ 2147483647 := hrg0.1 1826 13 30 _ .int rfl rfl
    have g64 : -2147483648 ≤ (H.1 1826 32) ∧ (H.1 1826 32) ≤ 2147483647 := hrg0.1 1826 13 32 _ .int rfl rfl
    have g65 : -2147483648 ≤ (H.1 1826 29) ∧ (H.1 1826 29) ≤ 2147483647 := hrg0.1 1826 13 29 _ .int rfl rfl
    have g66 : -2147483648 ≤ (H.1 1826 31) ∧ (H.1 1826 31) ≤ 2147483647 := hrg0.1 1826 13 31 _ .int rfl rfl
    have g67 : -2147483648 ≤ (H.1 1826 43) ∧ (H.1 1826 43) ≤ 2147483647 := hrg0.1 1826 13 43 _ .int rfl rfl
    have g68 : -2147483648 ≤ (H.1 1826 47) ∧ (H.1 1826 47) ≤ 2147483647 := hrg0.1 1826 13 47 _ .int rfl rfl
    have g69 : -2147483648 ≤ (H.1 1826 3) ∧ (H.1 1826 3) ≤ 2147483647 := hrg0.1 1826 13 3 _ .int rfl rfl
    exact ⟨rfl, (fr_o (fr_rf _ _ _) (by decide)), (by omega : (H.1 1826 30) ≤ (H.1 1826 30) ∧ (H.1 1826 30) ≤ (H.1 1826 29)), (by omega : 0 ≤ (H.1 1826 35) ∧ (H.1 1826 35) ≤ 5), (by omega : (H.1 1826 35) ≠ 0 → (H.1 1826 35) ≠ 0), (by omega : 0 ≤ (H.1 1826 32) ∧ (H.1 1826 32) ≤ 1000), (by omega : 0 ≤ ((H.1 1826 40) + 1) ∧ ((H.1 1826 40) + 1) ≤ (H.1 1826 40) + 1), (by omega : (H.1 1826 35) = 0 → (H.1 1826 31) = 0 ∨ (H.1 1826 30) < (H.1 1826 30)), (fun (q : (H.1 1826 35) = 0) => absurd q (by omega))⟩

theorem PWc_o {H : hp} {k : Nat} {z : Int} (h : PWc H) (hk : k ∉ [1, 3, 8, 13, 19]) : PWc (zu H 1826 (up (H.1 1826) k z)) := by
  refine PWc_fr h (fr_o (fr_rf [k] [] H) (List.mem_singleton.mpr rfl)) (fun c _ => List.not_mem_nil) (fun j hj q => ?_)
  rw [List.mem_singleton.mp q] at hj
  exact hk hj
theorem PWc_a {H : hp} {c : Nat} {f : Nat → Int} (h : PWc H) (hk : c ∉ [1829, 1830, 1831, 1833, 1834, 1835, 1836, 1837, 1838, 1839, 1840, 1842, 1843, 1845, 1846] ∧ c ≠ 1826) : PWc (zu H c f) := by
  refine PWc_fr (ob := []) (ar := [c]) h ⟨rfl, fun k _ hr => zu_ne _ _ (fun e => hr (List.mem_singleton.mpr e)), fun j _ => by rw [zu_ne _ _ (fun e => hk.2 e.symm)]⟩ (fun k hk2 q => ?_) (fun _ _ => List.not_mem_nil)
  rw [List.mem_singleton.mp q] at hk2
  exact hk.1 hk2

/-! patterns -/
set_option maxRecDepth 100000 in
theorem m_patterns_cut {zC : Nat → Option zsh} {d : Nat} (hd : 6 ≤ d) {H : hp} {f : Nat} (h0 : 0 ≤ (H.1 1826 30) ∧ (H.1 1826 30) ≤ (H.1 1826 29) ∧ (H.1 1826 29) ≤ 1000) (hw : 0 ≤ (H.1 1826 35) ∧ (H.1 1826 35) ≤ 5) (hst : 0 ≤ (H.1 1826 32) ∧ (H.1 1826 32) ≤ 1000) (hP : PWc H) (hfu : (f : Int) < (H.1 1826 8)) (hst0 : (H.1 1826 35) = 0 → (H.1 1826 40) = 1 ∧ (H.1 1826 43) = 0 ∧ (H.1 1826 39) = 0 ∧ (H.1 1826 41) = 0) : ∀ w : Nat, (∀ (H1 : hp), (fr [30, 31, 32, 33, 35, 36, 39, 40, 41, 43, 47] [1849, 1850, 1851, 1852, 1853] H H1) → ((H.1 1826 30) ≤ (H1.1 1826 30) ∧ (H1.1 1826 30) ≤ (H.1 1826 29)) → (0 ≤ (H1.1 1826 35) ∧ (H1.1 1826 35) ≤ 5) → (0 ≤ (H1.1 1826 32) ∧ (H1.1 1826 32) ≤ 1000) → ((H.1 1826 35) ≠ 0 → (H1.1 1826 35) ≠ 0) → ((H1.1 1826 35) = 0 → ∃ n, PT H1 f n) → mu (H1.1 1826 35) (H1.1 1826 31) (H1.1 1826 30) (H.1 1826 29) < w → hG (zs zC) d mt_178 22 [(0, .inr (.inr 1826)), (1, .inl (f : Int))] [] H1 (fun r H2 => r = none ∧ fr [30, 31, 32, 33, 35, 36, 39, 40, 41, 43, 47] [1849, 1850, 1851, 1852, 1853] H H2 ∧ ((H.1 1826 30) ≤ (H2.1 1826 30) ∧ (H2.1 1826 30) ≤ (H.1 1826 29)) ∧ (0 ≤ (H2.1 1826 35) ∧ (H2.1 1826 35) ≤ 5) ∧ ((H.1 1826 35) ≠ 0 → (H2.1 1826 35) ≠ 0) ∧ (0 ≤ (H2.1 1826 32) ∧ (H2.1 1826 32) ≤ 1000) ∧ hid ((H2.1 1826 35) = 0 → ∃ k q : Nat, (H2.1 1826 43) = k ∧ k ≤ 39 ∧ (H2.1 1833) f = q ∧ tm (ma (H2.1 1833) (H2.1 1830)) (m_sp (H2.1 1826 3)) (H2.1 1851) k 0 q ∧ (0 ≤ (H2.1 1826 39) ∧ (H2.1 1826 39) ≤ 39) ∧ ∀ v : Nat, (v : Int) < (H2.1 1826 39) → ∃ y : Nat, y < k ∧ (H2.1 1851) y = 1000 + v))) := by
  intro w
  induction w with
  | zero => exact fun _ _ _ _ _ _ _ h => absurd h (Nat.not_lt_zero _)
  | succ w ih =>
    intro H1 hf ha hk hst1 hwk hPT hw
    refine h_rng (fun hrg1 => ?_)
    obtain ⟨⟨pb1, pb2, pb3, pb4, pb5⟩, pw1, pw2, pw3, pw4⟩ := (id hP : PW H (H.1 1826 1) (H.1 1826 3) (H.1 1826 8) (H.1 1826 13) (H.1 1826 19))
    have hP1 := PWc_fr hP hf (by decide) (by decide)
    refine h_run 1 (pc' := 23) (l' := [(0, .inr (.inr 1826)), (1, .inl (f : Int))]) (st' := [.inr (.inr 1826)]) rfl ?_
    have g2 : -2147483648 ≤ (H1.1 1826 35) ∧ (H1.1 1826 35) ≤ 2147483647 := hrg1.1 1826 13 35 _ .int rfl rfl
    refine h_cv (i := 293) (j := 158) (b := 1826) (M' := mt_158) (xs := []) (rest := []) rfl rfl rfl rfl rfl rfl (Nat.le_of_ble_eq_true rfl) (Nat.le_of_ble_eq_true rfl) (by omega) (m_good (by omega)) ?_
    rintro _ _ ⟨⟨rfl, b3⟩ | ⟨rfl, b3⟩, rfl⟩
    · have b3x : (H1.1 1826 35) = 0 := b3
      refine h_run 0 (pc' := 26) (l' := [(0, .inr (.inr 1826)), (1, .inl (f : Int))]) (st' := [.inl 1]) rfl ?_
      refine h_zeq (off := 241) (t := 267) rfl rfl (by decide) (fun c => absurd c (by decide)) (fun _ => ?_)
      have hw0 : (H.1 1826 35) = 0 := by omega
      clear hwk
      have ety : (H1.1 1826 1) = (H.1 1826 1) := hf.2.2 1 (by decide)
      have eco : (H1.1 1826 3) = (H.1 1826 3) := hf.2.2 3 (by decide)
      have efu : (H1.1 1826 8) = (H.1 1826 8) := hf.2.2 8 (by decide)
      obtain ⟨n, hPT1⟩ := hPT (by omega)
      clear hPT
      obtain ⟨⟨pa1, pa2, pa3, pa4⟩, ⟨pn1, pn2, pn3, pn4, pn5⟩, pS, -, -⟩ := id hPT1
      have hidx : ((H1.1 1826 47) - 1).toNat = n - 1 := by omega
      have hidy : ((H1.1 1826 47)).toNat = n := by omega
      obtain ⟨ps1, ps2, ps3⟩ := pS (n - 1) (by omega)
      rw [← hidx] at ps1 ps2 ps3
      obtain ⟨pr1, -, -⟩ := sg_ar hP1 ps1
      obtain ⟨-, pw1c, -⟩ := (id hP1 : PW H1 (H1.1 1826 1) (H1.1 1826 3) (H1.1 1826 8) (H1.1 1826 13) (H1.1 1826 19))
      refine h_run 2 (pc' := 33) (l' := [(0, .inr (.inr 1826)), (1, .inl (f : Int))]) (st' := [.inl (H1.1 1826 47)]) rfl ?_
      have g4 : -2147483648 ≤ (H1.1 1826 47) ∧ (H1.1 1826 47) ≤ 2147483647 := hrg1.1 1826 13 47 _ .int rfl rfl
      refine h_run 1 (pc' := 34) (l' := [(0, .inr (.inr 1826)), (1, .inl (f : Int))]) (st' := [.inl 1, .inl (H1.1 1826 47)]) rfl ?_
      refine h_igt (off := 11) (t := 45) rfl rfl (by omega) (by decide) (fun c5 => ?_) (fun c5 => ?_)
      · refine h_run 1 (pc' := 46) (l' := [(0, .inr (.inr 1826)), (1, .inl (f : Int))]) (st' := [.inr (.inr 1826)]) rfl ?_
        refine h_cv (i := 341) (j := 174) (b := 1826) (M' := mt_174) (xs := []) (rest := []) rfl rfl rfl rfl rfl rfl (Nat.le_of_ble_eq_true rfl) (Nat.le_of_ble_eq_true rfl) (by omega) (m_wanted (by omega) (by omega) hP1 ps1 ps2) ?_
        rintro _ _ ⟨⟨rfl, wn6⟩ | ⟨rfl, wn6, wn6x⟩, rfl⟩
        · refine h_run 0 (pc' := 49) (l' := [(0, .inr (.inr 1826)), (1, .inl (f : Int))]) (st' := [.inl (-1)]) rfl ?_
          refine h_run 3 (pc' := 52) (l' := [(0, .inr (.inr 1826)), (1, .inl (f : Int)), (2, .inl (-1))]) (st' := [.inl (-1), .inl (-1)]) rfl ?_
          refine h_ine (off := 32) (t := 84) rfl rfl (by decide) (by decide) (fun c => absurd c (by decide)) (fun _ => ?_)
          have hno : ma (H1.1 1833) (H1.1 1830) ((H1.1 1852) (n - 1)) ≤ (H1.1 1853) (n - 1) := by rw [← hidx]; omega
          refine h_run 2 (pc' := 58) (l' := [(0, .inr (.inr 1826)), (1, .inl (f : Int)), (2, .inl (-1))]) (st' := [.inl 41, .inr (.inr 1826)]) rfl ?_
          have g7 : -2147483648 ≤ (H1.1 1826 30) ∧ (H1.1 1826 30) ≤ 2147483647 := hrg1.1 1826 13 30 _ .int rfl rfl
          have g8 : -2147483648 ≤ (H1.1 1826 29) ∧ (H1.1 1826 29) ≤ 2147483647 := hrg1.1 1826 13 29 _ .int rfl rfl
          have e9 : (H1.1 1826 29) = (H.1 1826 29) := hf.2.2 29 (by decide)
          have g10 : -2147483648 ≤ (H1.1 1826 31) ∧ (H1.1 1826 31) ≤ 2147483647 := hrg1.1 1826 13 31 _ .int rfl rfl
          have g12 : -2147483648 ≤ (H1.1 1826 32) ∧ (H1.1 1826 32) ≤ 2147483647 := hrg1.1 1826 13 32 _ .int rfl rfl
          refine h_cv (i := 313) (j := 166) (b := 1826) (M' := mt_166) (xs := [.inl 41]) (rest := []) rfl rfl rfl rfl rfl rfl (Nat.le_of_ble_eq_true rfl) (Nat.le_of_ble_eq_true rfl) (by omega) (m_want (by omega) (by omega : 0 ≤ (H1.1 1826 30) ∧ (H1.1 1826 30) ≤ (H1.1 1826 29) ∧ (H1.1 1826 29) ≤ 1000) (by omega : 0 ≤ (H1.1 1826 35) ∧ (H1.1 1826 35) ≤ 5) (by omega : 0 ≤ (H1.1 1826 32) ∧ (H1.1 1826 32) ≤ 1000) (by omega)) ?_
          rintro _ H11 ⟨rfl, hx11f, hx11a, hx11b, hx11c, -, hx11e, hx11g⟩
          refine h_rng (fun hrg13 => ?_)
          have hf14 : fr [30, 31, 32, 33, 35, 36, 39, 40, 41, 43, 47] [1849, 1850, 1851, 1852, 1853] H H11 := fr_t hf hx11f (by decide) (by decide)
          replace hx11a : (H1.1 1826 30) ≤ (H11.1 1826 30) := hx11a
          replace hx11b : (H11.1 1826 30) ≤ (H1.1 1826 29) := hx11b
          replace hx11g : (H11.1 1826 35) = 0 → (H1.1 1826 31) = (41 : Int) ∧ ((H11.1 1826 31) = 0 ∨ (H1.1 1826 30) < (H11.1 1826 30)) := hx11g
          refine h_run 0 (pc' := 61) (l' := [(0, .inr (.inr 1826)), (1, .inl (f : Int)), (2, .inl (-1))]) (st' := []) rfl ?_
          refine h_run 3 (pc' := 66) (l' := [(0, .inr (.inr 1826)), (1, .inl (f : Int)), (2, .inl (-1))]) (st' := [.inl (H11.1 1826 41), .inr (.inr 1826)]) rfl ?_
          have g15 : -2147483648 ≤ (H11.1 1826 41) ∧ (H11.1 1826 41) ≤ 2147483647 := hrg13.1 1826 13 41 _ .int rfl rfl
          have e16 : (H11.1 1826 41) = (H1.1 1826 41) := hx11f.2.2 41 (by decide)
          refine h_run 2 (pc' := 68) (l' := [(0, .inr (.inr 1826)), (1, .inl (f : Int)), (2, .inl (-1))]) (st' := [.inl ((H11.1 1826 41) - 1), .inr (.inr 1826)]) rfl ?_
          refine h_puti (i := 335) (ci := 13) (k := 41) (a := 1826) (x := ((H11.1 1826 41) - 1)) rfl rfl rfl rfl rfl rfl (by decide) (by omega) ?_
          refine h_run 3 (pc' := 76) (l' := [(0, .inr (.inr 1826)), (1, .inl (f : Int)), (2, .inl (-1))]) (st' := [.inl (H11.1 1826 47), .inr (.inr 1826)]) rfl ?_
          have g17 : -2147483648 ≤ (H11.1 1826 47) ∧ (H11.1 1826 47) ≤ 2147483647 := hrg13.1 1826 13 47 _ .int rfl rfl
          have e18 : (H11.1 1826 47) = (H1.1 1826 47) := hx11f.2.2 47 (by decide)
          refine h_run 2 (pc' := 78) (l' := [(0, .inr (.inr 1826)), (1, .inl (f : Int)), (2, .inl (-1))]) (st' := [.inl ((H11.1 1826 47) - 1), .inr (.inr 1826)]) rfl ?_
          refine h_puti (i := 328) (ci := 13) (k := 47) (a := 1826) (x := ((H11.1 1826 47) - 1)) rfl rfl rfl rfl rfl rfl (by decide) (by omega) ?_
          refine h_run 2 (pc' := 22) (l' := [(0, .inr (.inr 1826)), (1, .inl (f : Int)), (2, .inl (-1))]) (st' := []) rfl ?_
          have g19 : -2147483648 ≤ (H11.1 1826 30) ∧ (H11.1 1826 30) ≤ 2147483647 := hrg13.1 1826 13 30 _ .int rfl rfl
          have g20 : -2147483648 ≤ (H11.1 1826 35) ∧ (H11.1 1826 35) ≤ 2147483647 := hrg13.1 1826 13 35 _ .int rfl rfl
          have g21 : -2147483648 ≤ (H11.1 1826 32) ∧ (H11.1 1826 32) ≤ 2147483647 := hrg13.1 1826 13 32 _ .int rfl rfl
          have g22 : -2147483648 ≤ (H11.1 1826 31) ∧ (H11.1 1826 31) ≤ 2147483647 := hrg13.1 1826 13 31 _ .int rfl rfl
          have g23 : -2147483648 ≤ (H11.1 1826 29) ∧ (H11.1 1826 29) ≤ 2147483647 := hrg13.1 1826 13 29 _ .int rfl rfl
          have e24 : (H11.1 1826 29) = (H1.1 1826 29) := hx11f.2.2 29 (by decide)
          refine h_loc [0, 1] rfl ?_
          exact ih _ (fr_o (fr_o hf14 (by decide)) (by decide)) (by omega : (H.1 1826 30) ≤ (H11.1 1826 30) ∧ (H11.1 1826 30) ≤ (H.1 1826 29)) (by omega : 0 ≤ (H11.1 1826 35) ∧ (H11.1 1826 35) ≤ 5) (by omega : 0 ≤ (H11.1 1826 32) ∧ (H11.1 1826 32) ≤ 1000) (by omega : (H.1 1826 35) ≠ 0 → (H11.1 1826 35) ≠ 0) (fun _ => ⟨_, PT_shut hPT1 (by omega) hno (hx11f.2.1 1833 (by decide) (by decide)) (hx11f.2.1 1830 (by decide) (by decide)) ⟨hx11f.2.2 3 (by decide), hx11f.2.2 8 (by decide)⟩ ⟨hx11f.2.2 40 (by decide), hx11f.2.2 43 (by decide), hx11f.2.2 39 (by decide)⟩ (hx11f.2.1 1851 (by decide) (by decide)) ⟨(by omega : ((H11.1 1826 47) - 1) = (H1.1 1826 47) - 1), (by omega : ((H11.1 1826 41) - 1) = (H1.1 1826 41) - 1)⟩ (hx11f.2.1 1852 (by decide) (by decide)) (hx11f.2.1 1853 (by decide) (by decide))⟩) (mu_lt hw (by omega) (by omega : (H11.1 1826 35) ≠ 0 ∨ ((H1.1 1826 30) ≤ (H11.1 1826 30) ∧ (H11.1 1826 30) ≤ (H.1 1826 29) ∧ (((H11.1 1826 31) = 0 ∧ (H1.1 1826 31) ≠ 0) ∨ (H1.1 1826 30) < (H11.1 1826 30)))))
        · refine h_run 0 (pc' := 49) (l' := [(0, .inr (.inr 1826)), (1, .inl (f : Int))]) (st' := [.inl (aty H1 (H1.1 1852 ((H1.1 1826 47) - 1).toNat) (H1.1 1853 ((H1.1 1826 47) - 1).toNat))]) rfl ?_
          refine h_run 3 (pc' := 52) (l' := [(0, .inr (.inr 1826)), (1, .inl (f : Int)), (2, .inl (aty H1 (H1.1 1852 ((H1.1 1826 47) - 1).toNat) (H1.1 1853 ((H1.1 1826 47) - 1).toNat)))]) (st' := [.inl (-1), .inl (aty H1 (H1.1 1852 ((H1.1 1826 47) - 1).toNat) (H1.1 1853 ((H1.1 1826 47) - 1).toNat))]) rfl ?_
          refine h_ine (off := 32) (t := 84) rfl rfl (by omega) (by decide) (fun c25 => ?_) (fun c25 => ?_)
          · have hno : (H1.1 1853) (n - 1) < ma (H1.1 1833) (H1.1 1830) ((H1.1 1852) (n - 1)) := by rw [← hidx]; omega
            refine h_run 2 (pc' := 88) (l' := [(0, .inr (.inr 1826)), (1, .inl (f : Int)), (2, .inl (aty H1 (H1.1 1852 ((H1.1 1826 47) - 1).toNat) (H1.1 1853 ((H1.1 1826 47) - 1).toNat)))]) (st' := [.inl (H1.1 1826 31)]) rfl ?_
            have g26 : -2147483648 ≤ (H1.1 1826 31) ∧ (H1.1 1826 31) ≤ 2147483647 := hrg1.1 1826 13 31 _ .int rfl rfl
            refine h_run 1 (pc' := 89) (l' := [(0, .inr (.inr 1826)), (1, .inl (f : Int)), (2, .inl (aty H1 (H1.1 1852 ((H1.1 1826 47) - 1).toNat) (H1.1 1853 ((H1.1 1826 47) - 1).toNat)))]) (st' := [.inl 1, .inl (H1.1 1826 31)]) rfl ?_
            refine h_ine (off := 100) (t := 189) rfl rfl (by omega) (by decide) (fun c27 => ?_) (fun c27 => ?_)
            · refine h_run 2 (pc' := 193) (l' := [(0, .inr (.inr 1826)), (1, .inl (f : Int)), (2, .inl (aty H1 (H1.1 1852 ((H1.1 1826 47) - 1).toNat) (H1.1 1853 ((H1.1 1826 47) - 1).toNat)))]) (st' := [.inl (H1.1 1826 31)]) rfl ?_
              refine h_run 1 (pc' := 194) (l' := [(0, .inr (.inr 1826)), (1, .inl (f : Int)), (2, .inl (aty H1 (H1.1 1852 ((H1.1 1826 47) - 1).toNat) (H1.1 1853 ((H1.1 1826 47) - 1).toNat)))]) (st' := [.inl 2, .inl (H1.1 1826 31)]) rfl ?_
              refine h_ine (off := 12) (t := 206) rfl rfl (by omega) (by decide) (fun c28 => ?_) (fun c28 => ?_)
              · refine h_run 2 (pc' := 210) (l' := [(0, .inr (.inr 1826)), (1, .inl (f : Int)), (2, .inl (aty H1 (H1.1 1852 ((H1.1 1826 47) - 1).toNat) (H1.1 1853 ((H1.1 1826 47) - 1).toNat)))]) (st' := [.inl (H1.1 1826 31)]) rfl ?_
                refine h_run 1 (pc' := 212) (l' := [(0, .inr (.inr 1826)), (1, .inl (f : Int)), (2, .inl (aty H1 (H1.1 1852 ((H1.1 1826 47) - 1).toNat) (H1.1 1853 ((H1.1 1826 47) - 1).toNat)))]) (st' := [.inl 40, .inl (H1.1 1826 31)]) rfl ?_
                refine h_ine (off := 47) (t := 259) rfl rfl (by omega) (by decide) (fun c29 => ?_) (fun c29 => ?_)
                · refine h_run 2 (pc' := 261) (l' := [(0, .inr (.inr 1826)), (1, .inl (f : Int)), (2, .inl (aty H1 (H1.1 1852 ((H1.1 1826 47) - 1).toNat) (H1.1 1853 ((H1.1 1826 47) - 1).toNat)))]) (st' := [.inl 2, .inr (.inr 1826)]) rfl ?_
                  refine h_cv (i := 278) (j := 159) (b := 1826) (M' := mt_159) (xs := [.inl 2]) (rest := []) rfl rfl rfl rfl rfl rfl (Nat.le_of_ble_eq_true rfl) (Nat.le_of_ble_eq_true rfl) (by omega) (m_bad0 (by omega) (by omega) (by omega : (H1.1 1826 35) = 0)) ?_
                  rintro _ _ ⟨rfl, rfl⟩
                  refine h_run 0 (pc' := 264) (l' := [(0, .inr (.inr 1826)), (1, .inl (f : Int)), (2, .inl (aty H1 (H1.1 1852 ((H1.1 1826 47) - 1).toNat) (H1.1 1853 ((H1.1 1826 47) - 1).toNat)))]) (st' := []) rfl ?_
                  refine h_run 1 (pc' := 22) (l' := [(0, .inr (.inr 1826)), (1, .inl (f : Int)), (2, .inl (aty H1 (H1.1 1852 ((H1.1 1826 47) - 1).toNat) (H1.1 1853 ((H1.1 1826 47) - 1).toNat)))]) (st' := []) rfl ?_
                  have g30 : -2147483648 ≤ (H1.1 1826 30) ∧ (H1.1 1826 30) ≤ 2147483647 := hrg1.1 1826 13 30 _ .int rfl rfl
                  have g31 : -2147483648 ≤ (H1.1 1826 32) ∧ (H1.1 1826 32) ≤ 2147483647 := hrg1.1 1826 13 32 _ .int rfl rfl
                  have g32 : -2147483648 ≤ (H1.1 1826 29) ∧ (H1.1 1826 29) ≤ 2147483647 := hrg1.1 1826 13 29 _ .int rfl rfl
                  have e33 : (H1.1 1826 29) = (H.1 1826 29) := hf.2.2 29 (by decide)
                  have g34 : -2147483648 ≤ (H1.1 1826 41) ∧ (H1.1 1826 41) ≤ 2147483647 := hrg1.1 1826 13 41 _ .int rfl rfl
                  refine h_loc [0, 1] rfl ?_
                  exact ih _ (fr_o (fr_o hf (by decide)) (by decide)) (by omega : (H.1 1826 30) ≤ (H1.1 1826 30) ∧ (H1.1 1826 30) ≤ (H.1 1826 29)) (by omega : 0 ≤ (2 : Int) ∧ (2 : Int) ≤ 5) (by omega : 0 ≤ (H1.1 1826 32) ∧ (H1.1 1826 32) ≤ 1000) (by omega : (H.1 1826 35) ≠ 0 → (2 : Int) ≠ 0) (fun (q : (2 : Int) = 0) => absurd q (by omega)) (mu_lt hw (by omega) (by omega : (2 : Int) ≠ 0 ∨ ((H1.1 1826 30) ≤ (H1.1 1826 30) ∧ (H1.1 1826 30) ≤ (H.1 1826 29) ∧ (((H1.1 1826 31) = 0 ∧ (H1.1 1826 31) ≠ 0) ∨ (H1.1 1826 30) < (H1.1 1826 30)))))
                · refine h_run 1 (pc' := 216) (l' := [(0, .inr (.inr 1826)), (1, .inl (f : Int)), (2, .inl (aty H1 (H1.1 1852 ((H1.1 1826 47) - 1).toNat) (H1.1 1853 ((H1.1 1826 47) - 1).toNat)))]) (st' := [.inr (.inr 1826)]) rfl ?_
                  have g35 : -2147483648 ≤ (H1.1 1826 41) ∧ (H1.1 1826 41) ≤ 2147483647 := hrg1.1 1826 13 41 _ .int rfl rfl
                  by_cases b36 : (H1.1 1826 41) = 10
                  · refine h_cv (i := 357) (j := 176) (b := 1826) (M' := mt_176) (xs := []) (rest := []) rfl rfl rfl rfl rfl rfl (Nat.le_of_ble_eq_true rfl) (Nat.le_of_ble_eq_true rfl) (by omega) (m_deepB (by omega) (by omega : (H1.1 1826 35) = 0) (by omega : (H1.1 1826 41) = 10)) ?_
                    rintro _ _ ⟨rfl, rfl⟩
                    refine h_run 0 (pc' := 219) (l' := [(0, .inr (.inr 1826)), (1, .inl (f : Int)), (2, .inl (aty H1 (H1.1 1852 ((H1.1 1826 47) - 1).toNat) (H1.1 1853 ((H1.1 1826 47) - 1).toNat)))]) (st' := []) rfl ?_
                    refine h_run 1 (pc' := 220) (l' := [(0, .inr (.inr 1826)), (1, .inl (f : Int)), (2, .inl (aty H1 (H1.1 1852 ((H1.1 1826 47) - 1).toNat) (H1.1 1853 ((H1.1 1826 47) - 1).toNat)))]) (st' := [.inr (.inr 1826)]) rfl ?_
                    refine h_cv (i := 293) (j := 158) (b := 1826) (M' := mt_158) (xs := []) (rest := []) rfl rfl rfl rfl rfl rfl (Nat.le_of_ble_eq_true rfl) (Nat.le_of_ble_eq_true rfl) (by omega) (m_good0 (by omega) (by omega : (5 : Int) ≠ 0)) ?_
                    rintro _ _ ⟨rfl, rfl⟩
                    refine h_run 0 (pc' := 223) (l' := [(0, .inr (.inr 1826)), (1, .inl (f : Int)), (2, .inl (aty H1 (H1.1 1852 ((H1.1 1826 47) - 1).toNat) (H1.1 1853 ((H1.1 1826 47) - 1).toNat)))]) (st' := [.inl 0]) rfl ?_
                    refine h_zeq (off := 7) (t := 230) rfl rfl (by decide) (fun _ => ?_) (fun c => absurd c (by decide))
                    refine h_run 1 (pc' := 231) (l' := [(0, .inr (.inr 1826)), (1, .inl (f : Int)), (2, .inl (aty H1 (H1.1 1852 ((H1.1 1826 47) - 1).toNat) (H1.1 1853 ((H1.1 1826 47) - 1).toNat)))]) (st' := [.inr (.inr 1826)]) rfl ?_
                    refine h_cv (i := 293) (j := 158) (b := 1826) (M' := mt_158) (xs := []) (rest := []) rfl rfl rfl rfl rfl rfl (Nat.le_of_ble_eq_true rfl) (Nat.le_of_ble_eq_true rfl) (by omega) (m_good0 (by omega) (by omega : (5 : Int) ≠ 0)) ?_
                    rintro _ _ ⟨rfl, rfl⟩
                    refine h_run 0 (pc' := 234) (l' := [(0, .inr (.inr 1826)), (1, .inl (f : Int)), (2, .inl (aty H1 (H1.1 1852 ((H1.1 1826 47) - 1).toNat) (H1.1 1853 ((H1.1 1826 47) - 1).toNat)))]) (st' := [.inl 0]) rfl ?_
                    refine h_zeq (off := 16) (t := 250) rfl rfl (by decide) (fun _ => ?_) (fun c => absurd c (by decide))
                    refine h_run 3 (pc' := 253) (l' := [(0, .inr (.inr 1826)), (1, .inl (f : Int)), (2, .inl (aty H1 (H1.1 1852 ((H1.1 1826 47) - 1).toNat) (H1.1 1853 ((H1.1 1826 47) - 1).toNat)))]) (st' := [.inl 1, .inl (aty H1 (H1.1 1852 ((H1.1 1826 47) - 1).toNat) (H1.1 1853 ((H1.1 1826 47) - 1).toNat)), .inr (.inr 1826)]) rfl ?_
                    have g37 : -2147483648 ≤ (H1.1 1826 30) ∧ (H1.1 1826 30) ≤ 2147483647 := hrg1.1 1826 13 30 _ .int rfl rfl
                    have g38 : -2147483648 ≤ (H1.1 1826 29) ∧ (H1.1 1826 29) ≤ 2147483647 := hrg1.1 1826 13 29 _ .int rfl rfl
                    have e39 : (H1.1 1826 29) = (H.1 1826 29) := hf.2.2 29 (by decide)
                    have g40 : -2147483648 ≤ (H1.1 1826 40) ∧ (H1.1 1826 40) ≤ 2147483647 := hrg1.1 1826 13 40 _ .int rfl rfl
                    have g41 : -2147483648 ≤ (H1.1 1826 43) ∧ (H1.1 1826 43) ≤ 2147483647 := hrg1.1 1826 13 43 _ .int rfl rfl
                    have g43 : -2147483648 ≤ (H1.1 1826 32) ∧ (H1.1 1826 32) ≤ 2147483647 := hrg1.1 1826 13 32 _ .int rfl rfl
                    refine h_cv (i := 353) (j := 179) (b := 1826) (M' := mt_179) (xs := [.inl 1, .inl (aty H1 (H1.1 1852 ((H1.1 1826 47) - 1).toNat) (H1.1 1853 ((H1.1 1826 47) - 1).toNat))]) (rest := []) rfl rfl rfl rfl rfl rfl (Nat.le_of_ble_eq_true rfl) (Nat.le_of_ble_eq_true rfl) (by omega) (m_patCon1 (by omega) (by omega : 0 ≤ (H1.1 1826 30) ∧ (H1.1 1826 30) ≤ (H1.1 1826 29) ∧ (H1.1 1826 29) ≤ 1000) (by omega : 0 ≤ (5 : Int) ∧ (5 : Int) ≤ 5) (by omega : 0 ≤ (H1.1 1826 32) ∧ (H1.1 1826 32) ≤ 1000) (PWc_o (PWc_o (PWc_o hP1 (by decide)) (by decide)) (by decide)) (by omega : 1 ≤ (H1.1 1826 47) ∧ (H1.1 1826 47) ≤ 63) (by omega : 0 ≤ (H1.1 1826 40) ∧ (H1.1 1826 40) ≤ 999) (by omega : 0 ≤ (H1.1 1826 43) ∧ (H1.1 1826 43) ≤ 46) (by omega : 0 ≤ (H1.1 1853 ((H1.1 1826 47) - 1).toNat) ∧ (H1.1 1853 ((H1.1 1826 47) - 1).toNat) ≤ 1000) (by omega)) ?_
                    rintro _ H42 ⟨rfl, hx42f, hx42a, hx42c, hx42d, hx42e, hx42n, hx42g, hx42p⟩
                    refine h_rng (fun hrg44 => ?_)
                    have hf45 : fr [30, 31, 32, 33, 35, 36, 39, 40, 41, 43, 47] [1849, 1850, 1851, 1852, 1853] H H42 := fr_t (fr_o (fr_o (fr_o hf (by decide)) (by decide)) (by decide)) hx42f (by decide) (by decide)
                    replace hx42a : (H1.1 1826 30) ≤ (H42.1 1826 30) ∧ (H42.1 1826 30) ≤ (H1.1 1826 29) := hx42a
                    replace hx42g : (H42.1 1826 35) = 0 → (H42.1 1826 31) = 0 ∨ (H1.1 1826 30) < (H42.1 1826 30) := hx42g
                    replace hx42n : 0 ≤ (H42.1 1826 40) ∧ (H42.1 1826 40) ≤ (H1.1 1826 40) + 1 := hx42n
                    replace hx42d : (H42.1 1826 35) ≠ 0 := hx42d (by omega : (5 : Int) ≠ 0)
                    refine h_run 0 (pc' := 256) (l' := [(0, .inr (.inr 1826)), (1, .inl (f : Int)), (2, .inl (aty H1 (H1.1 1852 ((H1.1 1826 47) - 1).toNat) (H1.1 1853 ((H1.1 1826 47) - 1).toNat)))]) (st' := []) rfl ?_
                    refine h_run 2 (pc' := 22) (l' := [(0, .inr (.inr 1826)), (1, .inl (f : Int)), (2, .inl (aty H1 (H1.1 1852 ((H1.1 1826 47) - 1).toNat) (H1.1 1853 ((H1.1 1826 47) - 1).toNat)))]) (st' := []) rfl ?_
                    have g46 : -2147483648 ≤ (H42.1 1826 30) ∧ (H42.1 1826 30) ≤ 2147483647 := hrg44.1 1826 13 30 _ .int rfl rfl
                    have g47 : -2147483648 ≤ (H42.1 1826 35) ∧ (H42.1 1826 35) ≤ 2147483647 := hrg44.1 1826 13 35 _ .int rfl rfl
                    have g48 : -2147483648 ≤ (H42.1 1826 32) ∧ (H42.1 1826 32) ≤ 2147483647 := hrg44.1 1826 13 32 _ .int rfl rfl
                    have g49 : -2147483648 ≤ (H42.1 1826 31) ∧ (H42.1 1826 31) ≤ 2147483647 := hrg44.1 1826 13 31 _ .int rfl rfl
                    have g50 : -2147483648 ≤ (H42.1 1826 29) ∧ (H42.1 1826 29) ≤ 2147483647 := hrg44.1 1826 13 29 _ .int rfl rfl
                    have e51 : (H42.1 1826 29) = (H1.1 1826 29) := hx42f.2.2 29 (by decide)
                    have g52 : -2147483648 ≤ (H42.1 1826 47) ∧ (H42.1 1826 47) ≤ 2147483647 := hrg44.1 1826 13 47 _ .int rfl rfl
                    have g53 : -2147483648 ≤ (H42.1 1826 41) ∧ (H42.1 1826 41) ≤ 2147483647 := hrg44.1 1826 13 41 _ .int rfl rfl
                    have e54 : (H42.1 1826 41) = ((H1.1 1826 41) + 1) := hx42f.2.2 41 (by decide)
                    refine h_loc [0, 1] rfl ?_
                    exact ih _ hf45 (by omega : (H.1 1826 30) ≤ (H42.1 1826 30) ∧ (H42.1 1826 30) ≤ (H.1 1826 29)) (by omega : 0 ≤ (H42.1 1826 35) ∧ (H42.1 1826 35) ≤ 5) (by omega : 0 ≤ (H42.1 1826 32) ∧ (H42.1 1826 32) ≤ 1000) (by omega : (H.1 1826 35) ≠ 0 → (H42.1 1826 35) ≠ 0) (fun (q : (H42.1 1826 35) = 0) => absurd q (by omega)) (mu_lt hw (by omega) (by omega : (H42.1 1826 35) ≠ 0 ∨ ((H1.1 1826 30) ≤ (H42.1 1826 30) ∧ (H42.1 1826 30) ≤ (H.1 1826 29) ∧ (((H42.1 1826 31) = 0 ∧ (H1.1 1826 31) ≠ 0) ∨ (H1.1 1826 30) < (H42.1 1826 30)))))
                  · refine h_cv (i := 357) (j := 176) (b := 1826) (M' := mt_176) (xs := []) (rest := []) rfl rfl rfl rfl rfl rfl (Nat.le_of_ble_eq_true rfl) (Nat.le_of_ble_eq_true rfl) (by omega) (m_deepA (by omega) (by omega : (H1.1 1826 35) = 0) (by omega : 0 ≤ (H1.1 1826 41) ∧ (H1.1 1826 41) ≤ 1000) (by omega : (H1.1 1826 41) ≠ 10)) ?_
                    rintro _ _ ⟨rfl, rfl⟩
                    refine h_run 0 (pc' := 219) (l' := [(0, .inr (.inr 1826)), (1, .inl (f : Int)), (2, .inl (aty H1 (H1.1 1852 ((H1.1 1826 47) - 1).toNat) (H1.1 1853 ((H1.1 1826 47) - 1).toNat)))]) (st' := []) rfl ?_
                    refine h_run 1 (pc' := 220) (l' := [(0, .inr (.inr 1826)), (1, .inl (f : Int)), (2, .inl (aty H1 (H1.1 1852 ((H1.1 1826 47) - 1).toNat) (H1.1 1853 ((H1.1 1826 47) - 1).toNat)))]) (st' := [.inr (.inr 1826)]) rfl ?_
                    refine h_cv (i := 293) (j := 158) (b := 1826) (M' := mt_158) (xs := []) (rest := []) rfl rfl rfl rfl rfl rfl (Nat.le_of_ble_eq_true rfl) (Nat.le_of_ble_eq_true rfl) (by omega) (m_good1 (by omega) (by omega : (H1.1 1826 35) = 0)) ?_
                    rintro _ _ ⟨rfl, rfl⟩
                    refine h_run 0 (pc' := 223) (l' := [(0, .inr (.inr 1826)), (1, .inl (f : Int)), (2, .inl (aty H1 (H1.1 1852 ((H1.1 1826 47) - 1).toNat) (H1.1 1853 ((H1.1 1826 47) - 1).toNat)))]) (st' := [.inl 1]) rfl ?_
                    refine h_zeq (off := 7) (t := 230) rfl rfl (by decide) (fun c => absurd c (by decide)) (fun _ => ?_)
                    refine h_run 1 (pc' := 227) (l' := [(0, .inr (.inr 1826)), (1, .inl (f : Int)), (2, .inl (aty H1 (H1.1 1852 ((H1.1 1826 47) - 1).toNat) (H1.1 1853 ((H1.1 1826 47) - 1).toNat)))]) (st' := [.inr (.inr 1826)]) rfl ?_
                    have g55 : -2147483648 ≤ (H1.1 1826 30) ∧ (H1.1 1826 30) ≤ 2147483647 := hrg1.1 1826 13 30 _ .int rfl rfl
                    have g56 : -2147483648 ≤ (H1.1 1826 29) ∧ (H1.1 1826 29) ≤ 2147483647 := hrg1.1 1826 13 29 _ .int rfl rfl
                    have e57 : (H1.1 1826 29) = (H.1 1826 29) := hf.2.2 29 (by decide)
                    have g58 : -2147483648 ≤ (H1.1 1826 32) ∧ (H1.1 1826 32) ≤ 2147483647 := hrg1.1 1826 13 32 _ .int rfl rfl
                    refine h_cv (i := 297) (j := 165) (b := 1826) (M' := mt_165) (xs := []) (rest := []) rfl rfl rfl rfl rfl rfl (Nat.le_of_ble_eq_true rfl) (Nat.le_of_ble_eq_true rfl) (by omega) (m_next (by omega) (by omega : 0 ≤ (H1.1 1826 30) ∧ (H1.1 1826 30) ≤ (H1.1 1826 29) ∧ (H1.1 1826 29) ≤ 1000) (by omega : 0 ≤ (H1.1 1826 35) ∧ (H1.1 1826 35) ≤ 5) (by omega : 0 ≤ (H1.1 1826 32) ∧ (H1.1 1826 32) ≤ 1000)) ?_
                    rintro _ H59 ⟨rfl, hx59f, hx59a, hx59b, hx59c, -, hx59e, hx59g⟩
                    refine h_rng (fun hrg60 => ?_)
                    have hf61 : fr [30, 31, 32, 33, 35, 36, 39, 40, 41, 43, 47] [1849, 1850, 1851, 1852, 1853] H H59 := fr_t (fr_o hf (by decide)) hx59f (by decide) (by decide)
                    replace hx59a : (H1.1 1826 30) ≤ (H59.1 1826 30) := hx59a
                    replace hx59b : (H59.1 1826 30) ≤ (H1.1 1826 29) := hx59b
                    replace hx59g : (H59.1 1826 35) = 0 → ((H59.1 1826 31) = 0 ∨ (H1.1 1826 30) < (H59.1 1826 30)) := hx59g
                    refine h_run 0 (pc' := 230) (l' := [(0, .inr (.inr 1826)), (1, .inl (f : Int)), (2, .inl (aty H1 (H1.1 1852 ((H1.1 1826 47) - 1).toNat) (H1.1 1853 ((H1.1 1826 47) - 1).toNat)))]) (st' := []) rfl ?_
                    refine h_run 1 (pc' := 231) (l' := [(0, .inr (.inr 1826)), (1, .inl (f : Int)), (2, .inl (aty H1 (H1.1 1852 ((H1.1 1826 47) - 1).toNat) (H1.1 1853 ((H1.1 1826 47) - 1).toNat)))]) (st' := [.inr (.inr 1826)]) rfl ?_
                    have g62 : -2147483648 ≤ (H59.1 1826 35) ∧ (H59.1 1826 35) ≤ 2147483647 := hrg60.1 1826 13 35 _ .int rfl rfl
                    refine h_cv (i := 293) (j := 158) (b := 1826) (M' := mt_158) (xs := []) (rest := []) rfl rfl rfl rfl rfl rfl (Nat.le_of_ble_eq_true rfl) (Nat.le_of_ble_eq_true rfl) (by omega) (m_good (by omega)) ?_
                    rintro _ _ ⟨⟨rfl, b63⟩ | ⟨rfl, b63⟩, rfl⟩
                    · have b63x : (H59.1 1826 35) = 0 := b63
                      replace hx59g := hx59g b63x
                      refine h_run 0 (pc' := 234) (l' := [(0, .inr (.inr 1826)), (1, .inl (f : Int)), (2, .inl (aty H1 (H1.1 1852 ((H1.1 1826 47) - 1).toNat) (H1.1 1853 ((H1.1 1826 47) - 1).toNat)))]) (st' := [.inl 1]) rfl ?_
                      refine h_zeq (off := 16) (t := 250) rfl rfl (by decide) (fun c => absurd c (by decide)) (fun _ => ?_)
                      refine h_run 2 (pc' := 241) (l' := [(0, .inr (.inr 1826)), (1, .inl (f : Int)), (2, .inl (aty H1 (H1.1 1852 ((H1.1 1826 47) - 1).toNat) (H1.1 1853 ((H1.1 1826 47) - 1).toNat)))]) (st' := [.inl (H59.1 1826 31)]) rfl ?_
                      have g64 : -2147483648 ≤ (H59.1 1826 31) ∧ (H59.1 1826 31) ≤ 2147483647 := hrg60.1 1826 13 31 _ .int rfl rfl
                      refine h_run 1 (pc' := 242) (l' := [(0, .inr (.inr 1826)), (1, .inl (f : Int)), (2, .inl (aty H1 (H1.1 1852 ((H1.1 1826 47) - 1).toNat) (H1.1 1853 ((H1.1 1826 47) - 1).toNat)))]) (st' := [.inl 2, .inl (H59.1 1826 31)]) rfl ?_
                      refine h_ieq (off := 8) (t := 250) rfl rfl (by omega) (by decide) (fun c65 => ?_) (fun c65 => ?_)
                      · refine h_run 3 (pc' := 253) (l' := [(0, .inr (.inr 1826)), (1, .inl (f : Int)), (2, .inl (aty H1 (H1.1 1852 ((H1.1 1826 47) - 1).toNat) (H1.1 1853 ((H1.1 1826 47) - 1).toNat)))]) (st' := [.inl 1, .inl (aty H1 (H1.1 1852 ((H1.1 1826 47) - 1).toNat) (H1.1 1853 ((H1.1 1826 47) - 1).toNat)), .inr (.inr 1826)]) rfl ?_
                        have g66 : -2147483648 ≤ (H59.1 1826 30) ∧ (H59.1 1826 30) ≤ 2147483647 := hrg60.1 1826 13 30 _ .int rfl rfl
                        have g67 : -2147483648 ≤ (H59.1 1826 29) ∧ (H59.1 1826 29) ≤ 2147483647 := hrg60.1 1826 13 29 _ .int rfl rfl
                        have e68 : (H59.1 1826 29) = (H1.1 1826 29) := hx59f.2.2 29 (by decide)
                        have g69 : -2147483648 ≤ (H59.1 1826 40) ∧ (H59.1 1826 40) ≤ 2147483647 := hrg60.1 1826 13 40 _ .int rfl rfl
                        have e70 : (H59.1 1826 40) = (H1.1 1826 40) := hx59f.2.2 40 (by decide)
                        have g71 : -2147483648 ≤ (H59.1 1826 43) ∧ (H59.1 1826 43) ≤ 2147483647 := hrg60.1 1826 13 43 _ .int rfl rfl
                        have e72 : (H59.1 1826 43) = (H1.1 1826 43) := hx59f.2.2 43 (by decide)
                        have g73 : -2147483648 ≤ (H59.1 1826 47) ∧ (H59.1 1826 47) ≤ 2147483647 := hrg60.1 1826 13 47 _ .int rfl rfl
                        have e74 : (H59.1 1826 47) = (H1.1 1826 47) := hx59f.2.2 47 (by decide)
                        have g75 : -2147483648 ≤ (H59.1 1826 41) ∧ (H59.1 1826 41) ≤ 2147483647 := hrg60.1 1826 13 41 _ .int rfl rfl
                        have e76 : (H59.1 1826 41) = ((H1.1 1826 41) + 1) := hx59f.2.2 41 (by decide)
                        have g78 : -2147483648 ≤ (H59.1 1826 32) ∧ (H59.1 1826 32) ≤ 2147483647 := hrg60.1 1826 13 32 _ .int rfl rfl
                        refine h_cv (i := 353) (j := 179) (b := 1826) (M' := mt_179) (xs := [.inl 1, .inl (aty H1 (H1.1 1852 ((H1.1 1826 47) - 1).toNat) (H1.1 1853 ((H1.1 1826 47) - 1).toNat))]) (rest := []) rfl rfl rfl rfl rfl rfl (Nat.le_of_ble_eq_true rfl) (Nat.le_of_ble_eq_true rfl) (by omega) (m_patCon1 (by omega) (by omega : 0 ≤ (H59.1 1826 30) ∧ (H59.1 1826 30) ≤ (H59.1 1826 29) ∧ (H59.1 1826 29) ≤ 1000) (by omega : 0 ≤ (H59.1 1826 35) ∧ (H59.1 1826 35) ≤ 5) (by omega : 0 ≤ (H59.1 1826 32) ∧ (H59.1 1826 32) ≤ 1000) (PWc_fr hP1 (H := H1) (K := H59) (ob := [30, 31, 32, 33, 35, 36, 41]) (ar := []) (fr_t (fr_o (fr_rf _ _ _) (by decide)) hx59f (by decide) (by decide)) (by decide) (by decide)) (by omega : 1 ≤ (H59.1 1826 47) ∧ (H59.1 1826 47) ≤ 63) (by omega : 0 ≤ (H59.1 1826 40) ∧ (H59.1 1826 40) ≤ 999) (by omega : 0 ≤ (H59.1 1826 43) ∧ (H59.1 1826 43) ≤ 46) (by show 0 ≤ (H59.1 1853 ((H59.1 1826 47) - 1).toNat) ∧ (H59.1 1853 ((H59.1 1826 47) - 1).toNat) ≤ 1000; rw [show (H59.1 1853) = (H1.1 1853) from hx59f.2.1 1853 (by decide) (by decide), show (H59.1 1826 47) = (H1.1 1826 47) from hx59f.2.2 47 (by decide)]; omega) (by omega)) ?_
                        rintro _ H77 ⟨rfl, hx77f, hx77a, hx77c, -, hx77e, hx77n, hx77g, hx77p⟩
                        refine h_rng (fun hrg79 => ?_)
                        have hf80 : fr [30, 31, 32, 33, 35, 36, 39, 40, 41, 43, 47] [1849, 1850, 1851, 1852, 1853] H H77 := fr_t hf61 hx77f (by decide) (by decide)
                        replace hx77a : (H59.1 1826 30) ≤ (H77.1 1826 30) ∧ (H77.1 1826 30) ≤ (H59.1 1826 29) := hx77a
                        replace hx77g : (H77.1 1826 35) = 0 → (H77.1 1826 31) = 0 ∨ (H59.1 1826 30) < (H77.1 1826 30) := hx77g
                        replace hx77n : 0 ≤ (H77.1 1826 40) ∧ (H77.1 1826 40) ≤ (H59.1 1826 40) + 1 := hx77n
                        refine h_run 0 (pc' := 256) (l' := [(0, .inr (.inr 1826)), (1, .inl (f : Int)), (2, .inl (aty H1 (H1.1 1852 ((H1.1 1826 47) - 1).toNat) (H1.1 1853 ((H1.1 1826 47) - 1).toNat)))]) (st' := []) rfl ?_
                        refine h_run 2 (pc' := 22) (l' := [(0, .inr (.inr 1826)), (1, .inl (f : Int)), (2, .inl (aty H1 (H1.1 1852 ((H1.1 1826 47) - 1).toNat) (H1.1 1853 ((H1.1 1826 47) - 1).toNat)))]) (st' := []) rfl ?_
                        have g81 : -2147483648 ≤ (H77.1 1826 30) ∧ (H77.1 1826 30) ≤ 2147483647 := hrg79.1 1826 13 30 _ .int rfl rfl
                        have g82 : -2147483648 ≤ (H77.1 1826 35) ∧ (H77.1 1826 35) ≤ 2147483647 := hrg79.1 1826 13 35 _ .int rfl rfl
                        have g83 : -2147483648 ≤ (H77.1 1826 32) ∧ (H77.1 1826 32) ≤ 2147483647 := hrg79.1 1826 13 32 _ .int rfl rfl
                        have g84 : -2147483648 ≤ (H77.1 1826 31) ∧ (H77.1 1826 31) ≤ 2147483647 := hrg79.1 1826 13 31 _ .int rfl rfl
                        have g85 : -2147483648 ≤ (H77.1 1826 29) ∧ (H77.1 1826 29) ≤ 2147483647 := hrg79.1 1826 13 29 _ .int rfl rfl
                        have e86 : (H77.1 1826 29) = (H59.1 1826 29) := hx77f.2.2 29 (by decide)
                        have g87 : -2147483648 ≤ (H77.1 1826 47) ∧ (H77.1 1826 47) ≤ 2147483647 := hrg79.1 1826 13 47 _ .int rfl rfl
                        have g88 : -2147483648 ≤ (H77.1 1826 41) ∧ (H77.1 1826 41) ≤ 2147483647 := hrg79.1 1826 13 41 _ .int rfl rfl
                        have e89 : (H77.1 1826 41) = (H59.1 1826 41) := hx77f.2.2 41 (by decide)
                        refine h_loc [0, 1] rfl ?_
                        exact ih _ hf80 (by omega : (H.1 1826 30) ≤ (H77.1 1826 30) ∧ (H77.1 1826 30) ≤ (H.1 1826 29)) (by omega : 0 ≤ (H77.1 1826 35) ∧ (H77.1 1826 35) ≤ 5) (by omega : 0 ≤ (H77.1 1826 32) ∧ (H77.1 1826 32) ≤ 1000) (by omega : (H.1 1826 35) ≠ 0 → (H77.1 1826 35) ≠ 0) (fun q => by obtain ⟨c, k1, k3, ⟨k5, k6, k7⟩, k8, k9, k10⟩ := hx77p q; rw [show (H59.1 1826 3) = (H1.1 1826 3) from hx59f.2.2 3 (by decide)] at k1; have hcc := (pw1c c (by omega)).1; have es : ((1 : Int) + c - 1).toNat = c := (by omega); rw [show (H59.1 1826 40) = (H1.1 1826 40) from hx59f.2.2 40 (by decide)] at k3 k5; rw [show (H59.1 1826 43) = (H1.1 1826 43) from hx59f.2.2 43 (by decide)] at k6 k8; rw [show (H59.1 1826 47) = (H1.1 1826 47) from hx59f.2.2 47 (by decide)] at k7 k9 k10; rw [show (H59.1 1851) = (H1.1 1851) from hx59f.2.1 1851 (by decide) (by decide)] at k8; rw [show (H59.1 1852) = (H1.1 1852) from hx59f.2.1 1852 (by decide) (by decide), hidy] at k9; rw [show (H59.1 1853) = (H1.1 1853) from hx59f.2.1 1853 (by decide) (by decide), hidx, hidy] at k10; exact PT_step (q := ((H1.1 1830) c).toNat) hPT1 (Or.inl ⟨by omega, by omega⟩) (by rw [ma_c (by omega), es]; omega) (by omega) hno ((hx77f.2.1 1833 (by decide) (by decide)).trans (hx59f.2.1 1833 (by decide) (by decide))) ((hx77f.2.1 1830 (by decide) (by decide)).trans (hx59f.2.1 1830 (by decide) (by decide))) ⟨(hx77f.2.2 3 (by decide)).trans (hx59f.2.2 3 (by decide)), (hx77f.2.2 8 (by decide)).trans (hx59f.2.2 8 (by decide))⟩ (by omega) ⟨k5, k6⟩ k8 (Or.inl ((hx77f.2.2 39 (by decide)).trans (hx59f.2.2 39 (by decide)))) (Or.inr ⟨by omega, by omega, by omega, k7, (hx77f.2.2 41 (by decide)).trans (hx59f.2.2 41 (by decide)), k9, k10⟩)) (mu_lt hw (by omega) (by omega : (H77.1 1826 35) ≠ 0 ∨ ((H1.1 1826 30) ≤ (H77.1 1826 30) ∧ (H77.1 1826 30) ≤ (H.1 1826 29) ∧ (((H77.1 1826 31) = 0 ∧ (H1.1 1826 31) ≠ 0) ∨ (H1.1 1826 30) < (H77.1 1826 30)))))
                      · refine h_run 2 (pc' := 247) (l' := [(0, .inr (.inr 1826)), (1, .inl (f : Int)), (2, .inl (aty H1 (H1.1 1852 ((H1.1 1826 47) - 1).toNat) (H1.1 1853 ((H1.1 1826 47) - 1).toNat)))]) (st' := [.inl 2, .inr (.inr 1826)]) rfl ?_
                        refine h_cv (i := 278) (j := 159) (b := 1826) (M' := mt_159) (xs := [.inl 2]) (rest := []) rfl rfl rfl rfl rfl rfl (Nat.le_of_ble_eq_true rfl) (Nat.le_of_ble_eq_true rfl) (by omega) (m_bad0 (by omega) (by omega) (by omega : (H59.1 1826 35) = 0)) ?_
                        rintro _ _ ⟨rfl, rfl⟩
                        refine h_run 0 (pc' := 250) (l' := [(0, .inr (.inr 1826)), (1, .inl (f : Int)), (2, .inl (aty H1 (H1.1 1852 ((H1.1 1826 47) - 1).toNat) (H1.1 1853 ((H1.1 1826 47) - 1).toNat)))]) (st' := []) rfl ?_
                        refine h_run 3 (pc' := 253) (l' := [(0, .inr (.inr 1826)), (1, .inl (f : Int)), (2, .inl (aty H1 (H1.1 1852 ((H1.1 1826 47) - 1).toNat) (H1.1 1853 ((H1.1 1826 47) - 1).toNat)))]) (st' := [.inl 1, .inl (aty H1 (H1.1 1852 ((H1.1 1826 47) - 1).toNat) (H1.1 1853 ((H1.1 1826 47) - 1).toNat)), .inr (.inr 1826)]) rfl ?_
                        have g90 : -2147483648 ≤ (H59.1 1826 30) ∧ (H59.1 1826 30) ≤ 2147483647 := hrg60.1 1826 13 30 _ .int rfl rfl
                        have g91 : -2147483648 ≤ (H59.1 1826 29) ∧ (H59.1 1826 29) ≤ 2147483647 := hrg60.1 1826 13 29 _ .int rfl rfl
                        have e92 : (H59.1 1826 29) = (H1.1 1826 29) := hx59f.2.2 29 (by decide)
                        have g93 : -2147483648 ≤ (H59.1 1826 40) ∧ (H59.1 1826 40) ≤ 2147483647 := hrg60.1 1826 13 40 _ .int rfl rfl
                        have e94 : (H59.1 1826 40) = (H1.1 1826 40) := hx59f.2.2 40 (by decide)
                        have g95 : -2147483648 ≤ (H59.1 1826 43) ∧ (H59.1 1826 43) ≤ 2147483647 := hrg60.1 1826 13 43 _ .int rfl rfl
                        have e96 : (H59.1 1826 43) = (H1.1 1826 43) := hx59f.2.2 43 (by decide)
                        have g97 : -2147483648 ≤ (H59.1 1826 47) ∧ (H59.1 1826 47) ≤ 2147483647 := hrg60.1 1826 13 47 _ .int rfl rfl
                        have e98 : (H59.1 1826 47) = (H1.1 1826 47) := hx59f.2.2 47 (by decide)
                        have g99 : -2147483648 ≤ (H59.1 1826 41) ∧ (H59.1 1826 41) ≤ 2147483647 := hrg60.1 1826 13 41 _ .int rfl rfl
                        have e100 : (H59.1 1826 41) = ((H1.1 1826 41) + 1) := hx59f.2.2 41 (by decide)
                        have g102 : -2147483648 ≤ (H59.1 1826 32) ∧ (H59.1 1826 32) ≤ 2147483647 := hrg60.1 1826 13 32 _ .int rfl rfl
                        refine h_cv (i := 353) (j := 179) (b := 1826) (M' := mt_179) (xs := [.inl 1, .inl (aty H1 (H1.1 1852 ((H1.1 1826 47) - 1).toNat) (H1.1 1853 ((H1.1 1826 47) - 1).toNat))]) (rest := []) rfl rfl rfl rfl rfl rfl (Nat.le_of_ble_eq_true rfl) (Nat.le_of_ble_eq_true rfl) (by omega) (m_patCon1 (by omega) (by omega : 0 ≤ (H59.1 1826 30) ∧ (H59.1 1826 30) ≤ (H59.1 1826 29) ∧ (H59.1 1826 29) ≤ 1000) (by omega : 0 ≤ (2 : Int) ∧ (2 : Int) ≤ 5) (by omega : 0 ≤ (H59.1 1826 32) ∧ (H59.1 1826 32) ≤ 1000) (PWc_o (PWc_o (PWc_fr hP1 (H := H1) (K := H59) (ob := [30, 31, 32, 33, 35, 36, 41]) (ar := []) (fr_t (fr_o (fr_rf _ _ _) (by decide)) hx59f (by decide) (by decide)) (by decide) (by decide)) (by decide)) (by decide)) (by omega : 1 ≤ (H59.1 1826 47) ∧ (H59.1 1826 47) ≤ 63) (by omega : 0 ≤ (H59.1 1826 40) ∧ (H59.1 1826 40) ≤ 999) (by omega : 0 ≤ (H59.1 1826 43) ∧ (H59.1 1826 43) ≤ 46) (by show 0 ≤ (H59.1 1853 ((H59.1 1826 47) - 1).toNat) ∧ (H59.1 1853 ((H59.1 1826 47) - 1).toNat) ≤ 1000; rw [show (H59.1 1853) = (H1.1 1853) from hx59f.2.1 1853 (by decide) (by decide), show (H59.1 1826 47) = (H1.1 1826 47) from hx59f.2.2 47 (by decide)]; omega) (by omega)) ?_
                        rintro _ H101 ⟨rfl, hx101f, hx101a, hx101c, hx101d, hx101e, hx101n, hx101g, hx101p⟩
                        refine h_rng (fun hrg103 => ?_)
                        have hf104 : fr [30, 31, 32, 33, 35, 36, 39, 40, 41, 43, 47] [1849, 1850, 1851, 1852, 1853] H H101 := fr_t (fr_o (fr_o hf61 (by decide)) (by decide)) hx101f (by decide) (by decide)
                        replace hx101a : (H59.1 1826 30) ≤ (H101.1 1826 30) ∧ (H101.1 1826 30) ≤ (H59.1 1826 29) := hx101a
                        replace hx101g : (H101.1 1826 35) = 0 → (H101.1 1826 31) = 0 ∨ (H59.1 1826 30) < (H101.1 1826 30) := hx101g
                        replace hx101n : 0 ≤ (H101.1 1826 40) ∧ (H101.1 1826 40) ≤ (H59.1 1826 40) + 1 := hx101n
                        replace hx101d : (H101.1 1826 35) ≠ 0 := hx101d (by omega : (2 : Int) ≠ 0)
                        refine h_run 0 (pc' := 256) (l' := [(0, .inr (.inr 1826)), (1, .inl (f : Int)), (2, .inl (aty H1 (H1.1 1852 ((H1.1 1826 47) - 1).toNat) (H1.1 1853 ((H1.1 1826 47) - 1).toNat)))]) (st' := []) rfl ?_
                        refine h_run 2 (pc' := 22) (l' := [(0, .inr (.inr 1826)), (1, .inl (f : Int)), (2, .inl (aty H1 (H1.1 1852 ((H1.1 1826 47) - 1).toNat) (H1.1 1853 ((H1.1 1826 47) - 1).toNat)))]) (st' := []) rfl ?_
                        have g105 : -2147483648 ≤ (H101.1 1826 30) ∧ (H101.1 1826 30) ≤ 2147483647 := hrg103.1 1826 13 30 _ .int rfl rfl
                        have g106 : -2147483648 ≤ (H101.1 1826 35) ∧ (H101.1 1826 35) ≤ 2147483647 := hrg103.1 1826 13 35 _ .int rfl rfl
                        have g107 : -2147483648 ≤ (H101.1 1826 32) ∧ (H101.1 1826 32) ≤ 2147483647 := hrg103.1 1826 13 32 _ .int rfl rfl
                        have g108 : -2147483648 ≤ (H101.1 1826 31) ∧ (H101.1 1826 31) ≤ 2147483647 := hrg103.1 1826 13 31 _ .int rfl rfl
                        have g109 : -2147483648 ≤ (H101.1 1826 29) ∧ (H101.1 1826 29) ≤ 2147483647 := hrg103.1 1826 13 29 _ .int rfl rfl
                        have e110 : (H101.1 1826 29) = (H59.1 1826 29) := hx101f.2.2 29 (by decide)
                        have g111 : -2147483648 ≤ (H101.1 1826 47) ∧ (H101.1 1826 47) ≤ 2147483647 := hrg103.1 1826 13 47 _ .int rfl rfl
                        have g112 : -2147483648 ≤ (H101.1 1826 41) ∧ (H101.1 1826 41) ≤ 2147483647 := hrg103.1 1826 13 41 _ .int rfl rfl
                        have e113 : (H101.1 1826 41) = (H59.1 1826 41) := hx101f.2.2 41 (by decide)
                        refine h_loc [0, 1] rfl ?_
                        exact ih _ hf104 (by omega : (H.1 1826 30) ≤ (H101.1 1826 30) ∧ (H101.1 1826 30) ≤ (H.1 1826 29)) (by omega : 0 ≤ (H101.1 1826 35) ∧ (H101.1 1826 35) ≤ 5) (by omega : 0 ≤ (H101.1 1826 32) ∧ (H101.1 1826 32) ≤ 1000) (by omega : (H.1 1826 35) ≠ 0 → (H101.1 1826 35) ≠ 0) (fun (q : (H101.1 1826 35) = 0) => absurd q (by omega)) (mu_lt hw (by omega) (by omega : (H101.1 1826 35) ≠ 0 ∨ ((H1.1 1826 30) ≤ (H101.1 1826 30) ∧ (H101.1 1826 30) ≤ (H.1 1826 29) ∧ (((H101.1 1826 31) = 0 ∧ (H1.1 1826 31) ≠ 0) ∨ (H1.1 1826 30) < (H101.1 1826 30)))))
                    · have b63x : (H59.1 1826 35) ≠ 0 := b63
                      clear hx59g
                      refine h_run 0 (pc' := 234) (l' := [(0, .inr (.inr 1826)), (1, .inl (f : Int)), (2, .inl (aty H1 (H1.1 1852 ((H1.1 1826 47) - 1).toNat) (H1.1 1853 ((H1.1 1826 47) - 1).toNat)))]) (st' := [.inl 0]) rfl ?_
                      refine h_zeq (off := 16) (t := 250) rfl rfl (by decide) (fun _ => ?_) (fun c => absurd c (by decide))
                      refine h_run 3 (pc' := 253) (l' := [(0, .inr (.inr 1826)), (1, .inl (f : Int)), (2, .inl (aty H1 (H1.1 1852 ((H1.1 1826 47) - 1).toNat) (H1.1 1853 ((H1.1 1826 47) - 1).toNat)))]) (st' := [.inl 1, .inl (aty H1 (H1.1 1852 ((H1.1 1826 47) - 1).toNat) (H1.1 1853 ((H1.1 1826 47) - 1).toNat)), .inr (.inr 1826)]) rfl ?_
                      have g114 : -2147483648 ≤ (H59.1 1826 30) ∧ (H59.1 1826 30) ≤ 2147483647 := hrg60.1 1826 13 30 _ .int rfl rfl
                      have g115 : -2147483648 ≤ (H59.1 1826 29) ∧ (H59.1 1826 29) ≤ 2147483647 := hrg60.1 1826 13 29 _ .int rfl rfl
                      have e116 : (H59.1 1826 29) = (H1.1 1826 29) := hx59f.2.2 29 (by decide)
                      have g117 : -2147483648 ≤ (H59.1 1826 40) ∧ (H59.1 1826 40) ≤ 2147483647 := hrg60.1 1826 13 40 _ .int rfl rfl
                      have e118 : (H59.1 1826 40) = (H1.1 1826 40) := hx59f.2.2 40 (by decide)
                      have g119 : -2147483648 ≤ (H59.1 1826 43) ∧ (H59.1 1826 43) ≤ 2147483647 := hrg60.1 1826 13 43 _ .int rfl rfl
                      have e120 : (H59.1 1826 43) = (H1.1 1826 43) := hx59f.2.2 43 (by decide)
                      have g121 : -2147483648 ≤ (H59.1 1826 47) ∧ (H59.1 1826 47) ≤ 2147483647 := hrg60.1 1826 13 47 _ .int rfl rfl
                      have e122 : (H59.1 1826 47) = (H1.1 1826 47) := hx59f.2.2 47 (by decide)
                      have g123 : -2147483648 ≤ (H59.1 1826 31) ∧ (H59.1 1826 31) ≤ 2147483647 := hrg60.1 1826 13 31 _ .int rfl rfl
                      have g124 : -2147483648 ≤ (H59.1 1826 41) ∧ (H59.1 1826 41) ≤ 2147483647 := hrg60.1 1826 13 41 _ .int rfl rfl
                      have e125 : (H59.1 1826 41) = ((H1.1 1826 41) + 1) := hx59f.2.2 41 (by decide)
                      have g127 : -2147483648 ≤ (H59.1 1826 32) ∧ (H59.1 1826 32) ≤ 2147483647 := hrg60.1 1826 13 32 _ .int rfl rfl
                      refine h_cv (i := 353) (j := 179) (b := 1826) (M' := mt_179) (xs := [.inl 1, .inl (aty H1 (H1.1 1852 ((H1.1 1826 47) - 1).toNat) (H1.1 1853 ((H1.1 1826 47) - 1).toNat))]) (rest := []) rfl rfl rfl rfl rfl rfl (Nat.le_of_ble_eq_true rfl) (Nat.le_of_ble_eq_true rfl) (by omega) (m_patCon1 (by omega) (by omega : 0 ≤ (H59.1 1826 30) ∧ (H59.1 1826 30) ≤ (H59.1 1826 29) ∧ (H59.1 1826 29) ≤ 1000) (by omega : 0 ≤ (H59.1 1826 35) ∧ (H59.1 1826 35) ≤ 5) (by omega : 0 ≤ (H59.1 1826 32) ∧ (H59.1 1826 32) ≤ 1000) (PWc_fr hP1 (H := H1) (K := H59) (ob := [30, 31, 32, 33, 35, 36, 41]) (ar := []) (fr_t (fr_o (fr_rf _ _ _) (by decide)) hx59f (by decide) (by decide)) (by decide) (by decide)) (by omega : 1 ≤ (H59.1 1826 47) ∧ (H59.1 1826 47) ≤ 63) (by omega : 0 ≤ (H59.1 1826 40) ∧ (H59.1 1826 40) ≤ 999) (by omega : 0 ≤ (H59.1 1826 43) ∧ (H59.1 1826 43) ≤ 46) (by show 0 ≤ (H59.1 1853 ((H59.1 1826 47) - 1).toNat) ∧ (H59.1 1853 ((H59.1 1826 47) - 1).toNat) ≤ 1000; rw [show (H59.1 1853) = (H1.1 1853) from hx59f.2.1 1853 (by decide) (by decide), show (H59.1 1826 47) = (H1.1 1826 47) from hx59f.2.2 47 (by decide)]; omega) (by omega)) ?_
                      rintro _ H126 ⟨rfl, hx126f, hx126a, hx126c, hx126d, hx126e, hx126n, hx126g, hx126p⟩
                      refine h_rng (fun hrg128 => ?_)
                      have hf129 : fr [30, 31, 32, 33, 35, 36, 39, 40, 41, 43, 47] [1849, 1850, 1851, 1852, 1853] H H126 := fr_t hf61 hx126f (by decide) (by decide)
                      replace hx126a : (H59.1 1826 30) ≤ (H126.1 1826 30) ∧ (H126.1 1826 30) ≤ (H59.1 1826 29) := hx126a
                      replace hx126g : (H126.1 1826 35) = 0 → (H126.1 1826 31) = 0 ∨ (H59.1 1826 30) < (H126.1 1826 30) := hx126g
                      replace hx126n : 0 ≤ (H126.1 1826 40) ∧ (H126.1 1826 40) ≤ (H59.1 1826 40) + 1 := hx126n
                      replace hx126d : (H126.1 1826 35) ≠ 0 := hx126d (by omega : (H59.1 1826 35) ≠ 0)
                      refine h_run 0 (pc' := 256) (l' := [(0, .inr (.inr 1826)), (1, .inl (f : Int)), (2, .inl (aty H1 (H1.1 1852 ((H1.1 1826 47) - 1).toNat) (H1.1 1853 ((H1.1 1826 47) - 1).toNat)))]) (st' := []) rfl ?_
                      refine h_run 2 (pc' := 22) (l' := [(0, .inr (.inr 1826)), (1, .inl (f : Int)), (2, .inl (aty H1 (H1.1 1852 ((H1.1 1826 47) - 1).toNat) (H1.1 1853 ((H1.1 1826 47) - 1).toNat)))]) (st' := []) rfl ?_
                      have g130 : -2147483648 ≤ (H126.1 1826 30) ∧ (H126.1 1826 30) ≤ 2147483647 := hrg128.1 1826 13 30 _ .int rfl rfl
                      have g131 : -2147483648 ≤ (H126.1 1826 35) ∧ (H126.1 1826 35) ≤ 2147483647 := hrg128.1 1826 13 35 _ .int rfl rfl
                      have g132 : -2147483648 ≤ (H126.1 1826 32) ∧ (H126.1 1826 32) ≤ 2147483647 := hrg128.1 1826 13 32 _ .int rfl rfl
                      have g133 : -2147483648 ≤ (H126.1 1826 31) ∧ (H126.1 1826 31) ≤ 2147483647 := hrg128.1 1826 13 31 _ .int rfl rfl
                      have g134 : -2147483648 ≤ (H126.1 1826 29) ∧ (H126.1 1826 29) ≤ 2147483647 := hrg128.1 1826 13 29 _ .int rfl rfl
                      have e135 : (H126.1 1826 29) = (H59.1 1826 29) := hx126f.2.2 29 (by decide)
                      have g136 : -2147483648 ≤ (H126.1 1826 47) ∧ (H126.1 1826 47) ≤ 2147483647 := hrg128.1 1826 13 47 _ .int rfl rfl
                      have g137 : -2147483648 ≤ (H126.1 1826 41) ∧ (H126.1 1826 41) ≤ 2147483647 := hrg128.1 1826 13 41 _ .int rfl rfl
                      have e138 : (H126.1 1826 41) = (H59.1 1826 41) := hx126f.2.2 41 (by decide)
                      refine h_loc [0, 1] rfl ?_
                      exact ih _ hf129 (by omega : (H.1 1826 30) ≤ (H126.1 1826 30) ∧ (H126.1 1826 30) ≤ (H.1 1826 29)) (by omega : 0 ≤ (H126.1 1826 35) ∧ (H126.1 1826 35) ≤ 5) (by omega : 0 ≤ (H126.1 1826 32) ∧ (H126.1 1826 32) ≤ 1000) (by omega : (H.1 1826 35) ≠ 0 → (H126.1 1826 35) ≠ 0) (fun (q : (H126.1 1826 35) = 0) => absurd q (by omega)) (mu_lt hw (by omega) (by omega : (H126.1 1826 35) ≠ 0 ∨ ((H1.1 1826 30) ≤ (H126.1 1826 30) ∧ (H126.1 1826 30) ≤ (H.1 1826 29) ∧ (((H126.1 1826 31) = 0 ∧ (H1.1 1826 31) ≠ 0) ∨ (H1.1 1826 30) < (H126.1 1826 30)))))
              · refine h_run 3 (pc' := 200) (l' := [(0, .inr (.inr 1826)), (1, .inl (f : Int)), (2, .inl (aty H1 (H1.1 1852 ((H1.1 1826 47) - 1).toNat) (H1.1 1853 ((H1.1 1826 47) - 1).toNat)))]) (st' := [.inl 0, .inl (aty H1 (H1.1 1852 ((H1.1 1826 47) - 1).toNat) (H1.1 1853 ((H1.1 1826 47) - 1).toNat)), .inr (.inr 1826)]) rfl ?_
                have g139 : -2147483648 ≤ (H1.1 1826 30) ∧ (H1.1 1826 30) ≤ 2147483647 := hrg1.1 1826 13 30 _ .int rfl rfl
                have g140 : -2147483648 ≤ (H1.1 1826 29) ∧ (H1.1 1826 29) ≤ 2147483647 := hrg1.1 1826 13 29 _ .int rfl rfl
                have e141 : (H1.1 1826 29) = (H.1 1826 29) := hf.2.2 29 (by decide)
                have g142 : -2147483648 ≤ (H1.1 1826 40) ∧ (H1.1 1826 40) ≤ 2147483647 := hrg1.1 1826 13 40 _ .int rfl rfl
                have g143 : -2147483648 ≤ (H1.1 1826 43) ∧ (H1.1 1826 43) ≤ 2147483647 := hrg1.1 1826 13 43 _ .int rfl rfl
                have g144 : -2147483648 ≤ (H1.1 1826 41) ∧ (H1.1 1826 41) ≤ 2147483647 := hrg1.1 1826 13 41 _ .int rfl rfl
                have g146 : -2147483648 ≤ (H1.1 1826 32) ∧ (H1.1 1826 32) ≤ 2147483647 := hrg1.1 1826 13 32 _ .int rfl rfl
                refine h_cv (i := 353) (j := 179) (b := 1826) (M' := mt_179) (xs := [.inl 0, .inl (aty H1 (H1.1 1852 ((H1.1 1826 47) - 1).toNat) (H1.1 1853 ((H1.1 1826 47) - 1).toNat))]) (rest := []) rfl rfl rfl rfl rfl rfl (Nat.le_of_ble_eq_true rfl) (Nat.le_of_ble_eq_true rfl) (by omega) (m_patCon0 (by omega) (by omega : 0 ≤ (H1.1 1826 30) ∧ (H1.1 1826 30) ≤ (H1.1 1826 29) ∧ (H1.1 1826 29) ≤ 1000) (by omega : 0 ≤ (H1.1 1826 35) ∧ (H1.1 1826 35) ≤ 5) (by omega : 0 ≤ (H1.1 1826 32) ∧ (H1.1 1826 32) ≤ 1000) hP1 (by omega : 1 ≤ (H1.1 1826 47) ∧ (H1.1 1826 47) ≤ 63) (by omega : 0 ≤ (H1.1 1826 40) ∧ (H1.1 1826 40) ≤ 999) (by omega : 0 ≤ (H1.1 1826 43) ∧ (H1.1 1826 43) ≤ 46) (by omega : 0 ≤ (H1.1 1853 ((H1.1 1826 47) - 1).toNat) ∧ (H1.1 1853 ((H1.1 1826 47) - 1).toNat) ≤ 1000) (by omega)) ?_
                rintro _ H145 ⟨rfl, hx145f, hx145a, hx145c, -, hx145e, hx145n, hx145g, hx145p⟩
                refine h_rng (fun hrg147 => ?_)
                have hf148 : fr [30, 31, 32, 33, 35, 36, 39, 40, 41, 43, 47] [1849, 1850, 1851, 1852, 1853] H H145 := fr_t hf hx145f (by decide) (by decide)
                replace hx145a : (H1.1 1826 30) ≤ (H145.1 1826 30) ∧ (H145.1 1826 30) ≤ (H1.1 1826 29) := hx145a
                replace hx145g : (H145.1 1826 35) = 0 → (H145.1 1826 31) = 0 ∨ (H1.1 1826 30) < (H145.1 1826 30) := hx145g
                replace hx145n : 0 ≤ (H145.1 1826 40) ∧ (H145.1 1826 40) ≤ (H1.1 1826 40) + 1 := hx145n
                refine h_run 0 (pc' := 203) (l' := [(0, .inr (.inr 1826)), (1, .inl (f : Int)), (2, .inl (aty H1 (H1.1 1852 ((H1.1 1826 47) - 1).toNat) (H1.1 1853 ((H1.1 1826 47) - 1).toNat)))]) (st' := []) rfl ?_
                refine h_run 2 (pc' := 22) (l' := [(0, .inr (.inr 1826)), (1, .inl (f : Int)), (2, .inl (aty H1 (H1.1 1852 ((H1.1 1826 47) - 1).toNat) (H1.1 1853 ((H1.1 1826 47) - 1).toNat)))]) (st' := []) rfl ?_
                have g149 : -2147483648 ≤ (H145.1 1826 30) ∧ (H145.1 1826 30) ≤ 2147483647 := hrg147.1 1826 13 30 _ .int rfl rfl
                have g150 : -2147483648 ≤ (H145.1 1826 35) ∧ (H145.1 1826 35) ≤ 2147483647 := hrg147.1 1826 13 35 _ .int rfl rfl
                have g151 : -2147483648 ≤ (H145.1 1826 32) ∧ (H145.1 1826 32) ≤ 2147483647 := hrg147.1 1826 13 32 _ .int rfl rfl
                have g152 : -2147483648 ≤ (H145.1 1826 31) ∧ (H145.1 1826 31) ≤ 2147483647 := hrg147.1 1826 13 31 _ .int rfl rfl
                have g153 : -2147483648 ≤ (H145.1 1826 29) ∧ (H145.1 1826 29) ≤ 2147483647 := hrg147.1 1826 13 29 _ .int rfl rfl
                have e154 : (H145.1 1826 29) = (H1.1 1826 29) := hx145f.2.2 29 (by decide)
                have g155 : -2147483648 ≤ (H145.1 1826 47) ∧ (H145.1 1826 47) ≤ 2147483647 := hrg147.1 1826 13 47 _ .int rfl rfl
                have g156 : -2147483648 ≤ (H145.1 1826 41) ∧ (H145.1 1826 41) ≤ 2147483647 := hrg147.1 1826 13 41 _ .int rfl rfl
                have e157 : (H145.1 1826 41) = (H1.1 1826 41) := hx145f.2.2 41 (by decide)
                refine h_loc [0, 1] rfl ?_
                exact ih _ hf148 (by omega : (H.1 1826 30) ≤ (H145.1 1826 30) ∧ (H145.1 1826 30) ≤ (H.1 1826 29)) (by omega : 0 ≤ (H145.1 1826 35) ∧ (H145.1 1826 35) ≤ 5) (by omega : 0 ≤ (H145.1 1826 32) ∧ (H145.1 1826 32) ≤ 1000) (by omega : (H.1 1826 35) ≠ 0 → (H145.1 1826 35) ≠ 0) (fun q => by obtain ⟨c, k1, k2, k3, ⟨k5, k6, k7⟩, k8, k9, k10⟩ := hx145p q; have hcc := (pw1c c (by omega)).1; have es : ((1 : Int) + c - 1).toNat = c := (by omega); rw [hidx] at k10; exact PT_step (q := 0) hPT1 (Or.inl ⟨by omega, by omega⟩) (by rw [ma_c (by omega), es]; omega) (by omega) hno (hx145f.2.1 1833 (by decide) (by decide)) (hx145f.2.1 1830 (by decide) (by decide)) ⟨hx145f.2.2 3 (by decide), hx145f.2.2 8 (by decide)⟩ (by omega) ⟨k5, k6⟩ k8 (Or.inl (hx145f.2.2 39 (by decide))) (Or.inl ⟨rfl, k7, hx145f.2.2 41 (by decide), k9, k10⟩)) (mu_lt hw (by omega) (by omega : (H145.1 1826 35) ≠ 0 ∨ ((H1.1 1826 30) ≤ (H145.1 1826 30) ∧ (H145.1 1826 30) ≤ (H.1 1826 29) ∧ (((H145.1 1826 31) = 0 ∧ (H1.1 1826 31) ≠ 0) ∨ (H1.1 1826 30) < (H145.1 1826 30)))))
            · refine h_run 4 (pc' := 100) (l' := [(0, .inr (.inr 1826)), (1, .inl (f : Int)), (2, .inl (aty H1 (H1.1 1852 ((H1.1 1826 47) - 1).toNat) (H1.1 1853 ((H1.1 1826 47) - 1).toNat)))]) (st' := [.inl (H1.1 1826 8), .inr (.inr 1832)]) rfl ?_
              have g158 : -2147483648 ≤ (H1.1 1826 8) ∧ (H1.1 1826 8) ≤ 2147483647 := hrg1.1 1826 13 8 _ .int rfl rfl
              have e159 : (H1.1 1826 8) = (H.1 1826 8) := hf.2.2 8 (by decide)
              refine h_run 2 (pc' := 104) (l' := [(0, .inr (.inr 1826)), (1, .inl (f : Int)), (2, .inl (aty H1 (H1.1 1852 ((H1.1 1826 47) - 1).toNat) (H1.1 1853 ((H1.1 1826 47) - 1).toNat)))]) (st' := [.inr (.inl (H1.1 1826 33)), .inl (H1.1 1826 8), .inr (.inr 1832)]) rfl ?_
              have g160 : -9223372036854775808 ≤ (H1.1 1826 33) ∧ (H1.1 1826 33) ≤ 9223372036854775807 := hrg1.1 1826 13 33 _ .long rfl rfl
              refine h_cs (i := 309) (j := 167) (M' := mt_167) (xs := [.inr (.inl (H1.1 1826 33)), .inl (H1.1 1826 8), .inr (.inr 1832)]) (rest := []) rfl rfl rfl rfl rfl (Nat.le_of_ble_eq_true rfl) (Nat.le_of_ble_eq_true rfl) (by omega) (m_find (by omega) (m := 16) rfl (by omega : 0 ≤ (H1.1 1826 8) ∧ (H1.1 1826 8) ≤ ((16 : Nat) : Int) ∧ 16 ≤ 100) (by omega)) ?_
              rintro _ _ ⟨⟨k161, rfl, f162, f162x⟩ | ⟨rfl, f162⟩, rfl⟩
              · refine h_run 0 (pc' := 107) (l' := [(0, .inr (.inr 1826)), (1, .inl (f : Int)), (2, .inl (aty H1 (H1.1 1852 ((H1.1 1826 47) - 1).toNat) (H1.1 1853 ((H1.1 1826 47) - 1).toNat)))]) (st' := [.inl (k161 : Int)]) rfl ?_
                refine h_run 1 (pc' := 108) (l' := [(0, .inr (.inr 1826)), (1, .inl (f : Int)), (2, .inl (aty H1 (H1.1 1852 ((H1.1 1826 47) - 1).toNat) (H1.1 1853 ((H1.1 1826 47) - 1).toNat)))]) (st' := [.inl (-1), .inl (k161 : Int)]) rfl ?_
                refine h_ieq (off := 11) (t := 119) rfl rfl (by omega) (by decide) (fun c163 => ?_) (fun c163 => ?_)
                · refine h_run 4 (pc' := 127) (l' := [(0, .inr (.inr 1826)), (1, .inl (f : Int)), (2, .inl (aty H1 (H1.1 1852 ((H1.1 1826 47) - 1).toNat) (H1.1 1853 ((H1.1 1826 47) - 1).toNat)))]) (st' := [.inl (H1.1 1826 39), .inr (.inr 1849)]) rfl ?_
                  have g164 : -2147483648 ≤ (H1.1 1826 39) ∧ (H1.1 1826 39) ≤ 2147483647 := hrg1.1 1826 13 39 _ .int rfl rfl
                  refine h_run 2 (pc' := 131) (l' := [(0, .inr (.inr 1826)), (1, .inl (f : Int)), (2, .inl (aty H1 (H1.1 1852 ((H1.1 1826 47) - 1).toNat) (H1.1 1853 ((H1.1 1826 47) - 1).toNat)))]) (st' := [.inr (.inl (H1.1 1826 33)), .inl (H1.1 1826 39), .inr (.inr 1849)]) rfl ?_
                  refine h_cs (i := 309) (j := 167) (M' := mt_167) (xs := [.inr (.inl (H1.1 1826 33)), .inl (H1.1 1826 39), .inr (.inr 1849)]) (rest := []) rfl rfl rfl rfl rfl (Nat.le_of_ble_eq_true rfl) (Nat.le_of_ble_eq_true rfl) (by omega) (m_find (by omega) (m := 48) rfl (by omega : 0 ≤ (H1.1 1826 39) ∧ (H1.1 1826 39) ≤ ((48 : Nat) : Int) ∧ 48 ≤ 100) (by omega)) ?_
                  rintro _ _ ⟨⟨k165, rfl, f166, f166x⟩ | ⟨rfl, f166⟩, rfl⟩
                  · refine h_run 0 (pc' := 134) (l' := [(0, .inr (.inr 1826)), (1, .inl (f : Int)), (2, .inl (aty H1 (H1.1 1852 ((H1.1 1826 47) - 1).toNat) (H1.1 1853 ((H1.1 1826 47) - 1).toNat)))]) (st' := [.inl (k165 : Int)]) rfl ?_
                    refine h_run 1 (pc' := 135) (l' := [(0, .inr (.inr 1826)), (1, .inl (f : Int)), (2, .inl (aty H1 (H1.1 1852 ((H1.1 1826 47) - 1).toNat) (H1.1 1853 ((H1.1 1826 47) - 1).toNat)))]) (st' := [.inl (-1), .inl (k165 : Int)]) rfl ?_
                    refine h_ieq (off := 8) (t := 143) rfl rfl (by omega) (by decide) (fun c167 => ?_) (fun c167 => ?_)
                    · refine h_run 1 (pc' := 144) (l' := [(0, .inr (.inr 1826)), (1, .inl (f : Int)), (2, .inl (aty H1 (H1.1 1852 ((H1.1 1826 47) - 1).toNat) (H1.1 1853 ((H1.1 1826 47) - 1).toNat)))]) (st' := [.inr (.inr 1826)]) rfl ?_
                      have g168 : -2147483648 ≤ (H1.1 1826 40) ∧ (H1.1 1826 40) ≤ 2147483647 := hrg1.1 1826 13 40 _ .int rfl rfl
                      by_cases b169 : (H1.1 1826 40) = 40
                      · refine h_cv (i := 344) (j := 168) (b := 1826) (M' := mt_168) (xs := []) (rest := []) rfl rfl rfl rfl rfl rfl (Nat.le_of_ble_eq_true rfl) (Nat.le_of_ble_eq_true rfl) (by omega) (m_countB (by omega) (by omega : (H1.1 1826 35) = 0) (by omega : (H1.1 1826 40) = 40)) ?_
                        rintro _ _ ⟨rfl, rfl⟩
                        refine h_run 0 (pc' := 147) (l' := [(0, .inr (.inr 1826)), (1, .inl (f : Int)), (2, .inl (aty H1 (H1.1 1852 ((H1.1 1826 47) - 1).toNat) (H1.1 1853 ((H1.1 1826 47) - 1).toNat)))]) (st' := []) rfl ?_
                        refine h_run 1 (pc' := 148) (l' := [(0, .inr (.inr 1826)), (1, .inl (f : Int)), (2, .inl (aty H1 (H1.1 1852 ((H1.1 1826 47) - 1).toNat) (H1.1 1853 ((H1.1 1826 47) - 1).toNat)))]) (st' := [.inr (.inr 1826)]) rfl ?_
                        refine h_cv (i := 293) (j := 158) (b := 1826) (M' := mt_158) (xs := []) (rest := []) rfl rfl rfl rfl rfl rfl (Nat.le_of_ble_eq_true rfl) (Nat.le_of_ble_eq_true rfl) (by omega) (m_good0 (by omega) (by omega : (5 : Int) ≠ 0)) ?_
                        rintro _ _ ⟨rfl, rfl⟩
                        refine h_run 0 (pc' := 151) (l' := [(0, .inr (.inr 1826)), (1, .inl (f : Int)), (2, .inl (aty H1 (H1.1 1852 ((H1.1 1826 47) - 1).toNat) (H1.1 1853 ((H1.1 1826 47) - 1).toNat)))]) (st' := [.inl 0]) rfl ?_
                        refine h_zeq (off := 113) (t := 264) rfl rfl (by decide) (fun _ => ?_) (fun c => absurd c (by decide))
                        refine h_run 1 (pc' := 22) (l' := [(0, .inr (.inr 1826)), (1, .inl (f : Int)), (2, .inl (aty H1 (H1.1 1852 ((H1.1 1826 47) - 1).toNat) (H1.1 1853 ((H1.1 1826 47) - 1).toNat)))]) (st' := []) rfl ?_
                        have g170 : -2147483648 ≤ (H1.1 1826 30) ∧ (H1.1 1826 30) ≤ 2147483647 := hrg1.1 1826 13 30 _ .int rfl rfl
                        have g171 : -2147483648 ≤ (H1.1 1826 32) ∧ (H1.1 1826 32) ≤ 2147483647 := hrg1.1 1826 13 32 _ .int rfl rfl
                        have g172 : -2147483648 ≤ (H1.1 1826 29) ∧ (H1.1 1826 29) ≤ 2147483647 := hrg1.1 1826 13 29 _ .int rfl rfl
                        have e173 : (H1.1 1826 29) = (H.1 1826 29) := hf.2.2 29 (by decide)
                        have g174 : -2147483648 ≤ (H1.1 1826 41) ∧ (H1.1 1826 41) ≤ 2147483647 := hrg1.1 1826 13 41 _ .int rfl rfl
                        refine h_loc [0, 1] rfl ?_
                        exact ih _ (fr_o (fr_o (fr_o hf (by decide)) (by decide)) (by decide)) (by omega : (H.1 1826 30) ≤ (H1.1 1826 30) ∧ (H1.1 1826 30) ≤ (H.1 1826 29)) (by omega : 0 ≤ (5 : Int) ∧ (5 : Int) ≤ 5) (by omega : 0 ≤ (H1.1 1826 32) ∧ (H1.1 1826 32) ≤ 1000) (by omega : (H.1 1826 35) ≠ 0 → (5 : Int) ≠ 0) (fun (q : (5 : Int) = 0) => absurd q (by omega)) (mu_lt hw (by omega) (by omega : (5 : Int) ≠ 0 ∨ ((H1.1 1826 30) ≤ (H1.1 1826 30) ∧ (H1.1 1826 30) ≤ (H.1 1826 29) ∧ (((H1.1 1826 31) = 0 ∧ (H1.1 1826 31) ≠ 0) ∨ (H1.1 1826 30) < (H1.1 1826 30)))))
                      · refine h_cv (i := 344) (j := 168) (b := 1826) (M' := mt_168) (xs := []) (rest := []) rfl rfl rfl rfl rfl rfl (Nat.le_of_ble_eq_true rfl) (Nat.le_of_ble_eq_true rfl) (by omega) (m_countA (by omega) (by omega : (H1.1 1826 35) = 0) (by omega : 0 ≤ (H1.1 1826 40) ∧ (H1.1 1826 40) ≤ 1000) (by omega : (H1.1 1826 40) ≠ 40)) ?_
                        rintro _ _ ⟨rfl, rfl⟩
                        refine h_run 0 (pc' := 147) (l' := [(0, .inr (.inr 1826)), (1, .inl (f : Int)), (2, .inl (aty H1 (H1.1 1852 ((H1.1 1826 47) - 1).toNat) (H1.1 1853 ((H1.1 1826 47) - 1).toNat)))]) (st' := []) rfl ?_
                        refine h_run 1 (pc' := 148) (l' := [(0, .inr (.inr 1826)), (1, .inl (f : Int)), (2, .inl (aty H1 (H1.1 1852 ((H1.1 1826 47) - 1).toNat) (H1.1 1853 ((H1.1 1826 47) - 1).toNat)))]) (st' := [.inr (.inr 1826)]) rfl ?_
                        refine h_cv (i := 293) (j := 158) (b := 1826) (M' := mt_158) (xs := []) (rest := []) rfl rfl rfl rfl rfl rfl (Nat.le_of_ble_eq_true rfl) (Nat.le_of_ble_eq_true rfl) (by omega) (m_good1 (by omega) (by omega : (H1.1 1826 35) = 0)) ?_
                        rintro _ _ ⟨rfl, rfl⟩
                        refine h_run 0 (pc' := 151) (l' := [(0, .inr (.inr 1826)), (1, .inl (f : Int)), (2, .inl (aty H1 (H1.1 1852 ((H1.1 1826 47) - 1).toNat) (H1.1 1853 ((H1.1 1826 47) - 1).toNat)))]) (st' := [.inl 1]) rfl ?_
                        refine h_zeq (off := 113) (t := 264) rfl rfl (by decide) (fun c => absurd c (by decide)) (fun _ => ?_)
                        refine h_run 4 (pc' := 160) (l' := [(0, .inr (.inr 1826)), (1, .inl (f : Int)), (2, .inl (aty H1 (H1.1 1852 ((H1.1 1826 47) - 1).toNat) (H1.1 1853 ((H1.1 1826 47) - 1).toNat)))]) (st' := [.inl (aty H1 (H1.1 1852 ((H1.1 1826 47) - 1).toNat) (H1.1 1853 ((H1.1 1826 47) - 1).toNat)), .inr (.inr 1826), .inl 1000, .inr (.inr 1826)]) rfl ?_
                        refine h_cv (i := 347) (j := 177) (b := 1826) (M' := mt_177) (xs := [.inl (aty H1 (H1.1 1852 ((H1.1 1826 47) - 1).toNat) (H1.1 1853 ((H1.1 1826 47) - 1).toNat))]) (rest := [.inl 1000, .inr (.inr 1826)]) rfl rfl rfl rfl rfl rfl (Nat.le_of_ble_eq_true rfl) (Nat.le_of_ble_eq_true rfl) (by omega) (m_addVariable (by omega) (by omega : 0 ≤ (H1.1 1826 39) ∧ (H1.1 1826 39) ≤ 47) (by omega)) ?_
                        rintro _ _ ⟨rfl, rfl⟩
                        refine h_run 0 (pc' := 163) (l' := [(0, .inr (.inr 1826)), (1, .inl (f : Int)), (2, .inl (aty H1 (H1.1 1852 ((H1.1 1826 47) - 1).toNat) (H1.1 1853 ((H1.1 1826 47) - 1).toNat)))]) (st' := [.inl (((H1.1 1826 39) + 1) - 1), .inl 1000, .inr (.inr 1826)]) rfl ?_
                        refine h_run 1 (pc' := 164) (l' := [(0, .inr (.inr 1826)), (1, .inl (f : Int)), (2, .inl (aty H1 (H1.1 1852 ((H1.1 1826 47) - 1).toNat) (H1.1 1853 ((H1.1 1826 47) - 1).toNat)))]) (st' := [.inl (1000 + (((H1.1 1826 39) + 1) - 1)), .inr (.inr 1826)]) rfl ?_
                        have g175 : -2147483648 ≤ (H1.1 1826 43) ∧ (H1.1 1826 43) ≤ 2147483647 := hrg1.1 1826 13 43 _ .int rfl rfl
                        refine h_cv (i := 350) (j := 169) (b := 1826) (M' := mt_169) (xs := [.inl (1000 + (((H1.1 1826 39) + 1) - 1))]) (rest := []) rfl rfl rfl rfl rfl rfl (Nat.le_of_ble_eq_true rfl) (Nat.le_of_ble_eq_true rfl) (by omega) (m_put1 (by omega) (by omega : (H1.1 1826 35) = 0) (by omega : 0 ≤ (H1.1 1826 43) ∧ (H1.1 1826 43) ≤ 47) (by omega)) ?_
                        rintro _ _ ⟨rfl, rfl⟩
                        refine h_run 0 (pc' := 167) (l' := [(0, .inr (.inr 1826)), (1, .inl (f : Int)), (2, .inl (aty H1 (H1.1 1852 ((H1.1 1826 47) - 1).toNat) (H1.1 1853 ((H1.1 1826 47) - 1).toNat)))]) (st' := []) rfl ?_
                        refine h_run 4 (pc' := 175) (l' := [(0, .inr (.inr 1826)), (1, .inl (f : Int)), (2, .inl (aty H1 (H1.1 1852 ((H1.1 1826 47) - 1).toNat) (H1.1 1853 ((H1.1 1826 47) - 1).toNat)))]) (st' := [.inl (H1.1 1826 47), .inr (.inr 1853)]) rfl ?_
                        refine h_run 3 (pc' := 178) (l' := [(0, .inr (.inr 1826)), (1, .inl (f : Int)), (2, .inl (aty H1 (H1.1 1852 ((H1.1 1826 47) - 1).toNat) (H1.1 1853 ((H1.1 1826 47) - 1).toNat)))]) (st' := [.inl ((H1.1 1826 47) - 1), .inr (.inr 1853), .inl ((H1.1 1826 47) - 1), .inr (.inr 1853)]) rfl ?_
                        refine h_ild (c := 1853) (j := (((H1.1 1826 47) - 1)).toNat) (i := ((H1.1 1826 47) - 1)) rfl rfl (by decide) (by omega) (by omega) ?_
                        have g176 : -2147483648 ≤ (H1.1 1853 (((H1.1 1826 47) - 1)).toNat) ∧ (H1.1 1853 (((H1.1 1826 47) - 1)).toNat) ≤ 2147483647 := hrg1.2 1853 (((H1.1 1826 47) - 1)).toNat 64 .int rfl (by omega)
                        refine h_run 0 (pc' := 179) (l' := [(0, .inr (.inr 1826)), (1, .inl (f : Int)), (2, .inl (aty H1 (H1.1 1852 ((H1.1 1826 47) - 1).toNat) (H1.1 1853 ((H1.1 1826 47) - 1).toNat)))]) (st' := [.inl (H1.1 1853 (((H1.1 1826 47) - 1)).toNat), .inl ((H1.1 1826 47) - 1), .inr (.inr 1853)]) rfl ?_
                        refine h_run 2 (pc' := 181) (l' := [(0, .inr (.inr 1826)), (1, .inl (f : Int)), (2, .inl (aty H1 (H1.1 1852 ((H1.1 1826 47) - 1).toNat) (H1.1 1853 ((H1.1 1826 47) - 1).toNat)))]) (st' := [.inl ((H1.1 1853 (((H1.1 1826 47) - 1)).toNat) + 1), .inl ((H1.1 1826 47) - 1), .inr (.inr 1853)]) rfl ?_
                        refine h_ist (c := 1853) (j := (((H1.1 1826 47) - 1)).toNat) (i := ((H1.1 1826 47) - 1)) (x := ((H1.1 1853 (((H1.1 1826 47) - 1)).toNat) + 1)) rfl rfl (by decide) (by decide) (by omega) (by omega) (by omega) ?_
                        refine h_run 1 (pc' := 183) (l' := [(0, .inr (.inr 1826)), (1, .inl (f : Int)), (2, .inl (aty H1 (H1.1 1852 ((H1.1 1826 47) - 1).toNat) (H1.1 1853 ((H1.1 1826 47) - 1).toNat)))]) (st' := [.inr (.inr 1826)]) rfl ?_
                        have g177 : -2147483648 ≤ (H1.1 1826 30) ∧ (H1.1 1826 30) ≤ 2147483647 := hrg1.1 1826 13 30 _ .int rfl rfl
                        have g178 : -2147483648 ≤ (H1.1 1826 29) ∧ (H1.1 1826 29) ≤ 2147483647 := hrg1.1 1826 13 29 _ .int rfl rfl
                        have e179 : (H1.1 1826 29) = (H.1 1826 29) := hf.2.2 29 (by decide)
                        have g180 : -2147483648 ≤ (H1.1 1826 32) ∧ (H1.1 1826 32) ≤ 2147483647 := hrg1.1 1826 13 32 _ .int rfl rfl
                        refine h_cv (i := 297) (j := 165) (b := 1826) (M' := mt_165) (xs := []) (rest := []) rfl rfl rfl rfl rfl rfl (Nat.le_of_ble_eq_true rfl) (Nat.le_of_ble_eq_true rfl) (by omega) (m_next (by omega) (by omega : 0 ≤ (H1.1 1826 30) ∧ (H1.1 1826 30) ≤ (H1.1 1826 29) ∧ (H1.1 1826 29) ≤ 1000) (by omega : 0 ≤ (H1.1 1826 35) ∧ (H1.1 1826 35) ≤ 5) (by omega : 0 ≤ (H1.1 1826 32) ∧ (H1.1 1826 32) ≤ 1000)) ?_
                        rintro _ H181 ⟨rfl, hx181f, hx181a, hx181b, hx181c, -, hx181e, hx181g⟩
                        refine h_rng (fun hrg182 => ?_)
                        have hf183 : fr [30, 31, 32, 33, 35, 36, 39, 40, 41, 43, 47] [1849, 1850, 1851, 1852, 1853] H H181 := fr_t (fr_a (fr_o (fr_a (fr_o (fr_a (fr_a (fr_o hf (by decide)) (by decide)) (by decide)) (by decide)) (by decide)) (by decide)) (by decide)) hx181f (by decide) (by decide)
                        replace hx181a : (H1.1 1826 30) ≤ (H181.1 1826 30) := hx181a
                        replace hx181b : (H181.1 1826 30) ≤ (H1.1 1826 29) := hx181b
                        replace hx181g : (H181.1 1826 35) = 0 → ((H181.1 1826 31) = 0 ∨ (H1.1 1826 30) < (H181.1 1826 30)) := hx181g
                        refine h_run 0 (pc' := 186) (l' := [(0, .inr (.inr 1826)), (1, .inl (f : Int)), (2, .inl (aty H1 (H1.1 1852 ((H1.1 1826 47) - 1).toNat) (H1.1 1853 ((H1.1 1826 47) - 1).toNat)))]) (st' := []) rfl ?_
                        refine h_run 2 (pc' := 22) (l' := [(0, .inr (.inr 1826)), (1, .inl (f : Int)), (2, .inl (aty H1 (H1.1 1852 ((H1.1 1826 47) - 1).toNat) (H1.1 1853 ((H1.1 1826 47) - 1).toNat)))]) (st' := []) rfl ?_
                        have g184 : -2147483648 ≤ (H181.1 1826 30) ∧ (H181.1 1826 30) ≤ 2147483647 := hrg182.1 1826 13 30 _ .int rfl rfl
                        have g185 : -2147483648 ≤ (H181.1 1826 35) ∧ (H181.1 1826 35) ≤ 2147483647 := hrg182.1 1826 13 35 _ .int rfl rfl
                        have g186 : -2147483648 ≤ (H181.1 1826 32) ∧ (H181.1 1826 32) ≤ 2147483647 := hrg182.1 1826 13 32 _ .int rfl rfl
                        have g187 : -2147483648 ≤ (H181.1 1826 31) ∧ (H181.1 1826 31) ≤ 2147483647 := hrg182.1 1826 13 31 _ .int rfl rfl
                        have g188 : -2147483648 ≤ (H181.1 1826 29) ∧ (H181.1 1826 29) ≤ 2147483647 := hrg182.1 1826 13 29 _ .int rfl rfl
                        have e189 : (H181.1 1826 29) = (H1.1 1826 29) := hx181f.2.2 29 (by decide)
                        have g190 : -2147483648 ≤ (H181.1 1826 47) ∧ (H181.1 1826 47) ≤ 2147483647 := hrg182.1 1826 13 47 _ .int rfl rfl
                        have e191 : (H181.1 1826 47) = (H1.1 1826 47) := hx181f.2.2 47 (by decide)
                        have g192 : -2147483648 ≤ (H181.1 1826 41) ∧ (H181.1 1826 41) ≤ 2147483647 := hrg182.1 1826 13 41 _ .int rfl rfl
                        have e193 : (H181.1 1826 41) = (H1.1 1826 41) := hx181f.2.2 41 (by decide)
                        refine h_loc [0, 1] rfl ?_
                        exact ih _ hf183 (by omega : (H.1 1826 30) ≤ (H181.1 1826 30) ∧ (H181.1 1826 30) ≤ (H.1 1826 29)) (by omega : 0 ≤ (H181.1 1826 35) ∧ (H181.1 1826 35) ≤ 5) (by omega : 0 ≤ (H181.1 1826 32) ∧ (H181.1 1826 32) ≤ 1000) (by omega : (H.1 1826 35) ≠ 0 → (H181.1 1826 35) ≠ 0) (fun _ => PT_step (q := 0) hPT1 (Or.inr ⟨(by omega : 1000 ≤ 1000 + ((H1.1 1826 39) + 1 - 1)), by omega⟩) (ma_0 (by omega)) (by omega) hno (hx181f.2.1 1833 (by decide) (by decide)) (hx181f.2.1 1830 (by decide) (by decide)) ⟨hx181f.2.2 3 (by decide), hx181f.2.2 8 (by decide)⟩ (by omega) ⟨hx181f.2.2 40 (by decide), hx181f.2.2 43 (by decide)⟩ (hx181f.2.1 1851 (by decide) (by decide)) (Or.inr ⟨hx181f.2.2 39 (by decide), by omega⟩) (Or.inl ⟨rfl, hx181f.2.2 47 (by decide), hx181f.2.2 41 (by decide), hx181f.2.1 1852 (by decide) (by decide), by rw [← hidx]; exact hx181f.2.1 1853 (by decide) (by decide)⟩)) (mu_lt hw (by omega) (by omega : (H181.1 1826 35) ≠ 0 ∨ ((H1.1 1826 30) ≤ (H181.1 1826 30) ∧ (H181.1 1826 30) ≤ (H.1 1826 29) ∧ (((H181.1 1826 31) = 0 ∧ (H1.1 1826 31) ≠ 0) ∨ (H1.1 1826 30) < (H181.1 1826 30)))))
                    · refine h_run 2 (pc' := 140) (l' := [(0, .inr (.inr 1826)), (1, .inl (f : Int)), (2, .inl (aty H1 (H1.1 1852 ((H1.1 1826 47) - 1).toNat) (H1.1 1853 ((H1.1 1826 47) - 1).toNat)))]) (st' := [.inl 3, .inr (.inr 1826)]) rfl ?_
                      refine h_cv (i := 278) (j := 159) (b := 1826) (M' := mt_159) (xs := [.inl 3]) (rest := []) rfl rfl rfl rfl rfl rfl (Nat.le_of_ble_eq_true rfl) (Nat.le_of_ble_eq_true rfl) (by omega) (m_bad0 (by omega) (by omega) (by omega : (H1.1 1826 35) = 0)) ?_
                      rintro _ _ ⟨rfl, rfl⟩
                      refine h_run 0 (pc' := 143) (l' := [(0, .inr (.inr 1826)), (1, .inl (f : Int)), (2, .inl (aty H1 (H1.1 1852 ((H1.1 1826 47) - 1).toNat) (H1.1 1853 ((H1.1 1826 47) - 1).toNat)))]) (st' := []) rfl ?_
                      refine h_run 1 (pc' := 144) (l' := [(0, .inr (.inr 1826)), (1, .inl (f : Int)), (2, .inl (aty H1 (H1.1 1852 ((H1.1 1826 47) - 1).toNat) (H1.1 1853 ((H1.1 1826 47) - 1).toNat)))]) (st' := [.inr (.inr 1826)]) rfl ?_
                      have g194 : -2147483648 ≤ (H1.1 1826 40) ∧ (H1.1 1826 40) ≤ 2147483647 := hrg1.1 1826 13 40 _ .int rfl rfl
                      refine h_cv (i := 344) (j := 168) (b := 1826) (M' := mt_168) (xs := []) (rest := []) rfl rfl rfl rfl rfl rfl (Nat.le_of_ble_eq_true rfl) (Nat.le_of_ble_eq_true rfl) (by omega) (m_countC (by omega) (by omega : (3 : Int) ≠ 0) (by omega : 0 ≤ (H1.1 1826 40) ∧ (H1.1 1826 40) ≤ 1000)) ?_
                      rintro _ _ ⟨rfl, rfl⟩
                      refine h_run 0 (pc' := 147) (l' := [(0, .inr (.inr 1826)), (1, .inl (f : Int)), (2, .inl (aty H1 (H1.1 1852 ((H1.1 1826 47) - 1).toNat) (H1.1 1853 ((H1.1 1826 47) - 1).toNat)))]) (st' := []) rfl ?_
                      refine h_run 1 (pc' := 148) (l' := [(0, .inr (.inr 1826)), (1, .inl (f : Int)), (2, .inl (aty H1 (H1.1 1852 ((H1.1 1826 47) - 1).toNat) (H1.1 1853 ((H1.1 1826 47) - 1).toNat)))]) (st' := [.inr (.inr 1826)]) rfl ?_
                      refine h_cv (i := 293) (j := 158) (b := 1826) (M' := mt_158) (xs := []) (rest := []) rfl rfl rfl rfl rfl rfl (Nat.le_of_ble_eq_true rfl) (Nat.le_of_ble_eq_true rfl) (by omega) (m_good0 (by omega) (by omega : (3 : Int) ≠ 0)) ?_
                      rintro _ _ ⟨rfl, rfl⟩
                      refine h_run 0 (pc' := 151) (l' := [(0, .inr (.inr 1826)), (1, .inl (f : Int)), (2, .inl (aty H1 (H1.1 1852 ((H1.1 1826 47) - 1).toNat) (H1.1 1853 ((H1.1 1826 47) - 1).toNat)))]) (st' := [.inl 0]) rfl ?_
                      refine h_zeq (off := 113) (t := 264) rfl rfl (by decide) (fun _ => ?_) (fun c => absurd c (by decide))
                      refine h_run 1 (pc' := 22) (l' := [(0, .inr (.inr 1826)), (1, .inl (f : Int)), (2, .inl (aty H1 (H1.1 1852 ((H1.1 1826 47) - 1).toNat) (H1.1 1853 ((H1.1 1826 47) - 1).toNat)))]) (st' := []) rfl ?_
                      have g195 : -2147483648 ≤ (H1.1 1826 30) ∧ (H1.1 1826 30) ≤ 2147483647 := hrg1.1 1826 13 30 _ .int rfl rfl
                      have g196 : -2147483648 ≤ (H1.1 1826 32) ∧ (H1.1 1826 32) ≤ 2147483647 := hrg1.1 1826 13 32 _ .int rfl rfl
                      have g197 : -2147483648 ≤ (H1.1 1826 29) ∧ (H1.1 1826 29) ≤ 2147483647 := hrg1.1 1826 13 29 _ .int rfl rfl
                      have e198 : (H1.1 1826 29) = (H.1 1826 29) := hf.2.2 29 (by decide)
                      have g199 : -2147483648 ≤ (H1.1 1826 41) ∧ (H1.1 1826 41) ≤ 2147483647 := hrg1.1 1826 13 41 _ .int rfl rfl
                      refine h_loc [0, 1] rfl ?_
                      exact ih _ (fr_o (fr_o (fr_o hf (by decide)) (by decide)) (by decide)) (by omega : (H.1 1826 30) ≤ (H1.1 1826 30) ∧ (H1.1 1826 30) ≤ (H.1 1826 29)) (by omega : 0 ≤ (3 : Int) ∧ (3 : Int) ≤ 5) (by omega : 0 ≤ (H1.1 1826 32) ∧ (H1.1 1826 32) ≤ 1000) (by omega : (H.1 1826 35) ≠ 0 → (3 : Int) ≠ 0) (fun (q : (3 : Int) = 0) => absurd q (by omega)) (mu_lt hw (by omega) (by omega : (3 : Int) ≠ 0 ∨ ((H1.1 1826 30) ≤ (H1.1 1826 30) ∧ (H1.1 1826 30) ≤ (H.1 1826 29) ∧ (((H1.1 1826 31) = 0 ∧ (H1.1 1826 31) ≠ 0) ∨ (H1.1 1826 30) < (H1.1 1826 30)))))
                  · refine h_run 0 (pc' := 134) (l' := [(0, .inr (.inr 1826)), (1, .inl (f : Int)), (2, .inl (aty H1 (H1.1 1852 ((H1.1 1826 47) - 1).toNat) (H1.1 1853 ((H1.1 1826 47) - 1).toNat)))]) (st' := [.inl (-1)]) rfl ?_
                    refine h_run 1 (pc' := 135) (l' := [(0, .inr (.inr 1826)), (1, .inl (f : Int)), (2, .inl (aty H1 (H1.1 1852 ((H1.1 1826 47) - 1).toNat) (H1.1 1853 ((H1.1 1826 47) - 1).toNat)))]) (st' := [.inl (-1), .inl (-1)]) rfl ?_
                    refine h_ieq (off := 8) (t := 143) rfl rfl (by decide) (by decide) (fun _ => ?_) (fun c => absurd c (by decide))
                    refine h_run 1 (pc' := 144) (l' := [(0, .inr (.inr 1826)), (1, .inl (f : Int)), (2, .inl (aty H1 (H1.1 1852 ((H1.1 1826 47) - 1).toNat) (H1.1 1853 ((H1.1 1826 47) - 1).toNat)))]) (st' := [.inr (.inr 1826)]) rfl ?_
                    have g200 : -2147483648 ≤ (H1.1 1826 40) ∧ (H1.1 1826 40) ≤ 2147483647 := hrg1.1 1826 13 40 _ .int rfl rfl
                    by_cases b201 : (H1.1 1826 40) = 40
                    · refine h_cv (i := 344) (j := 168) (b := 1826) (M' := mt_168) (xs := []) (rest := []) rfl rfl rfl rfl rfl rfl (Nat.le_of_ble_eq_true rfl) (Nat.le_of_ble_eq_true rfl) (by omega) (m_countB (by omega) (by omega : (H1.1 1826 35) = 0) (by omega : (H1.1 1826 40) = 40)) ?_
                      rintro _ _ ⟨rfl, rfl⟩
                      refine h_run 0 (pc' := 147) (l' := [(0, .inr (.inr 1826)), (1, .inl (f : Int)), (2, .inl (aty H1 (H1.1 1852 ((H1.1 1826 47) - 1).toNat) (H1.1 1853 ((H1.1 1826 47) - 1).toNat)))]) (st' := []) rfl ?_
                      refine h_run 1 (pc' := 148) (l' := [(0, .inr (.inr 1826)), (1, .inl (f : Int)), (2, .inl (aty H1 (H1.1 1852 ((H1.1 1826 47) - 1).toNat) (H1.1 1853 ((H1.1 1826 47) - 1).toNat)))]) (st' := [.inr (.inr 1826)]) rfl ?_
                      refine h_cv (i := 293) (j := 158) (b := 1826) (M' := mt_158) (xs := []) (rest := []) rfl rfl rfl rfl rfl rfl (Nat.le_of_ble_eq_true rfl) (Nat.le_of_ble_eq_true rfl) (by omega) (m_good0 (by omega) (by omega : (5 : Int) ≠ 0)) ?_
                      rintro _ _ ⟨rfl, rfl⟩
                      refine h_run 0 (pc' := 151) (l' := [(0, .inr (.inr 1826)), (1, .inl (f : Int)), (2, .inl (aty H1 (H1.1 1852 ((H1.1 1826 47) - 1).toNat) (H1.1 1853 ((H1.1 1826 47) - 1).toNat)))]) (st' := [.inl 0]) rfl ?_
                      refine h_zeq (off := 113) (t := 264) rfl rfl (by decide) (fun _ => ?_) (fun c => absurd c (by decide))
                      refine h_run 1 (pc' := 22) (l' := [(0, .inr (.inr 1826)), (1, .inl (f : Int)), (2, .inl (aty H1 (H1.1 1852 ((H1.1 1826 47) - 1).toNat) (H1.1 1853 ((H1.1 1826 47) - 1).toNat)))]) (st' := []) rfl ?_
                      have g202 : -2147483648 ≤ (H1.1 1826 30) ∧ (H1.1 1826 30) ≤ 2147483647 := hrg1.1 1826 13 30 _ .int rfl rfl
                      have g203 : -2147483648 ≤ (H1.1 1826 32) ∧ (H1.1 1826 32) ≤ 2147483647 := hrg1.1 1826 13 32 _ .int rfl rfl
                      have g204 : -2147483648 ≤ (H1.1 1826 29) ∧ (H1.1 1826 29) ≤ 2147483647 := hrg1.1 1826 13 29 _ .int rfl rfl
                      have e205 : (H1.1 1826 29) = (H.1 1826 29) := hf.2.2 29 (by decide)
                      have g206 : -2147483648 ≤ (H1.1 1826 41) ∧ (H1.1 1826 41) ≤ 2147483647 := hrg1.1 1826 13 41 _ .int rfl rfl
                      refine h_loc [0, 1] rfl ?_
                      exact ih _ (fr_o (fr_o (fr_o hf (by decide)) (by decide)) (by decide)) (by omega : (H.1 1826 30) ≤ (H1.1 1826 30) ∧ (H1.1 1826 30) ≤ (H.1 1826 29)) (by omega : 0 ≤ (5 : Int) ∧ (5 : Int) ≤ 5) (by omega : 0 ≤ (H1.1 1826 32) ∧ (H1.1 1826 32) ≤ 1000) (by omega : (H.1 1826 35) ≠ 0 → (5 : Int) ≠ 0) (fun (q : (5 : Int) = 0) => absurd q (by omega)) (mu_lt hw (by omega) (by omega : (5 : Int) ≠ 0 ∨ ((H1.1 1826 30) ≤ (H1.1 1826 30) ∧ (H1.1 1826 30) ≤ (H.1 1826 29) ∧ (((H1.1 1826 31) = 0 ∧ (H1.1 1826 31) ≠ 0) ∨ (H1.1 1826 30) < (H1.1 1826 30)))))
                    · refine h_cv (i := 344) (j := 168) (b := 1826) (M' := mt_168) (xs := []) (rest := []) rfl rfl rfl rfl rfl rfl (Nat.le_of_ble_eq_true rfl) (Nat.le_of_ble_eq_true rfl) (by omega) (m_countA (by omega) (by omega : (H1.1 1826 35) = 0) (by omega : 0 ≤ (H1.1 1826 40) ∧ (H1.1 1826 40) ≤ 1000) (by omega : (H1.1 1826 40) ≠ 40)) ?_
                      rintro _ _ ⟨rfl, rfl⟩
                      refine h_run 0 (pc' := 147) (l' := [(0, .inr (.inr 1826)), (1, .inl (f : Int)), (2, .inl (aty H1 (H1.1 1852 ((H1.1 1826 47) - 1).toNat) (H1.1 1853 ((H1.1 1826 47) - 1).toNat)))]) (st' := []) rfl ?_
                      refine h_run 1 (pc' := 148) (l' := [(0, .inr (.inr 1826)), (1, .inl (f : Int)), (2, .inl (aty H1 (H1.1 1852 ((H1.1 1826 47) - 1).toNat) (H1.1 1853 ((H1.1 1826 47) - 1).toNat)))]) (st' := [.inr (.inr 1826)]) rfl ?_
                      refine h_cv (i := 293) (j := 158) (b := 1826) (M' := mt_158) (xs := []) (rest := []) rfl rfl rfl rfl rfl rfl (Nat.le_of_ble_eq_true rfl) (Nat.le_of_ble_eq_true rfl) (by omega) (m_good1 (by omega) (by omega : (H1.1 1826 35) = 0)) ?_
                      rintro _ _ ⟨rfl, rfl⟩
                      refine h_run 0 (pc' := 151) (l' := [(0, .inr (.inr 1826)), (1, .inl (f : Int)), (2, .inl (aty H1 (H1.1 1852 ((H1.1 1826 47) - 1).toNat) (H1.1 1853 ((H1.1 1826 47) - 1).toNat)))]) (st' := [.inl 1]) rfl ?_
                      refine h_zeq (off := 113) (t := 264) rfl rfl (by decide) (fun c => absurd c (by decide)) (fun _ => ?_)
                      refine h_run 4 (pc' := 160) (l' := [(0, .inr (.inr 1826)), (1, .inl (f : Int)), (2, .inl (aty H1 (H1.1 1852 ((H1.1 1826 47) - 1).toNat) (H1.1 1853 ((H1.1 1826 47) - 1).toNat)))]) (st' := [.inl (aty H1 (H1.1 1852 ((H1.1 1826 47) - 1).toNat) (H1.1 1853 ((H1.1 1826 47) - 1).toNat)), .inr (.inr 1826), .inl 1000, .inr (.inr 1826)]) rfl ?_
                      refine h_cv (i := 347) (j := 177) (b := 1826) (M' := mt_177) (xs := [.inl (aty H1 (H1.1 1852 ((H1.1 1826 47) - 1).toNat) (H1.1 1853 ((H1.1 1826 47) - 1).toNat))]) (rest := [.inl 1000, .inr (.inr 1826)]) rfl rfl rfl rfl rfl rfl (Nat.le_of_ble_eq_true rfl) (Nat.le_of_ble_eq_true rfl) (by omega) (m_addVariable (by omega) (by omega : 0 ≤ (H1.1 1826 39) ∧ (H1.1 1826 39) ≤ 47) (by omega)) ?_
                      rintro _ _ ⟨rfl, rfl⟩
                      refine h_run 0 (pc' := 163) (l' := [(0, .inr (.inr 1826)), (1, .inl (f : Int)), (2, .inl (aty H1 (H1.1 1852 ((H1.1 1826 47) - 1).toNat) (H1.1 1853 ((H1.1 1826 47) - 1).toNat)))]) (st' := [.inl (((H1.1 1826 39) + 1) - 1), .inl 1000, .inr (.inr 1826)]) rfl ?_
                      refine h_run 1 (pc' := 164) (l' := [(0, .inr (.inr 1826)), (1, .inl (f : Int)), (2, .inl (aty H1 (H1.1 1852 ((H1.1 1826 47) - 1).toNat) (H1.1 1853 ((H1.1 1826 47) - 1).toNat)))]) (st' := [.inl (1000 + (((H1.1 1826 39) + 1) - 1)), .inr (.inr 1826)]) rfl ?_
                      have g207 : -2147483648 ≤ (H1.1 1826 43) ∧ (H1.1 1826 43) ≤ 2147483647 := hrg1.1 1826 13 43 _ .int rfl rfl
                      refine h_cv (i := 350) (j := 169) (b := 1826) (M' := mt_169) (xs := [.inl (1000 + (((H1.1 1826 39) + 1) - 1))]) (rest := []) rfl rfl rfl rfl rfl rfl (Nat.le_of_ble_eq_true rfl) (Nat.le_of_ble_eq_true rfl) (by omega) (m_put1 (by omega) (by omega : (H1.1 1826 35) = 0) (by omega : 0 ≤ (H1.1 1826 43) ∧ (H1.1 1826 43) ≤ 47) (by omega)) ?_
                      rintro _ _ ⟨rfl, rfl⟩
                      refine h_run 0 (pc' := 167) (l' := [(0, .inr (.inr 1826)), (1, .inl (f : Int)), (2, .inl (aty H1 (H1.1 1852 ((H1.1 1826 47) - 1).toNat) (H1.1 1853 ((H1.1 1826 47) - 1).toNat)))]) (st' := []) rfl ?_
                      refine h_run 4 (pc' := 175) (l' := [(0, .inr (.inr 1826)), (1, .inl (f : Int)), (2, .inl (aty H1 (H1.1 1852 ((H1.1 1826 47) - 1).toNat) (H1.1 1853 ((H1.1 1826 47) - 1).toNat)))]) (st' := [.inl (H1.1 1826 47), .inr (.inr 1853)]) rfl ?_
                      refine h_run 3 (pc' := 178) (l' := [(0, .inr (.inr 1826)), (1, .inl (f : Int)), (2, .inl (aty H1 (H1.1 1852 ((H1.1 1826 47) - 1).toNat) (H1.1 1853 ((H1.1 1826 47) - 1).toNat)))]) (st' := [.inl ((H1.1 1826 47) - 1), .inr (.inr 1853), .inl ((H1.1 1826 47) - 1), .inr (.inr 1853)]) rfl ?_
                      refine h_ild (c := 1853) (j := (((H1.1 1826 47) - 1)).toNat) (i := ((H1.1 1826 47) - 1)) rfl rfl (by decide) (by omega) (by omega) ?_
                      have g208 : -2147483648 ≤ (H1.1 1853 (((H1.1 1826 47) - 1)).toNat) ∧ (H1.1 1853 (((H1.1 1826 47) - 1)).toNat) ≤ 2147483647 := hrg1.2 1853 (((H1.1 1826 47) - 1)).toNat 64 .int rfl (by omega)
                      refine h_run 0 (pc' := 179) (l' := [(0, .inr (.inr 1826)), (1, .inl (f : Int)), (2, .inl (aty H1 (H1.1 1852 ((H1.1 1826 47) - 1).toNat) (H1.1 1853 ((H1.1 1826 47) - 1).toNat)))]) (st' := [.inl (H1.1 1853 (((H1.1 1826 47) - 1)).toNat), .inl ((H1.1 1826 47) - 1), .inr (.inr 1853)]) rfl ?_
                      refine h_run 2 (pc' := 181) (l' := [(0, .inr (.inr 1826)), (1, .inl (f : Int)), (2, .inl (aty H1 (H1.1 1852 ((H1.1 1826 47) - 1).toNat) (H1.1 1853 ((H1.1 1826 47) - 1).toNat)))]) (st' := [.inl ((H1.1 1853 (((H1.1 1826 47) - 1)).toNat) + 1), .inl ((H1.1 1826 47) - 1), .inr (.inr 1853)]) rfl ?_
                      refine h_ist (c := 1853) (j := (((H1.1 1826 47) - 1)).toNat) (i := ((H1.1 1826 47) - 1)) (x := ((H1.1 1853 (((H1.1 1826 47) - 1)).toNat) + 1)) rfl rfl (by decide) (by decide) (by omega) (by omega) (by omega) ?_
                      refine h_run 1 (pc' := 183) (l' := [(0, .inr (.inr 1826)), (1, .inl (f : Int)), (2, .inl (aty H1 (H1.1 1852 ((H1.1 1826 47) - 1).toNat) (H1.1 1853 ((H1.1 1826 47) - 1).toNat)))]) (st' := [.inr (.inr 1826)]) rfl ?_
                      have g209 : -2147483648 ≤ (H1.1 1826 30) ∧ (H1.1 1826 30) ≤ 2147483647 := hrg1.1 1826 13 30 _ .int rfl rfl
                      have g210 : -2147483648 ≤ (H1.1 1826 29) ∧ (H1.1 1826 29) ≤ 2147483647 := hrg1.1 1826 13 29 _ .int rfl rfl
                      have e211 : (H1.1 1826 29) = (H.1 1826 29) := hf.2.2 29 (by decide)
                      have g212 : -2147483648 ≤ (H1.1 1826 32) ∧ (H1.1 1826 32) ≤ 2147483647 := hrg1.1 1826 13 32 _ .int rfl rfl
                      refine h_cv (i := 297) (j := 165) (b := 1826) (M' := mt_165) (xs := []) (rest := []) rfl rfl rfl rfl rfl rfl (Nat.le_of_ble_eq_true rfl) (Nat.le_of_ble_eq_true rfl) (by omega) (m_next (by omega) (by omega : 0 ≤ (H1.1 1826 30) ∧ (H1.1 1826 30) ≤ (H1.1 1826 29) ∧ (H1.1 1826 29) ≤ 1000) (by omega : 0 ≤ (H1.1 1826 35) ∧ (H1.1 1826 35) ≤ 5) (by omega : 0 ≤ (H1.1 1826 32) ∧ (H1.1 1826 32) ≤ 1000)) ?_
                      rintro _ H213 ⟨rfl, hx213f, hx213a, hx213b, hx213c, -, hx213e, hx213g⟩
                      refine h_rng (fun hrg214 => ?_)
                      have hf215 : fr [30, 31, 32, 33, 35, 36, 39, 40, 41, 43, 47] [1849, 1850, 1851, 1852, 1853] H H213 := fr_t (fr_a (fr_o (fr_a (fr_o (fr_a (fr_a (fr_o hf (by decide)) (by decide)) (by decide)) (by decide)) (by decide)) (by decide)) (by decide)) hx213f (by decide) (by decide)
                      replace hx213a : (H1.1 1826 30) ≤ (H213.1 1826 30) := hx213a
                      replace hx213b : (H213.1 1826 30) ≤ (H1.1 1826 29) := hx213b
                      replace hx213g : (H213.1 1826 35) = 0 → ((H213.1 1826 31) = 0 ∨ (H1.1 1826 30) < (H213.1 1826 30)) := hx213g
                      refine h_run 0 (pc' := 186) (l' := [(0, .inr (.inr 1826)), (1, .inl (f : Int)), (2, .inl (aty H1 (H1.1 1852 ((H1.1 1826 47) - 1).toNat) (H1.1 1853 ((H1.1 1826 47) - 1).toNat)))]) (st' := []) rfl ?_
                      refine h_run 2 (pc' := 22) (l' := [(0, .inr (.inr 1826)), (1, .inl (f : Int)), (2, .inl (aty H1 (H1.1 1852 ((H1.1 1826 47) - 1).toNat) (H1.1 1853 ((H1.1 1826 47) - 1).toNat)))]) (st' := []) rfl ?_
                      have g216 : -2147483648 ≤ (H213.1 1826 30) ∧ (H213.1 1826 30) ≤ 2147483647 := hrg214.1 1826 13 30 _ .int rfl rfl
                      have g217 : -2147483648 ≤ (H213.1 1826 35) ∧ (H213.1 1826 35) ≤ 2147483647 := hrg214.1 1826 13 35 _ .int rfl rfl
                      have g218 : -2147483648 ≤ (H213.1 1826 32) ∧ (H213.1 1826 32) ≤ 2147483647 := hrg214.1 1826 13 32 _ .int rfl rfl
                      have g219 : -2147483648 ≤ (H213.1 1826 31) ∧ (H213.1 1826 31) ≤ 2147483647 := hrg214.1 1826 13 31 _ .int rfl rfl
                      have g220 : -2147483648 ≤ (H213.1 1826 29) ∧ (H213.1 1826 29) ≤ 2147483647 := hrg214.1 1826 13 29 _ .int rfl rfl
                      have e221 : (H213.1 1826 29) = (H1.1 1826 29) := hx213f.2.2 29 (by decide)
                      have g222 : -2147483648 ≤ (H213.1 1826 47) ∧ (H213.1 1826 47) ≤ 2147483647 := hrg214.1 1826 13 47 _ .int rfl rfl
                      have e223 : (H213.1 1826 47) = (H1.1 1826 47) := hx213f.2.2 47 (by decide)
                      have g224 : -2147483648 ≤ (H213.1 1826 41) ∧ (H213.1 1826 41) ≤ 2147483647 := hrg214.1 1826 13 41 _ .int rfl rfl
                      have e225 : (H213.1 1826 41) = (H1.1 1826 41) := hx213f.2.2 41 (by decide)
                      refine h_loc [0, 1] rfl ?_
                      exact ih _ hf215 (by omega : (H.1 1826 30) ≤ (H213.1 1826 30) ∧ (H213.1 1826 30) ≤ (H.1 1826 29)) (by omega : 0 ≤ (H213.1 1826 35) ∧ (H213.1 1826 35) ≤ 5) (by omega : 0 ≤ (H213.1 1826 32) ∧ (H213.1 1826 32) ≤ 1000) (by omega : (H.1 1826 35) ≠ 0 → (H213.1 1826 35) ≠ 0) (fun _ => PT_step (q := 0) hPT1 (Or.inr ⟨(by omega : 1000 ≤ 1000 + ((H1.1 1826 39) + 1 - 1)), by omega⟩) (ma_0 (by omega)) (by omega) hno (hx213f.2.1 1833 (by decide) (by decide)) (hx213f.2.1 1830 (by decide) (by decide)) ⟨hx213f.2.2 3 (by decide), hx213f.2.2 8 (by decide)⟩ (by omega) ⟨hx213f.2.2 40 (by decide), hx213f.2.2 43 (by decide)⟩ (hx213f.2.1 1851 (by decide) (by decide)) (Or.inr ⟨hx213f.2.2 39 (by decide), by omega⟩) (Or.inl ⟨rfl, hx213f.2.2 47 (by decide), hx213f.2.2 41 (by decide), hx213f.2.1 1852 (by decide) (by decide), by rw [← hidx]; exact hx213f.2.1 1853 (by decide) (by decide)⟩)) (mu_lt hw (by omega) (by omega : (H213.1 1826 35) ≠ 0 ∨ ((H1.1 1826 30) ≤ (H213.1 1826 30) ∧ (H213.1 1826 30) ≤ (H.1 1826 29) ∧ (((H213.1 1826 31) = 0 ∧ (H1.1 1826 31) ≠ 0) ∨ (H1.1 1826 30) < (H213.1 1826 30)))))
                · refine h_run 2 (pc' := 113) (l' := [(0, .inr (.inr 1826)), (1, .inl (f : Int)), (2, .inl (aty H1 (H1.1 1852 ((H1.1 1826 47) - 1).toNat) (H1.1 1853 ((H1.1 1826 47) - 1).toNat)))]) (st' := [.inl 2, .inr (.inr 1826)]) rfl ?_
                  refine h_cv (i := 278) (j := 159) (b := 1826) (M' := mt_159) (xs := [.inl 2]) (rest := []) rfl rfl rfl rfl rfl rfl (Nat.le_of_ble_eq_true rfl) (Nat.le_of_ble_eq_true rfl) (by omega) (m_bad0 (by omega) (by omega) (by omega : (H1.1 1826 35) = 0)) ?_
                  rintro _ _ ⟨rfl, rfl⟩
                  refine h_run 0 (pc' := 116) (l' := [(0, .inr (.inr 1826)), (1, .inl (f : Int)), (2, .inl (aty H1 (H1.1 1852 ((H1.1 1826 47) - 1).toNat) (H1.1 1853 ((H1.1 1826 47) - 1).toNat)))]) (st' := []) rfl ?_
                  refine h_run 2 (pc' := 144) (l' := [(0, .inr (.inr 1826)), (1, .inl (f : Int)), (2, .inl (aty H1 (H1.1 1852 ((H1.1 1826 47) - 1).toNat) (H1.1 1853 ((H1.1 1826 47) - 1).toNat)))]) (st' := [.inr (.inr 1826)]) rfl ?_
                  have g226 : -2147483648 ≤ (H1.1 1826 40) ∧ (H1.1 1826 40) ≤ 2147483647 := hrg1.1 1826 13 40 _ .int rfl rfl
                  refine h_cv (i := 344) (j := 168) (b := 1826) (M' := mt_168) (xs := []) (rest := []) rfl rfl rfl rfl rfl rfl (Nat.le_of_ble_eq_true rfl) (Nat.le_of_ble_eq_true rfl) (by omega) (m_countC (by omega) (by omega : (2 : Int) ≠ 0) (by omega : 0 ≤ (H1.1 1826 40) ∧ (H1.1 1826 40) ≤ 1000)) ?_
                  rintro _ _ ⟨rfl, rfl⟩
                  refine h_run 0 (pc' := 147) (l' := [(0, .inr (.inr 1826)), (1, .inl (f : Int)), (2, .inl (aty H1 (H1.1 1852 ((H1.1 1826 47) - 1).toNat) (H1.1 1853 ((H1.1 1826 47) - 1).toNat)))]) (st' := []) rfl ?_
                  refine h_run 1 (pc' := 148) (l' := [(0, .inr (.inr 1826)), (1, .inl (f : Int)), (2, .inl (aty H1 (H1.1 1852 ((H1.1 1826 47) - 1).toNat) (H1.1 1853 ((H1.1 1826 47) - 1).toNat)))]) (st' := [.inr (.inr 1826)]) rfl ?_
                  refine h_cv (i := 293) (j := 158) (b := 1826) (M' := mt_158) (xs := []) (rest := []) rfl rfl rfl rfl rfl rfl (Nat.le_of_ble_eq_true rfl) (Nat.le_of_ble_eq_true rfl) (by omega) (m_good0 (by omega) (by omega : (2 : Int) ≠ 0)) ?_
                  rintro _ _ ⟨rfl, rfl⟩
                  refine h_run 0 (pc' := 151) (l' := [(0, .inr (.inr 1826)), (1, .inl (f : Int)), (2, .inl (aty H1 (H1.1 1852 ((H1.1 1826 47) - 1).toNat) (H1.1 1853 ((H1.1 1826 47) - 1).toNat)))]) (st' := [.inl 0]) rfl ?_
                  refine h_zeq (off := 113) (t := 264) rfl rfl (by decide) (fun _ => ?_) (fun c => absurd c (by decide))
                  refine h_run 1 (pc' := 22) (l' := [(0, .inr (.inr 1826)), (1, .inl (f : Int)), (2, .inl (aty H1 (H1.1 1852 ((H1.1 1826 47) - 1).toNat) (H1.1 1853 ((H1.1 1826 47) - 1).toNat)))]) (st' := []) rfl ?_
                  have g227 : -2147483648 ≤ (H1.1 1826 30) ∧ (H1.1 1826 30) ≤ 2147483647 := hrg1.1 1826 13 30 _ .int rfl rfl
                  have g228 : -2147483648 ≤ (H1.1 1826 32) ∧ (H1.1 1826 32) ≤ 2147483647 := hrg1.1 1826 13 32 _ .int rfl rfl
                  have g229 : -2147483648 ≤ (H1.1 1826 29) ∧ (H1.1 1826 29) ≤ 2147483647 := hrg1.1 1826 13 29 _ .int rfl rfl
                  have e230 : (H1.1 1826 29) = (H.1 1826 29) := hf.2.2 29 (by decide)
                  have g231 : -2147483648 ≤ (H1.1 1826 41) ∧ (H1.1 1826 41) ≤ 2147483647 := hrg1.1 1826 13 41 _ .int rfl rfl
                  refine h_loc [0, 1] rfl ?_
                  exact ih _ (fr_o (fr_o (fr_o hf (by decide)) (by decide)) (by decide)) (by omega : (H.1 1826 30) ≤ (H1.1 1826 30) ∧ (H1.1 1826 30) ≤ (H.1 1826 29)) (by omega : 0 ≤ (2 : Int) ∧ (2 : Int) ≤ 5) (by omega : 0 ≤ (H1.1 1826 32) ∧ (H1.1 1826 32) ≤ 1000) (by omega : (H.1 1826 35) ≠ 0 → (2 : Int) ≠ 0) (fun (q : (2 : Int) = 0) => absurd q (by omega)) (mu_lt hw (by omega) (by omega : (2 : Int) ≠ 0 ∨ ((H1.1 1826 30) ≤ (H1.1 1826 30) ∧ (H1.1 1826 30) ≤ (H.1 1826 29) ∧ (((H1.1 1826 31) = 0 ∧ (H1.1 1826 31) ≠ 0) ∨ (H1.1 1826 30) < (H1.1 1826 30)))))
              · refine h_run 0 (pc' := 107) (l' := [(0, .inr (.inr 1826)), (1, .inl (f : Int)), (2, .inl (aty H1 (H1.1 1852 ((H1.1 1826 47) - 1).toNat) (H1.1 1853 ((H1.1 1826 47) - 1).toNat)))]) (st' := [.inl (-1)]) rfl ?_
                refine h_run 1 (pc' := 108) (l' := [(0, .inr (.inr 1826)), (1, .inl (f : Int)), (2, .inl (aty H1 (H1.1 1852 ((H1.1 1826 47) - 1).toNat) (H1.1 1853 ((H1.1 1826 47) - 1).toNat)))]) (st' := [.inl (-1), .inl (-1)]) rfl ?_
                refine h_ieq (off := 11) (t := 119) rfl rfl (by decide) (by decide) (fun _ => ?_) (fun c => absurd c (by decide))
                refine h_run 4 (pc' := 127) (l' := [(0, .inr (.inr 1826)), (1, .inl (f : Int)), (2, .inl (aty H1 (H1.1 1852 ((H1.1 1826 47) - 1).toNat) (H1.1 1853 ((H1.1 1826 47) - 1).toNat)))]) (st' := [.inl (H1.1 1826 39), .inr (.inr 1849)]) rfl ?_
                have g232 : -2147483648 ≤ (H1.1 1826 39) ∧ (H1.1 1826 39) ≤ 2147483647 := hrg1.1 1826 13 39 _ .int rfl rfl
                refine h_run 2 (pc' := 131) (l' := [(0, .inr (.inr 1826)), (1, .inl (f : Int)), (2, .inl (aty H1 (H1.1 1852 ((H1.1 1826 47) - 1).toNat) (H1.1 1853 ((H1.1 1826 47) - 1).toNat)))]) (st' := [.inr (.inl (H1.1 1826 33)), .inl (H1.1 1826 39), .inr (.inr 1849)]) rfl ?_
                refine h_cs (i := 309) (j := 167) (M' := mt_167) (xs := [.inr (.inl (H1.1 1826 33)), .inl (H1.1 1826 39), .inr (.inr 1849)]) (rest := []) rfl rfl rfl rfl rfl (Nat.le_of_ble_eq_true rfl) (Nat.le_of_ble_eq_true rfl) (by omega) (m_find (by omega) (m := 48) rfl (by omega : 0 ≤ (H1.1 1826 39) ∧ (H1.1 1826 39) ≤ ((48 : Nat) : Int) ∧ 48 ≤ 100) (by omega)) ?_
                rintro _ _ ⟨⟨k233, rfl, f234, f234x⟩ | ⟨rfl, f234⟩, rfl⟩
                · refine h_run 0 (pc' := 134) (l' := [(0, .inr (.inr 1826)), (1, .inl (f : Int)), (2, .inl (aty H1 (H1.1 1852 ((H1.1 1826 47) - 1).toNat) (H1.1 1853 ((H1.1 1826 47) - 1).toNat)))]) (st' := [.inl (k233 : Int)]) rfl ?_
                  refine h_run 1 (pc' := 135) (l' := [(0, .inr (.inr 1826)), (1, .inl (f : Int)), (2, .inl (aty H1 (H1.1 1852 ((H1.1 1826 47) - 1).toNat) (H1.1 1853 ((H1.1 1826 47) - 1).toNat)))]) (st' := [.inl (-1), .inl (k233 : Int)]) rfl ?_
                  refine h_ieq (off := 8) (t := 143) rfl rfl (by omega) (by decide) (fun c235 => ?_) (fun c235 => ?_)
                  · refine h_run 1 (pc' := 144) (l' := [(0, .inr (.inr 1826)), (1, .inl (f : Int)), (2, .inl (aty H1 (H1.1 1852 ((H1.1 1826 47) - 1).toNat) (H1.1 1853 ((H1.1 1826 47) - 1).toNat)))]) (st' := [.inr (.inr 1826)]) rfl ?_
                    have g236 : -2147483648 ≤ (H1.1 1826 40) ∧ (H1.1 1826 40) ≤ 2147483647 := hrg1.1 1826 13 40 _ .int rfl rfl
                    by_cases b237 : (H1.1 1826 40) = 40
                    · refine h_cv (i := 344) (j := 168) (b := 1826) (M' := mt_168) (xs := []) (rest := []) rfl rfl rfl rfl rfl rfl (Nat.le_of_ble_eq_true rfl) (Nat.le_of_ble_eq_true rfl) (by omega) (m_countB (by omega) (by omega : (H1.1 1826 35) = 0) (by omega : (H1.1 1826 40) = 40)) ?_
                      rintro _ _ ⟨rfl, rfl⟩
                      refine h_run 0 (pc' := 147) (l' := [(0, .inr (.inr 1826)), (1, .inl (f : Int)), (2, .inl (aty H1 (H1.1 1852 ((H1.1 1826 47) - 1).toNat) (H1.1 1853 ((H1.1 1826 47) - 1).toNat)))]) (st' := []) rfl ?_
                      refine h_run 1 (pc' := 148) (l' := [(0, .inr (.inr 1826)), (1, .inl (f : Int)), (2, .inl (aty H1 (H1.1 1852 ((H1.1 1826 47) - 1).toNat) (H1.1 1853 ((H1.1 1826 47) - 1).toNat)))]) (st' := [.inr (.inr 1826)]) rfl ?_
                      refine h_cv (i := 293) (j := 158) (b := 1826) (M' := mt_158) (xs := []) (rest := []) rfl rfl rfl rfl rfl rfl (Nat.le_of_ble_eq_true rfl) (Nat.le_of_ble_eq_true rfl) (by omega) (m_good0 (by omega) (by omega : (5 : Int) ≠ 0)) ?_
                      rintro _ _ ⟨rfl, rfl⟩
                      refine h_run 0 (pc' := 151) (l' := [(0, .inr (.inr 1826)), (1, .inl (f : Int)), (2, .inl (aty H1 (H1.1 1852 ((H1.1 1826 47) - 1).toNat) (H1.1 1853 ((H1.1 1826 47) - 1).toNat)))]) (st' := [.inl 0]) rfl ?_
                      refine h_zeq (off := 113) (t := 264) rfl rfl (by decide) (fun _ => ?_) (fun c => absurd c (by decide))
                      refine h_run 1 (pc' := 22) (l' := [(0, .inr (.inr 1826)), (1, .inl (f : Int)), (2, .inl (aty H1 (H1.1 1852 ((H1.1 1826 47) - 1).toNat) (H1.1 1853 ((H1.1 1826 47) - 1).toNat)))]) (st' := []) rfl ?_
                      have g238 : -2147483648 ≤ (H1.1 1826 30) ∧ (H1.1 1826 30) ≤ 2147483647 := hrg1.1 1826 13 30 _ .int rfl rfl
                      have g239 : -2147483648 ≤ (H1.1 1826 32) ∧ (H1.1 1826 32) ≤ 2147483647 := hrg1.1 1826 13 32 _ .int rfl rfl
                      have g240 : -2147483648 ≤ (H1.1 1826 29) ∧ (H1.1 1826 29) ≤ 2147483647 := hrg1.1 1826 13 29 _ .int rfl rfl
                      have e241 : (H1.1 1826 29) = (H.1 1826 29) := hf.2.2 29 (by decide)
                      have g242 : -2147483648 ≤ (H1.1 1826 41) ∧ (H1.1 1826 41) ≤ 2147483647 := hrg1.1 1826 13 41 _ .int rfl rfl
                      refine h_loc [0, 1] rfl ?_
                      exact ih _ (fr_o (fr_o (fr_o hf (by decide)) (by decide)) (by decide)) (by omega : (H.1 1826 30) ≤ (H1.1 1826 30) ∧ (H1.1 1826 30) ≤ (H.1 1826 29)) (by omega : 0 ≤ (5 : Int) ∧ (5 : Int) ≤ 5) (by omega : 0 ≤ (H1.1 1826 32) ∧ (H1.1 1826 32) ≤ 1000) (by omega : (H.1 1826 35) ≠ 0 → (5 : Int) ≠ 0) (fun (q : (5 : Int) = 0) => absurd q (by omega)) (mu_lt hw (by omega) (by omega : (5 : Int) ≠ 0 ∨ ((H1.1 1826 30) ≤ (H1.1 1826 30) ∧ (H1.1 1826 30) ≤ (H.1 1826 29) ∧ (((H1.1 1826 31) = 0 ∧ (H1.1 1826 31) ≠ 0) ∨ (H1.1 1826 30) < (H1.1 1826 30)))))
                    · refine h_cv (i := 344) (j := 168) (b := 1826) (M' := mt_168) (xs := []) (rest := []) rfl rfl rfl rfl rfl rfl (Nat.le_of_ble_eq_true rfl) (Nat.le_of_ble_eq_true rfl) (by omega) (m_countA (by omega) (by omega : (H1.1 1826 35) = 0) (by omega : 0 ≤ (H1.1 1826 40) ∧ (H1.1 1826 40) ≤ 1000) (by omega : (H1.1 1826 40) ≠ 40)) ?_
                      rintro _ _ ⟨rfl, rfl⟩
                      refine h_run 0 (pc' := 147) (l' := [(0, .inr (.inr 1826)), (1, .inl (f : Int)), (2, .inl (aty H1 (H1.1 1852 ((H1.1 1826 47) - 1).toNat) (H1.1 1853 ((H1.1 1826 47) - 1).toNat)))]) (st' := []) rfl ?_
                      refine h_run 1 (pc' := 148) (l' := [(0, .inr (.inr 1826)), (1, .inl (f : Int)), (2, .inl (aty H1 (H1.1 1852 ((H1.1 1826 47) - 1).toNat) (H1.1 1853 ((H1.1 1826 47) - 1).toNat)))]) (st' := [.inr (.inr 1826)]) rfl ?_
                      refine h_cv (i := 293) (j := 158) (b := 1826) (M' := mt_158) (xs := []) (rest := []) rfl rfl rfl rfl rfl rfl (Nat.le_of_ble_eq_true rfl) (Nat.le_of_ble_eq_true rfl) (by omega) (m_good1 (by omega) (by omega : (H1.1 1826 35) = 0)) ?_
                      rintro _ _ ⟨rfl, rfl⟩
                      refine h_run 0 (pc' := 151) (l' := [(0, .inr (.inr 1826)), (1, .inl (f : Int)), (2, .inl (aty H1 (H1.1 1852 ((H1.1 1826 47) - 1).toNat) (H1.1 1853 ((H1.1 1826 47) - 1).toNat)))]) (st' := [.inl 1]) rfl ?_
                      refine h_zeq (off := 113) (t := 264) rfl rfl (by decide) (fun c => absurd c (by decide)) (fun _ => ?_)
                      refine h_run 4 (pc' := 160) (l' := [(0, .inr (.inr 1826)), (1, .inl (f : Int)), (2, .inl (aty H1 (H1.1 1852 ((H1.1 1826 47) - 1).toNat) (H1.1 1853 ((H1.1 1826 47) - 1).toNat)))]) (st' := [.inl (aty H1 (H1.1 1852 ((H1.1 1826 47) - 1).toNat) (H1.1 1853 ((H1.1 1826 47) - 1).toNat)), .inr (.inr 1826), .inl 1000, .inr (.inr 1826)]) rfl ?_
                      refine h_cv (i := 347) (j := 177) (b := 1826) (M' := mt_177) (xs := [.inl (aty H1 (H1.1 1852 ((H1.1 1826 47) - 1).toNat) (H1.1 1853 ((H1.1 1826 47) - 1).toNat))]) (rest := [.inl 1000, .inr (.inr 1826)]) rfl rfl rfl rfl rfl rfl (Nat.le_of_ble_eq_true rfl) (Nat.le_of_ble_eq_true rfl) (by omega) (m_addVariable (by omega) (by omega : 0 ≤ (H1.1 1826 39) ∧ (H1.1 1826 39) ≤ 47) (by omega)) ?_
                      rintro _ _ ⟨rfl, rfl⟩
                      refine h_run 0 (pc' := 163) (l' := [(0, .inr (.inr 1826)), (1, .inl (f : Int)), (2, .inl (aty H1 (H1.1 1852 ((H1.1 1826 47) - 1).toNat) (H1.1 1853 ((H1.1 1826 47) - 1).toNat)))]) (st' := [.inl (((H1.1 1826 39) + 1) - 1), .inl 1000, .inr (.inr 1826)]) rfl ?_
                      refine h_run 1 (pc' := 164) (l' := [(0, .inr (.inr 1826)), (1, .inl (f : Int)), (2, .inl (aty H1 (H1.1 1852 ((H1.1 1826 47) - 1).toNat) (H1.1 1853 ((H1.1 1826 47) - 1).toNat)))]) (st' := [.inl (1000 + (((H1.1 1826 39) + 1) - 1)), .inr (.inr 1826)]) rfl ?_
                      have g243 : -2147483648 ≤ (H1.1 1826 43) ∧ (H1.1 1826 43) ≤ 2147483647 := hrg1.1 1826 13 43 _ .int rfl rfl
                      refine h_cv (i := 350) (j := 169) (b := 1826) (M' := mt_169) (xs := [.inl (1000 + (((H1.1 1826 39) + 1) - 1))]) (rest := []) rfl rfl rfl rfl rfl rfl (Nat.le_of_ble_eq_true rfl) (Nat.le_of_ble_eq_true rfl) (by omega) (m_put1 (by omega) (by omega : (H1.1 1826 35) = 0) (by omega : 0 ≤ (H1.1 1826 43) ∧ (H1.1 1826 43) ≤ 47) (by omega)) ?_
                      rintro _ _ ⟨rfl, rfl⟩
                      refine h_run 0 (pc' := 167) (l' := [(0, .inr (.inr 1826)), (1, .inl (f : Int)), (2, .inl (aty H1 (H1.1 1852 ((H1.1 1826 47) - 1).toNat) (H1.1 1853 ((H1.1 1826 47) - 1).toNat)))]) (st' := []) rfl ?_
                      refine h_run 4 (pc' := 175) (l' := [(0, .inr (.inr 1826)), (1, .inl (f : Int)), (2, .inl (aty H1 (H1.1 1852 ((H1.1 1826 47) - 1).toNat) (H1.1 1853 ((H1.1 1826 47) - 1).toNat)))]) (st' := [.inl (H1.1 1826 47), .inr (.inr 1853)]) rfl ?_
                      refine h_run 3 (pc' := 178) (l' := [(0, .inr (.inr 1826)), (1, .inl (f : Int)), (2, .inl (aty H1 (H1.1 1852 ((H1.1 1826 47) - 1).toNat) (H1.1 1853 ((H1.1 1826 47) - 1).toNat)))]) (st' := [.inl ((H1.1 1826 47) - 1), .inr (.inr 1853), .inl ((H1.1 1826 47) - 1), .inr (.inr 1853)]) rfl ?_
                      refine h_ild (c := 1853) (j := (((H1.1 1826 47) - 1)).toNat) (i := ((H1.1 1826 47) - 1)) rfl rfl (by decide) (by omega) (by omega) ?_
                      have g244 : -2147483648 ≤ (H1.1 1853 (((H1.1 1826 47) - 1)).toNat) ∧ (H1.1 1853 (((H1.1 1826 47) - 1)).toNat) ≤ 2147483647 := hrg1.2 1853 (((H1.1 1826 47) - 1)).toNat 64 .int rfl (by omega)
                      refine h_run 0 (pc' := 179) (l' := [(0, .inr (.inr 1826)), (1, .inl (f : Int)), (2, .inl (aty H1 (H1.1 1852 ((H1.1 1826 47) - 1).toNat) (H1.1 1853 ((H1.1 1826 47) - 1).toNat)))]) (st' := [.inl (H1.1 1853 (((H1.1 1826 47) - 1)).toNat), .inl ((H1.1 1826 47) - 1), .inr (.inr 1853)]) rfl ?_
                      refine h_run 2 (pc' := 181) (l' := [(0, .inr (.inr 1826)), (1, .inl (f : Int)), (2, .inl (aty H1 (H1.1 1852 ((H1.1 1826 47) - 1).toNat) (H1.1 1853 ((H1.1 1826 47) - 1).toNat)))]) (st' := [.inl ((H1.1 1853 (((H1.1 1826 47) - 1)).toNat) + 1), .inl ((H1.1 1826 47) - 1), .inr (.inr 1853)]) rfl ?_
                      refine h_ist (c := 1853) (j := (((H1.1 1826 47) - 1)).toNat) (i := ((H1.1 1826 47) - 1)) (x := ((H1.1 1853 (((H1.1 1826 47) - 1)).toNat) + 1)) rfl rfl (by decide) (by decide) (by omega) (by omega) (by omega) ?_
                      refine h_run 1 (pc' := 183) (l' := [(0, .inr (.inr 1826)), (1, .inl (f : Int)), (2, .inl (aty H1 (H1.1 1852 ((H1.1 1826 47) - 1).toNat) (H1.1 1853 ((H1.1 1826 47) - 1).toNat)))]) (st' := [.inr (.inr 1826)]) rfl ?_
                      have g245 : -2147483648 ≤ (H1.1 1826 30) ∧ (H1.1 1826 30) ≤ 2147483647 := hrg1.1 1826 13 30 _ .int rfl rfl
                      have g246 : -2147483648 ≤ (H1.1 1826 29) ∧ (H1.1 1826 29) ≤ 2147483647 := hrg1.1 1826 13 29 _ .int rfl rfl
                      have e247 : (H1.1 1826 29) = (H.1 1826 29) := hf.2.2 29 (by decide)
                      have g248 : -2147483648 ≤ (H1.1 1826 32) ∧ (H1.1 1826 32) ≤ 2147483647 := hrg1.1 1826 13 32 _ .int rfl rfl
                      refine h_cv (i := 297) (j := 165) (b := 1826) (M' := mt_165) (xs := []) (rest := []) rfl rfl rfl rfl rfl rfl (Nat.le_of_ble_eq_true rfl) (Nat.le_of_ble_eq_true rfl) (by omega) (m_next (by omega) (by omega : 0 ≤ (H1.1 1826 30) ∧ (H1.1 1826 30) ≤ (H1.1 1826 29) ∧ (H1.1 1826 29) ≤ 1000) (by omega : 0 ≤ (H1.1 1826 35) ∧ (H1.1 1826 35) ≤ 5) (by omega : 0 ≤ (H1.1 1826 32) ∧ (H1.1 1826 32) ≤ 1000)) ?_
                      rintro _ H249 ⟨rfl, hx249f, hx249a, hx249b, hx249c, -, hx249e, hx249g⟩
                      refine h_rng (fun hrg250 => ?_)
                      have hf251 : fr [30, 31, 32, 33, 35, 36, 39, 40, 41, 43, 47] [1849, 1850, 1851, 1852, 1853] H H249 := fr_t (fr_a (fr_o (fr_a (fr_o (fr_a (fr_a (fr_o hf (by decide)) (by decide)) (by decide)) (by decide)) (by decide)) (by decide)) (by decide)) hx249f (by decide) (by decide)
                      replace hx249a : (H1.1 1826 30) ≤ (H249.1 1826 30) := hx249a
                      replace hx249b : (H249.1 1826 30) ≤ (H1.1 1826 29) := hx249b
                      replace hx249g : (H249.1 1826 35) = 0 → ((H249.1 1826 31) = 0 ∨ (H1.1 1826 30) < (H249.1 1826 30)) := hx249g
                      refine h_run 0 (pc' := 186) (l' := [(0, .inr (.inr 1826)), (1, .inl (f : Int)), (2, .inl (aty H1 (H1.1 1852 ((H1.1 1826 47) - 1).toNat) (H1.1 1853 ((H1.1 1826 47) - 1).toNat)))]) (st' := []) rfl ?_
                      refine h_run 2 (pc' := 22) (l' := [(0, .inr (.inr 1826)), (1, .inl (f : Int)), (2, .inl (aty H1 (H1.1 1852 ((H1.1 1826 47) - 1).toNat) (H1.1 1853 ((H1.1 1826 47) - 1).toNat)))]) (st' := []) rfl ?_
                      have g252 : -2147483648 ≤ (H249.1 1826 30) ∧ (H249.1 1826 30) ≤ 2147483647 := hrg250.1 1826 13 30 _ .int rfl rfl
                      have g253 : -2147483648 ≤ (H249.1 1826 35) ∧ (H249.1 1826 35) ≤ 2147483647 := hrg250.1 1826 13 35 _ .int rfl rfl
                      have g254 : -2147483648 ≤ (H249.1 1826 32) ∧ (H249.1 1826 32) ≤ 2147483647 := hrg250.1 1826 13 32 _ .int rfl rfl
                      have g255 : -2147483648 ≤ (H249.1 1826 31) ∧ (H249.1 1826 31) ≤ 2147483647 := hrg250.1 1826 13 31 _ .int rfl rfl
                      have g256 : -2147483648 ≤ (H249.1 1826 29) ∧ (H249.1 1826 29) ≤ 2147483647 := hrg250.1 1826 13 29 _ .int rfl rfl
                      have e257 : (H249.1 1826 29) = (H1.1 1826 29) := hx249f.2.2 29 (by decide)
                      have g258 : -2147483648 ≤ (H249.1 1826 47) ∧ (H249.1 1826 47) ≤ 2147483647 := hrg250.1 1826 13 47 _ .int rfl rfl
                      have e259 : (H249.1 1826 47) = (H1.1 1826 47) := hx249f.2.2 47 (by decide)
                      have g260 : -2147483648 ≤ (H249.1 1826 41) ∧ (H249.1 1826 41) ≤ 2147483647 := hrg250.1 1826 13 41 _ .int rfl rfl
                      have e261 : (H249.1 1826 41) = (H1.1 1826 41) := hx249f.2.2 41 (by decide)
                      refine h_loc [0, 1] rfl ?_
                      exact ih _ hf251 (by omega : (H.1 1826 30) ≤ (H249.1 1826 30) ∧ (H249.1 1826 30) ≤ (H.1 1826 29)) (by omega : 0 ≤ (H249.1 1826 35) ∧ (H249.1 1826 35) ≤ 5) (by omega : 0 ≤ (H249.1 1826 32) ∧ (H249.1 1826 32) ≤ 1000) (by omega : (H.1 1826 35) ≠ 0 → (H249.1 1826 35) ≠ 0) (fun _ => PT_step (q := 0) hPT1 (Or.inr ⟨(by omega : 1000 ≤ 1000 + ((H1.1 1826 39) + 1 - 1)), by omega⟩) (ma_0 (by omega)) (by omega) hno (hx249f.2.1 1833 (by decide) (by decide)) (hx249f.2.1 1830 (by decide) (by decide)) ⟨hx249f.2.2 3 (by decide), hx249f.2.2 8 (by decide)⟩ (by omega) ⟨hx249f.2.2 40 (by decide), hx249f.2.2 43 (by decide)⟩ (hx249f.2.1 1851 (by decide) (by decide)) (Or.inr ⟨hx249f.2.2 39 (by decide), by omega⟩) (Or.inl ⟨rfl, hx249f.2.2 47 (by decide), hx249f.2.2 41 (by decide), hx249f.2.1 1852 (by decide) (by decide), by rw [← hidx]; exact hx249f.2.1 1853 (by decide) (by decide)⟩)) (mu_lt hw (by omega) (by omega : (H249.1 1826 35) ≠ 0 ∨ ((H1.1 1826 30) ≤ (H249.1 1826 30) ∧ (H249.1 1826 30) ≤ (H.1 1826 29) ∧ (((H249.1 1826 31) = 0 ∧ (H1.1 1826 31) ≠ 0) ∨ (H1.1 1826 30) < (H249.1 1826 30)))))
                  · refine h_run 2 (pc' := 140) (l' := [(0, .inr (.inr 1826)), (1, .inl (f : Int)), (2, .inl (aty H1 (H1.1 1852 ((H1.1 1826 47) - 1).toNat) (H1.1 1853 ((H1.1 1826 47) - 1).toNat)))]) (st' := [.inl 3, .inr (.inr 1826)]) rfl ?_
                    refine h_cv (i := 278) (j := 159) (b := 1826) (M' := mt_159) (xs := [.inl 3]) (rest := []) rfl rfl rfl rfl rfl rfl (Nat.le_of_ble_eq_true rfl) (Nat.le_of_ble_eq_true rfl) (by omega) (m_bad0 (by omega) (by omega) (by omega : (H1.1 1826 35) = 0)) ?_
                    rintro _ _ ⟨rfl, rfl⟩
                    refine h_run 0 (pc' := 143) (l' := [(0, .inr (.inr 1826)), (1, .inl (f : Int)), (2, .inl (aty H1 (H1.1 1852 ((H1.1 1826 47) - 1).toNat) (H1.1 1853 ((H1.1 1826 47) - 1).toNat)))]) (st' := []) rfl ?_
                    refine h_run 1 (pc' := 144) (l' := [(0, .inr (.inr 1826)), (1, .inl (f : Int)), (2, .inl (aty H1 (H1.1 1852 ((H1.1 1826 47) - 1).toNat) (H1.1 1853 ((H1.1 1826 47) - 1).toNat)))]) (st' := [.inr (.inr 1826)]) rfl ?_
                    have g262 : -2147483648 ≤ (H1.1 1826 40) ∧ (H1.1 1826 40) ≤ 2147483647 := hrg1.1 1826 13 40 _ .int rfl rfl
                    refine h_cv (i := 344) (j := 168) (b := 1826) (M' := mt_168) (xs := []) (rest := []) rfl rfl rfl rfl rfl rfl (Nat.le_of_ble_eq_true rfl) (Nat.le_of_ble_eq_true rfl) (by omega) (m_countC (by omega) (by omega : (3 : Int) ≠ 0) (by omega : 0 ≤ (H1.1 1826 40) ∧ (H1.1 1826 40) ≤ 1000)) ?_
                    rintro _ _ ⟨rfl, rfl⟩
                    refine h_run 0 (pc' := 147) (l' := [(0, .inr (.inr 1826)), (1, .inl (f : Int)), (2, .inl (aty H1 (H1.1 1852 ((H1.1 1826 47) - 1).toNat) (H1.1 1853 ((H1.1 1826 47) - 1).toNat)))]) (st' := []) rfl ?_
                    refine h_run 1 (pc' := 148) (l' := [(0, .inr (.inr 1826)), (1, .inl (f : Int)), (2, .inl (aty H1 (H1.1 1852 ((H1.1 1826 47) - 1).toNat) (H1.1 1853 ((H1.1 1826 47) - 1).toNat)))]) (st' := [.inr (.inr 1826)]) rfl ?_
                    refine h_cv (i := 293) (j := 158) (b := 1826) (M' := mt_158) (xs := []) (rest := []) rfl rfl rfl rfl rfl rfl (Nat.le_of_ble_eq_true rfl) (Nat.le_of_ble_eq_true rfl) (by omega) (m_good0 (by omega) (by omega : (3 : Int) ≠ 0)) ?_
                    rintro _ _ ⟨rfl, rfl⟩
                    refine h_run 0 (pc' := 151) (l' := [(0, .inr (.inr 1826)), (1, .inl (f : Int)), (2, .inl (aty H1 (H1.1 1852 ((H1.1 1826 47) - 1).toNat) (H1.1 1853 ((H1.1 1826 47) - 1).toNat)))]) (st' := [.inl 0]) rfl ?_
                    refine h_zeq (off := 113) (t := 264) rfl rfl (by decide) (fun _ => ?_) (fun c => absurd c (by decide))
                    refine h_run 1 (pc' := 22) (l' := [(0, .inr (.inr 1826)), (1, .inl (f : Int)), (2, .inl (aty H1 (H1.1 1852 ((H1.1 1826 47) - 1).toNat) (H1.1 1853 ((H1.1 1826 47) - 1).toNat)))]) (st' := []) rfl ?_
                    have g263 : -2147483648 ≤ (H1.1 1826 30) ∧ (H1.1 1826 30) ≤ 2147483647 := hrg1.1 1826 13 30 _ .int rfl rfl
                    have g264 : -2147483648 ≤ (H1.1 1826 32) ∧ (H1.1 1826 32) ≤ 2147483647 := hrg1.1 1826 13 32 _ .int rfl rfl
                    have g265 : -2147483648 ≤ (H1.1 1826 29) ∧ (H1.1 1826 29) ≤ 2147483647 := hrg1.1 1826 13 29 _ .int rfl rfl
                    have e266 : (H1.1 1826 29) = (H.1 1826 29) := hf.2.2 29 (by decide)
                    have g267 : -2147483648 ≤ (H1.1 1826 41) ∧ (H1.1 1826 41) ≤ 2147483647 := hrg1.1 1826 13 41 _ .int rfl rfl
                    refine h_loc [0, 1] rfl ?_
                    exact ih _ (fr_o (fr_o (fr_o hf (by decide)) (by decide)) (by decide)) (by omega : (H.1 1826 30) ≤ (H1.1 1826 30) ∧ (H1.1 1826 30) ≤ (H.1 1826 29)) (by omega : 0 ≤ (3 : Int) ∧ (3 : Int) ≤ 5) (by omega : 0 ≤ (H1.1 1826 32) ∧ (H1.1 1826 32) ≤ 1000) (by omega : (H.1 1826 35) ≠ 0 → (3 : Int) ≠ 0) (fun (q : (3 : Int) = 0) => absurd q (by omega)) (mu_lt hw (by omega) (by omega : (3 : Int) ≠ 0 ∨ ((H1.1 1826 30) ≤ (H1.1 1826 30) ∧ (H1.1 1826 30) ≤ (H.1 1826 29) ∧ (((H1.1 1826 31) = 0 ∧ (H1.1 1826 31) ≠ 0) ∨ (H1.1 1826 30) < (H1.1 1826 30)))))
                · refine h_run 0 (pc' := 134) (l' := [(0, .inr (.inr 1826)), (1, .inl (f : Int)), (2, .inl (aty H1 (H1.1 1852 ((H1.1 1826 47) - 1).toNat) (H1.1 1853 ((H1.1 1826 47) - 1).toNat)))]) (st' := [.inl (-1)]) rfl ?_
                  refine h_run 1 (pc' := 135) (l' := [(0, .inr (.inr 1826)), (1, .inl (f : Int)), (2, .inl (aty H1 (H1.1 1852 ((H1.1 1826 47) - 1).toNat) (H1.1 1853 ((H1.1 1826 47) - 1).toNat)))]) (st' := [.inl (-1), .inl (-1)]) rfl ?_
                  refine h_ieq (off := 8) (t := 143) rfl rfl (by decide) (by decide) (fun _ => ?_) (fun c => absurd c (by decide))
                  refine h_run 1 (pc' := 144) (l' := [(0, .inr (.inr 1826)), (1, .inl (f : Int)), (2, .inl (aty H1 (H1.1 1852 ((H1.1 1826 47) - 1).toNat) (H1.1 1853 ((H1.1 1826 47) - 1).toNat)))]) (st' := [.inr (.inr 1826)]) rfl ?_
                  have g268 : -2147483648 ≤ (H1.1 1826 40) ∧ (H1.1 1826 40) ≤ 2147483647 := hrg1.1 1826 13 40 _ .int rfl rfl
                  by_cases b269 : (H1.1 1826 40) = 40
                  · refine h_cv (i := 344) (j := 168) (b := 1826) (M' := mt_168) (xs := []) (rest := []) rfl rfl rfl rfl rfl rfl (Nat.le_of_ble_eq_true rfl) (Nat.le_of_ble_eq_true rfl) (by omega) (m_countB (by omega) (by omega : (H1.1 1826 35) = 0) (by omega : (H1.1 1826 40) = 40)) ?_
                    rintro _ _ ⟨rfl, rfl⟩
                    refine h_run 0 (pc' := 147) (l' := [(0, .inr (.inr 1826)), (1, .inl (f : Int)), (2, .inl (aty H1 (H1.1 1852 ((H1.1 1826 47) - 1).toNat) (H1.1 1853 ((H1.1 1826 47) - 1).toNat)))]) (st' := []) rfl ?_
                    refine h_run 1 (pc' := 148) (l' := [(0, .inr (.inr 1826)), (1, .inl (f : Int)), (2, .inl (aty H1 (H1.1 1852 ((H1.1 1826 47) - 1).toNat) (H1.1 1853 ((H1.1 1826 47) - 1).toNat)))]) (st' := [.inr (.inr 1826)]) rfl ?_
                    refine h_cv (i := 293) (j := 158) (b := 1826) (M' := mt_158) (xs := []) (rest := []) rfl rfl rfl rfl rfl rfl (Nat.le_of_ble_eq_true rfl) (Nat.le_of_ble_eq_true rfl) (by omega) (m_good0 (by omega) (by omega : (5 : Int) ≠ 0)) ?_
                    rintro _ _ ⟨rfl, rfl⟩
                    refine h_run 0 (pc' := 151) (l' := [(0, .inr (.inr 1826)), (1, .inl (f : Int)), (2, .inl (aty H1 (H1.1 1852 ((H1.1 1826 47) - 1).toNat) (H1.1 1853 ((H1.1 1826 47) - 1).toNat)))]) (st' := [.inl 0]) rfl ?_
                    refine h_zeq (off := 113) (t := 264) rfl rfl (by decide) (fun _ => ?_) (fun c => absurd c (by decide))
                    refine h_run 1 (pc' := 22) (l' := [(0, .inr (.inr 1826)), (1, .inl (f : Int)), (2, .inl (aty H1 (H1.1 1852 ((H1.1 1826 47) - 1).toNat) (H1.1 1853 ((H1.1 1826 47) - 1).toNat)))]) (st' := []) rfl ?_
                    have g270 : -2147483648 ≤ (H1.1 1826 30) ∧ (H1.1 1826 30) ≤ 2147483647 := hrg1.1 1826 13 30 _ .int rfl rfl
                    have g271 : -2147483648 ≤ (H1.1 1826 32) ∧ (H1.1 1826 32) ≤ 2147483647 := hrg1.1 1826 13 32 _ .int rfl rfl
                    have g272 : -2147483648 ≤ (H1.1 1826 29) ∧ (H1.1 1826 29) ≤ 2147483647 := hrg1.1 1826 13 29 _ .int rfl rfl
                    have e273 : (H1.1 1826 29) = (H.1 1826 29) := hf.2.2 29 (by decide)
                    have g274 : -2147483648 ≤ (H1.1 1826 41) ∧ (H1.1 1826 41) ≤ 2147483647 := hrg1.1 1826 13 41 _ .int rfl rfl
                    refine h_loc [0, 1] rfl ?_
                    exact ih _ (fr_o (fr_o (fr_o hf (by decide)) (by decide)) (by decide)) (by omega : (H.1 1826 30) ≤ (H1.1 1826 30) ∧ (H1.1 1826 30) ≤ (H.1 1826 29)) (by omega : 0 ≤ (5 : Int) ∧ (5 : Int) ≤ 5) (by omega : 0 ≤ (H1.1 1826 32) ∧ (H1.1 1826 32) ≤ 1000) (by omega : (H.1 1826 35) ≠ 0 → (5 : Int) ≠ 0) (fun (q : (5 : Int) = 0) => absurd q (by omega)) (mu_lt hw (by omega) (by omega : (5 : Int) ≠ 0 ∨ ((H1.1 1826 30) ≤ (H1.1 1826 30) ∧ (H1.1 1826 30) ≤ (H.1 1826 29) ∧ (((H1.1 1826 31) = 0 ∧ (H1.1 1826 31) ≠ 0) ∨ (H1.1 1826 30) < (H1.1 1826 30)))))
                  · refine h_cv (i := 344) (j := 168) (b := 1826) (M' := mt_168) (xs := []) (rest := []) rfl rfl rfl rfl rfl rfl (Nat.le_of_ble_eq_true rfl) (Nat.le_of_ble_eq_true rfl) (by omega) (m_countA (by omega) (by omega : (H1.1 1826 35) = 0) (by omega : 0 ≤ (H1.1 1826 40) ∧ (H1.1 1826 40) ≤ 1000) (by omega : (H1.1 1826 40) ≠ 40)) ?_
                    rintro _ _ ⟨rfl, rfl⟩
                    refine h_run 0 (pc' := 147) (l' := [(0, .inr (.inr 1826)), (1, .inl (f : Int)), (2, .inl (aty H1 (H1.1 1852 ((H1.1 1826 47) - 1).toNat) (H1.1 1853 ((H1.1 1826 47) - 1).toNat)))]) (st' := []) rfl ?_
                    refine h_run 1 (pc' := 148) (l' := [(0, .inr (.inr 1826)), (1, .inl (f : Int)), (2, .inl (aty H1 (H1.1 1852 ((H1.1 1826 47) - 1).toNat) (H1.1 1853 ((H1.1 1826 47) - 1).toNat)))]) (st' := [.inr (.inr 1826)]) rfl ?_
                    refine h_cv (i := 293) (j := 158) (b := 1826) (M' := mt_158) (xs := []) (rest := []) rfl rfl rfl rfl rfl rfl (Nat.le_of_ble_eq_true rfl) (Nat.le_of_ble_eq_true rfl) (by omega) (m_good1 (by omega) (by omega : (H1.1 1826 35) = 0)) ?_
                    rintro _ _ ⟨rfl, rfl⟩
                    refine h_run 0 (pc' := 151) (l' := [(0, .inr (.inr 1826)), (1, .inl (f : Int)), (2, .inl (aty H1 (H1.1 1852 ((H1.1 1826 47) - 1).toNat) (H1.1 1853 ((H1.1 1826 47) - 1).toNat)))]) (st' := [.inl 1]) rfl ?_
                    refine h_zeq (off := 113) (t := 264) rfl rfl (by decide) (fun c => absurd c (by decide)) (fun _ => ?_)
                    refine h_run 4 (pc' := 160) (l' := [(0, .inr (.inr 1826)), (1, .inl (f : Int)), (2, .inl (aty H1 (H1.1 1852 ((H1.1 1826 47) - 1).toNat) (H1.1 1853 ((H1.1 1826 47) - 1).toNat)))]) (st' := [.inl (aty H1 (H1.1 1852 ((H1.1 1826 47) - 1).toNat) (H1.1 1853 ((H1.1 1826 47) - 1).toNat)), .inr (.inr 1826), .inl 1000, .inr (.inr 1826)]) rfl ?_
                    refine h_cv (i := 347) (j := 177) (b := 1826) (M' := mt_177) (xs := [.inl (aty H1 (H1.1 1852 ((H1.1 1826 47) - 1).toNat) (H1.1 1853 ((H1.1 1826 47) - 1).toNat))]) (rest := [.inl 1000, .inr (.inr 1826)]) rfl rfl rfl rfl rfl rfl (Nat.le_of_ble_eq_true rfl) (Nat.le_of_ble_eq_true rfl) (by omega) (m_addVariable (by omega) (by omega : 0 ≤ (H1.1 1826 39) ∧ (H1.1 1826 39) ≤ 47) (by omega)) ?_
                    rintro _ _ ⟨rfl, rfl⟩
                    refine h_run 0 (pc' := 163) (l' := [(0, .inr (.inr 1826)), (1, .inl (f : Int)), (2, .inl (aty H1 (H1.1 1852 ((H1.1 1826 47) - 1).toNat) (H1.1 1853 ((H1.1 1826 47) - 1).toNat)))]) (st' := [.inl (((H1.1 1826 39) + 1) - 1), .inl 1000, .inr (.inr 1826)]) rfl ?_
                    refine h_run 1 (pc' := 164) (l' := [(0, .inr (.inr 1826)), (1, .inl (f : Int)), (2, .inl (aty H1 (H1.1 1852 ((H1.1 1826 47) - 1).toNat) (H1.1 1853 ((H1.1 1826 47) - 1).toNat)))]) (st' := [.inl (1000 + (((H1.1 1826 39) + 1) - 1)), .inr (.inr 1826)]) rfl ?_
                    have g275 : -2147483648 ≤ (H1.1 1826 43) ∧ (H1.1 1826 43) ≤ 2147483647 := hrg1.1 1826 13 43 _ .int rfl rfl
                    refine h_cv (i := 350) (j := 169) (b := 1826) (M' := mt_169) (xs := [.inl (1000 + (((H1.1 1826 39) + 1) - 1))]) (rest := []) rfl rfl rfl rfl rfl rfl (Nat.le_of_ble_eq_true rfl) (Nat.le_of_ble_eq_true rfl) (by omega) (m_put1 (by omega) (by omega : (H1.1 1826 35) = 0) (by omega : 0 ≤ (H1.1 1826 43) ∧ (H1.1 1826 43) ≤ 47) (by omega)) ?_
                    rintro _ _ ⟨rfl, rfl⟩
                    refine h_run 0 (pc' := 167) (l' := [(0, .inr (.inr 1826)), (1, .inl (f : Int)), (2, .inl (aty H1 (H1.1 1852 ((H1.1 1826 47) - 1).toNat) (H1.1 1853 ((H1.1 1826 47) - 1).toNat)))]) (st' := []) rfl ?_
                    refine h_run 4 (pc' := 175) (l' := [(0, .inr (.inr 1826)), (1, .inl (f : Int)), (2, .inl (aty H1 (H1.1 1852 ((H1.1 1826 47) - 1).toNat) (H1.1 1853 ((H1.1 1826 47) - 1).toNat)))]) (st' := [.inl (H1.1 1826 47), .inr (.inr 1853)]) rfl ?_
                    refine h_run 3 (pc' := 178) (l' := [(0, .inr (.inr 1826)), (1, .inl (f : Int)), (2, .inl (aty H1 (H1.1 1852 ((H1.1 1826 47) - 1).toNat) (H1.1 1853 ((H1.1 1826 47) - 1).toNat)))]) (st' := [.inl ((H1.1 1826 47) - 1), .inr (.inr 1853), .inl ((H1.1 1826 47) - 1), .inr (.inr 1853)]) rfl ?_
                    refine h_ild (c := 1853) (j := (((H1.1 1826 47) - 1)).toNat) (i := ((H1.1 1826 47) - 1)) rfl rfl (by decide) (by omega) (by omega) ?_
                    have g276 : -2147483648 ≤ (H1.1 1853 (((H1.1 1826 47) - 1)).toNat) ∧ (H1.1 1853 (((H1.1 1826 47) - 1)).toNat) ≤ 2147483647 := hrg1.2 1853 (((H1.1 1826 47) - 1)).toNat 64 .int rfl (by omega)
                    refine h_run 0 (pc' := 179) (l' := [(0, .inr (.inr 1826)), (1, .inl (f : Int)), (2, .inl (aty H1 (H1.1 1852 ((H1.1 1826 47) - 1).toNat) (H1.1 1853 ((H1.1 1826 47) - 1).toNat)))]) (st' := [.inl (H1.1 1853 (((H1.1 1826 47) - 1)).toNat), .inl ((H1.1 1826 47) - 1), .inr (.inr 1853)]) rfl ?_
                    refine h_run 2 (pc' := 181) (l' := [(0, .inr (.inr 1826)), (1, .inl (f : Int)), (2, .inl (aty H1 (H1.1 1852 ((H1.1 1826 47) - 1).toNat) (H1.1 1853 ((H1.1 1826 47) - 1).toNat)))]) (st' := [.inl ((H1.1 1853 (((H1.1 1826 47) - 1)).toNat) + 1), .inl ((H1.1 1826 47) - 1), .inr (.inr 1853)]) rfl ?_
                    refine h_ist (c := 1853) (j := (((H1.1 1826 47) - 1)).toNat) (i := ((H1.1 1826 47) - 1)) (x := ((H1.1 1853 (((H1.1 1826 47) - 1)).toNat) + 1)) rfl rfl (by decide) (by decide) (by omega) (by omega) (by omega) ?_
                    refine h_run 1 (pc' := 183) (l' := [(0, .inr (.inr 1826)), (1, .inl (f : Int)), (2, .inl (aty H1 (H1.1 1852 ((H1.1 1826 47) - 1).toNat) (H1.1 1853 ((H1.1 1826 47) - 1).toNat)))]) (st' := [.inr (.inr 1826)]) rfl ?_
                    have g277 : -2147483648 ≤ (H1.1 1826 30) ∧ (H1.1 1826 30) ≤ 2147483647 := hrg1.1 1826 13 30 _ .int rfl rfl
                    have g278 : -2147483648 ≤ (H1.1 1826 29) ∧ (H1.1 1826 29) ≤ 2147483647 := hrg1.1 1826 13 29 _ .int rfl rfl
                    have e279 : (H1.1 1826 29) = (H.1 1826 29) := hf.2.2 29 (by decide)
                    have g280 : -2147483648 ≤ (H1.1 1826 32) ∧ (H1.1 1826 32) ≤ 2147483647 := hrg1.1 1826 13 32 _ .int rfl rfl
                    refine h_cv (i := 297) (j := 165) (b := 1826) (M' := mt_165) (xs := []) (rest := []) rfl rfl rfl rfl rfl rfl (Nat.le_of_ble_eq_true rfl) (Nat.le_of_ble_eq_true rfl) (by omega) (m_next (by omega) (by omega : 0 ≤ (H1.1 1826 30) ∧ (H1.1 1826 30) ≤ (H1.1 1826 29) ∧ (H1.1 1826 29) ≤ 1000) (by omega : 0 ≤ (H1.1 1826 35) ∧ (H1.1 1826 35) ≤ 5) (by omega : 0 ≤ (H1.1 1826 32) ∧ (H1.1 1826 32) ≤ 1000)) ?_
                    rintro _ H281 ⟨rfl, hx281f, hx281a, hx281b, hx281c, -, hx281e, hx281g⟩
                    refine h_rng (fun hrg282 => ?_)
                    have hf283 : fr [30, 31, 32, 33, 35, 36, 39, 40, 41, 43, 47] [1849, 1850, 1851, 1852, 1853] H H281 := fr_t (fr_a (fr_o (fr_a (fr_o (fr_a (fr_a (fr_o hf (by decide)) (by decide)) (by decide)) (by decide)) (by decide)) (by decide)) (by decide)) hx281f (by decide) (by decide)
                    replace hx281a : (H1.1 1826 30) ≤ (H281.1 1826 30) := hx281a
                    replace hx281b : (H281.1 1826 30) ≤ (H1.1 1826 29) := hx281b
                    replace hx281g : (H281.1 1826 35) = 0 → ((H281.1 1826 31) = 0 ∨ (H1.1 1826 30) < (H281.1 1826 30)) := hx281g
                    refine h_run 0 (pc' := 186) (l' := [(0, .inr (.inr 1826)), (1, .inl (f : Int)), (2, .inl (aty H1 (H1.1 1852 ((H1.1 1826 47) - 1).toNat) (H1.1 1853 ((H1.1 1826 47) - 1).toNat)))]) (st' := []) rfl ?_
                    refine h_run 2 (pc' := 22) (l' := [(0, .inr (.inr 1826)), (1, .inl (f : Int)), (2, .inl (aty H1 (H1.1 1852 ((H1.1 1826 47) - 1).toNat) (H1.1 1853 ((H1.1 1826 47) - 1).toNat)))]) (st' := []) rfl ?_
                    have g284 : -2147483648 ≤ (H281.1 1826 30) ∧ (H281.1 1826 30) ≤ 2147483647 := hrg282.1 1826 13 30 _ .int rfl rfl
                    have g285 : -2147483648 ≤ (H281.1 1826 35) ∧ (H281.1 1826 35) ≤ 2147483647 := hrg282.1 1826 13 35 _ .int rfl rfl
                    have g286 : -2147483648 ≤ (H281.1 1826 32) ∧ (H281.1 1826 32) ≤ 2147483647 := hrg282.1 1826 13 32 _ .int rfl rfl
                    have g287 : -2147483648 ≤ (H281.1 1826 31) ∧ (H281.1 1826 31) ≤ 2147483647 := hrg282.1 1826 13 31 _ .int rfl rfl
                    have g288 : -2147483648 ≤ (H281.1 1826 29) ∧ (H281.1 1826 29) ≤ 2147483647 := hrg282.1 1826 13 29 _ .int rfl rfl
                    have e289 : (H281.1 1826 29) = (H1.1 1826 29) := hx281f.2.2 29 (by decide)
                    have g290 : -2147483648 ≤ (H281.1 1826 47) ∧ (H281.1 1826 47) ≤ 2147483647 := hrg282.1 1826 13 47 _ .int rfl rfl
                    have e291 : (H281.1 1826 47) = (H1.1 1826 47) := hx281f.2.2 47 (by decide)
                    have g292 : -2147483648 ≤ (H281.1 1826 41) ∧ (H281.1 1826 41) ≤ 2147483647 := hrg282.1 1826 13 41 _ .int rfl rfl
                    have e293 : (H281.1 1826 41) = (H1.1 1826 41) := hx281f.2.2 41 (by decide)
                    refine h_loc [0, 1] rfl ?_
                    exact ih _ hf283 (by omega : (H.1 1826 30) ≤ (H281.1 1826 30) ∧ (H281.1 1826 30) ≤ (H.1 1826 29)) (by omega : 0 ≤ (H281.1 1826 35) ∧ (H281.1 1826 35) ≤ 5) (by omega : 0 ≤ (H281.1 1826 32) ∧ (H281.1 1826 32) ≤ 1000) (by omega : (H.1 1826 35) ≠ 0 → (H281.1 1826 35) ≠ 0) (fun _ => PT_step (q := 0) hPT1 (Or.inr ⟨(by omega : 1000 ≤ 1000 + ((H1.1 1826 39) + 1 - 1)), by omega⟩) (ma_0 (by omega)) (by omega) hno (hx281f.2.1 1833 (by decide) (by decide)) (hx281f.2.1 1830 (by decide) (by decide)) ⟨hx281f.2.2 3 (by decide), hx281f.2.2 8 (by decide)⟩ (by omega) ⟨hx281f.2.2 40 (by decide), hx281f.2.2 43 (by decide)⟩ (hx281f.2.1 1851 (by decide) (by decide)) (Or.inr ⟨hx281f.2.2 39 (by decide), by omega⟩) (Or.inl ⟨rfl, hx281f.2.2 47 (by decide), hx281f.2.2 41 (by decide), hx281f.2.1 1852 (by decide) (by decide), by rw [← hidx]; exact hx281f.2.1 1853 (by decide) (by decide)⟩)) (mu_lt hw (by omega) (by omega : (H281.1 1826 35) ≠ 0 ∨ ((H1.1 1826 30) ≤ (H281.1 1826 30) ∧ (H281.1 1826 30) ≤ (H.1 1826 29) ∧ (((H281.1 1826 31) = 0 ∧ (H1.1 1826 31) ≠ 0) ∨ (H1.1 1826 30) < (H281.1 1826 30)))))
          · have hno : ma (H1.1 1833) (H1.1 1830) ((H1.1 1852) (n - 1)) ≤ (H1.1 1853) (n - 1) := by rw [← hidx]; omega
            refine h_run 2 (pc' := 58) (l' := [(0, .inr (.inr 1826)), (1, .inl (f : Int)), (2, .inl (aty H1 (H1.1 1852 ((H1.1 1826 47) - 1).toNat) (H1.1 1853 ((H1.1 1826 47) - 1).toNat)))]) (st' := [.inl 41, .inr (.inr 1826)]) rfl ?_
            have g294 : -2147483648 ≤ (H1.1 1826 30) ∧ (H1.1 1826 30) ≤ 2147483647 := hrg1.1 1826 13 30 _ .int rfl rfl
            have g295 : -2147483648 ≤ (H1.1 1826 29) ∧ (H1.1 1826 29) ≤ 2147483647 := hrg1.1 1826 13 29 _ .int rfl rfl
            have e296 : (H1.1 1826 29) = (H.1 1826 29) := hf.2.2 29 (by decide)
            have g297 : -2147483648 ≤ (H1.1 1826 31) ∧ (H1.1 1826 31) ≤ 2147483647 := hrg1.1 1826 13 31 _ .int rfl rfl
            have g299 : -2147483648 ≤ (H1.1 1826 32) ∧ (H1.1 1826 32) ≤ 2147483647 := hrg1.1 1826 13 32 _ .int rfl rfl
            refine h_cv (i := 313) (j := 166) (b := 1826) (M' := mt_166) (xs := [.inl 41]) (rest := []) rfl rfl rfl rfl rfl rfl (Nat.le_of_ble_eq_true rfl) (Nat.le_of_ble_eq_true rfl) (by omega) (m_want (by omega) (by omega : 0 ≤ (H1.1 1826 30) ∧ (H1.1 1826 30) ≤ (H1.1 1826 29) ∧ (H1.1 1826 29) ≤ 1000) (by omega : 0 ≤ (H1.1 1826 35) ∧ (H1.1 1826 35) ≤ 5) (by omega : 0 ≤ (H1.1 1826 32) ∧ (H1.1 1826 32) ≤ 1000) (by omega)) ?_
            rintro _ H298 ⟨rfl, hx298f, hx298a, hx298b, hx298c, -, hx298e, hx298g⟩
            refine h_rng (fun hrg300 => ?_)
            have hf301 : fr [30, 31, 32, 33, 35, 36, 39, 40, 41, 43, 47] [1849, 1850, 1851, 1852, 1853] H H298 := fr_t hf hx298f (by decide) (by decide)
            replace hx298a : (H1.1 1826 30) ≤ (H298.1 1826 30) := hx298a
            replace hx298b : (H298.1 1826 30) ≤ (H1.1 1826 29) := hx298b
            replace hx298g : (H298.1 1826 35) = 0 → (H1.1 1826 31) = (41 : Int) ∧ ((H298.1 1826 31) = 0 ∨ (H1.1 1826 30) < (H298.1 1826 30)) := hx298g
            refine h_run 0 (pc' := 61) (l' := [(0, .inr (.inr 1826)), (1, .inl (f : Int)), (2, .inl (aty H1 (H1.1 1852 ((H1.1 1826 47) - 1).toNat) (H1.1 1853 ((H1.1 1826 47) - 1).toNat)))]) (st' := []) rfl ?_
            refine h_run 3 (pc' := 66) (l' := [(0, .inr (.inr 1826)), (1, .inl (f : Int)), (2, .inl (aty H1 (H1.1 1852 ((H1.1 1826 47) - 1).toNat) (H1.1 1853 ((H1.1 1826 47) - 1).toNat)))]) (st' := [.inl (H298.1 1826 41), .inr (.inr 1826)]) rfl ?_
            have g302 : -2147483648 ≤ (H298.1 1826 41) ∧ (H298.1 1826 41) ≤ 2147483647 := hrg300.1 1826 13 41 _ .int rfl rfl
            have e303 : (H298.1 1826 41) = (H1.1 1826 41) := hx298f.2.2 41 (by decide)
            refine h_run 2 (pc' := 68) (l' := [(0, .inr (.inr 1826)), (1, .inl (f : Int)), (2, .inl (aty H1 (H1.1 1852 ((H1.1 1826 47) - 1).toNat) (H1.1 1853 ((H1.1 1826 47) - 1).toNat)))]) (st' := [.inl ((H298.1 1826 41) - 1), .inr (.inr 1826)]) rfl ?_
            refine h_puti (i := 335) (ci := 13) (k := 41) (a := 1826) (x := ((H298.1 1826 41) - 1)) rfl rfl rfl rfl rfl rfl (by decide) (by omega) ?_
            refine h_run 3 (pc' := 76) (l' := [(0, .inr (.inr 1826)), (1, .inl (f : Int)), (2, .inl (aty H1 (H1.1 1852 ((H1.1 1826 47) - 1).toNat) (H1.1 1853 ((H1.1 1826 47) - 1).toNat)))]) (st' := [.inl (H298.1 1826 47), .inr (.inr 1826)]) rfl ?_
            have g304 : -2147483648 ≤ (H298.1 1826 47) ∧ (H298.1 1826 47) ≤ 2147483647 := hrg300.1 1826 13 47 _ .int rfl rfl
            have e305 : (H298.1 1826 47) = (H1.1 1826 47) := hx298f.2.2 47 (by decide)
            refine h_run 2 (pc' := 78) (l' := [(0, .inr (.inr 1826)), (1, .inl (f : Int)), (2, .inl (aty H1 (H1.1 1852 ((H1.1 1826 47) - 1).toNat) (H1.1 1853 ((H1.1 1826 47) - 1).toNat)))]) (st' := [.inl ((H298.1 1826 47) - 1), .inr (.inr 1826)]) rfl ?_
            refine h_puti (i := 328) (ci := 13) (k := 47) (a := 1826) (x := ((H298.1 1826 47) - 1)) rfl rfl rfl rfl rfl rfl (by decide) (by omega) ?_
            refine h_run 2 (pc' := 22) (l' := [(0, .inr (.inr 1826)), (1, .inl (f : Int)), (2, .inl (aty H1 (H1.1 1852 ((H1.1 1826 47) - 1).toNat) (H1.1 1853 ((H1.1 1826 47) - 1).toNat)))]) (st' := []) rfl ?_
            have g306 : -2147483648 ≤ (H298.1 1826 30) ∧ (H298.1 1826 30) ≤ 2147483647 := hrg300.1 1826 13 30 _ .int rfl rfl
            have g307 : -2147483648 ≤ (H298.1 1826 35) ∧ (H298.1 1826 35) ≤ 2147483647 := hrg300.1 1826 13 35 _ .int rfl rfl
            have g308 : -2147483648 ≤ (H298.1 1826 32) ∧ (H298.1 1826 32) ≤ 2147483647 := hrg300.1 1826 13 32 _ .int rfl rfl
            have g309 : -2147483648 ≤ (H298.1 1826 31) ∧ (H298.1 1826 31) ≤ 2147483647 := hrg300.1 1826 13 31 _ .int rfl rfl
            have g310 : -2147483648 ≤ (H298.1 1826 29) ∧ (H298.1 1826 29) ≤ 2147483647 := hrg300.1 1826 13 29 _ .int rfl rfl
            have e311 : (H298.1 1826 29) = (H1.1 1826 29) := hx298f.2.2 29 (by decide)
            refine h_loc [0, 1] rfl ?_
            exact ih _ (fr_o (fr_o hf301 (by decide)) (by decide)) (by omega : (H.1 1826 30) ≤ (H298.1 1826 30) ∧ (H298.1 1826 30) ≤ (H.1 1826 29)) (by omega : 0 ≤ (H298.1 1826 35) ∧ (H298.1 1826 35) ≤ 5) (by omega : 0 ≤ (H298.1 1826 32) ∧ (H298.1 1826 32) ≤ 1000) (by omega : (H.1 1826 35) ≠ 0 → (H298.1 1826 35) ≠ 0) (fun _ => ⟨_, PT_shut hPT1 (by omega) hno (hx298f.2.1 1833 (by decide) (by decide)) (hx298f.2.1 1830 (by decide) (by decide)) ⟨hx298f.2.2 3 (by decide), hx298f.2.2 8 (by decide)⟩ ⟨hx298f.2.2 40 (by decide), hx298f.2.2 43 (by decide), hx298f.2.2 39 (by decide)⟩ (hx298f.2.1 1851 (by decide) (by decide)) ⟨(by omega : ((H298.1 1826 47) - 1) = (H1.1 1826 47) - 1), (by omega : ((H298.1 1826 41) - 1) = (H1.1 1826 41) - 1)⟩ (hx298f.2.1 1852 (by decide) (by decide)) (hx298f.2.1 1853 (by decide) (by decide))⟩) (mu_lt hw (by omega) (by omega : (H298.1 1826 35) ≠ 0 ∨ ((H1.1 1826 30) ≤ (H298.1 1826 30) ∧ (H298.1 1826 30) ≤ (H.1 1826 29) ∧ (((H298.1 1826 31) = 0 ∧ (H1.1 1826 31) ≠ 0) ∨ (H1.1 1826 30) < (H298.1 1826 30)))))
      · refine h_run 1 (pc' := 38) (l' := [(0, .inr (.inr 1826)), (1, .inl (f : Int))]) (st' := [.inr (.inr 1826)]) rfl ?_
        refine h_cv (i := 341) (j := 174) (b := 1826) (M' := mt_174) (xs := []) (rest := []) rfl rfl rfl rfl rfl rfl (Nat.le_of_ble_eq_true rfl) (Nat.le_of_ble_eq_true rfl) (by omega) (m_wanted (by omega) (by omega) hP1 ps1 ps2) ?_
        rintro _ _ ⟨⟨rfl, wn312⟩ | ⟨rfl, wn312, wn312x⟩, rfl⟩
        · refine h_run 0 (pc' := 41) (l' := [(0, .inr (.inr 1826)), (1, .inl (f : Int))]) (st' := [.inl (-1)]) rfl ?_
          refine h_run 1 (pc' := 42) (l' := [(0, .inr (.inr 1826)), (1, .inl (f : Int))]) (st' := [.inl (-1), .inl (-1)]) rfl ?_
          refine h_ieq (off := 225) (t := 267) rfl rfl (by decide) (by decide) (fun _ => ?_) (fun c => absurd c (by decide))
          have hend : ma (H1.1 1833) (H1.1 1830) ((H1.1 1852) 0) ≤ (H1.1 1853) 0 := by rw [show (0 : Nat) = ((H1.1 1826 47) - 1).toNat by omega]; omega
          refine h_ret rfl rfl ?_
          have g313 : -2147483648 ≤ (H1.1 1826 30) ∧ (H1.1 1826 30) ≤ 2147483647 := hrg1.1 1826 13 30 _ .int rfl rfl
          have g314 : -2147483648 ≤ (H1.1 1826 32) ∧ (H1.1 1826 32) ≤ 2147483647 := hrg1.1 1826 13 32 _ .int rfl rfl
          have g315 : -2147483648 ≤ (H1.1 1826 29) ∧ (H1.1 1826 29) ≤ 2147483647 := hrg1.1 1826 13 29 _ .int rfl rfl
          have e316 : (H1.1 1826 29) = (H.1 1826 29) := hf.2.2 29 (by decide)
          exact ⟨rfl, hf, (by omega : (H.1 1826 30) ≤ (H1.1 1826 30) ∧ (H1.1 1826 30) ≤ (H.1 1826 29)), (by omega : 0 ≤ (H1.1 1826 35) ∧ (H1.1 1826 35) ≤ 5), (by omega : (H.1 1826 35) ≠ 0 → (H1.1 1826 35) ≠ 0), (by omega : 0 ≤ (H1.1 1826 32) ∧ (H1.1 1826 32) ≤ 1000), fun _ => PT_end hPT1 (by omega) hend⟩
        · refine h_run 0 (pc' := 41) (l' := [(0, .inr (.inr 1826)), (1, .inl (f : Int))]) (st' := [.inl (aty H1 (H1.1 1852 ((H1.1 1826 47) - 1).toNat) (H1.1 1853 ((H1.1 1826 47) - 1).toNat))]) rfl ?_
          refine h_run 1 (pc' := 42) (l' := [(0, .inr (.inr 1826)), (1, .inl (f : Int))]) (st' := [.inl (-1), .inl (aty H1 (H1.1 1852 ((H1.1 1826 47) - 1).toNat) (H1.1 1853 ((H1.1 1826 47) - 1).toNat))]) rfl ?_
          refine h_ieq (off := 225) (t := 267) rfl rfl (by omega) (by decide) (fun c317 => ?_) (fun c317 => ?_)
          · have hend : ma (H1.1 1833) (H1.1 1830) ((H1.1 1852) 0) ≤ (H1.1 1853) 0 := by rw [show (0 : Nat) = ((H1.1 1826 47) - 1).toNat by omega]; omega
            refine h_ret rfl rfl ?_
            have g318 : -2147483648 ≤ (H1.1 1826 30) ∧ (H1.1 1826 30) ≤ 2147483647 := hrg1.1 1826 13 30 _ .int rfl rfl
            have g319 : -2147483648 ≤ (H1.1 1826 32) ∧ (H1.1 1826 32) ≤ 2147483647 := hrg1.1 1826 13 32 _ .int rfl rfl
            have g320 : -2147483648 ≤ (H1.1 1826 29) ∧ (H1.1 1826 29) ≤ 2147483647 := hrg1.1 1826 13 29 _ .int rfl rfl
            have e321 : (H1.1 1826 29) = (H.1 1826 29) := hf.2.2 29 (by decide)
            exact ⟨rfl, hf, (by omega : (H.1 1826 30) ≤ (H1.1 1826 30) ∧ (H1.1 1826 30) ≤ (H.1 1826 29)), (by omega : 0 ≤ (H1.1 1826 35) ∧ (H1.1 1826 35) ≤ 5), (by omega : (H.1 1826 35) ≠ 0 → (H1.1 1826 35) ≠ 0), (by omega : 0 ≤ (H1.1 1826 32) ∧ (H1.1 1826 32) ≤ 1000), fun _ => PT_end hPT1 (by omega) hend⟩
          · refine h_run 1 (pc' := 46) (l' := [(0, .inr (.inr 1826)), (1, .inl (f : Int))]) (st' := [.inr (.inr 1826)]) rfl ?_
            refine h_cv (i := 341) (j := 174) (b := 1826) (M' := mt_174) (xs := []) (rest := []) rfl rfl rfl rfl rfl rfl (Nat.le_of_ble_eq_true rfl) (Nat.le_of_ble_eq_true rfl) (by omega) (m_wanted (by omega) (by omega) hP1 ps1 ps2) ?_
            rintro _ _ ⟨⟨rfl, wn322⟩ | ⟨rfl, wn322, wn322x⟩, rfl⟩
            · refine h_run 0 (pc' := 49) (l' := [(0, .inr (.inr 1826)), (1, .inl (f : Int))]) (st' := [.inl (-1)]) rfl ?_
              refine h_run 3 (pc' := 52) (l' := [(0, .inr (.inr 1826)), (1, .inl (f : Int)), (2, .inl (-1))]) (st' := [.inl (-1), .inl (-1)]) rfl ?_
              refine h_ine (off := 32) (t := 84) rfl rfl (by decide) (by decide) (fun c => absurd c (by decide)) (fun _ => ?_)
              have hno : ma (H1.1 1833) (H1.1 1830) ((H1.1 1852) (n - 1)) ≤ (H1.1 1853) (n - 1) := by rw [← hidx]; omega
              refine h_run 2 (pc' := 58) (l' := [(0, .inr (.inr 1826)), (1, .inl (f : Int)), (2, .inl (-1))]) (st' := [.inl 41, .inr (.inr 1826)]) rfl ?_
              have g323 : -2147483648 ≤ (H1.1 1826 30) ∧ (H1.1 1826 30) ≤ 2147483647 := hrg1.1 1826 13 30 _ .int rfl rfl
              have g324 : -2147483648 ≤ (H1.1 1826 29) ∧ (H1.1 1826 29) ≤ 2147483647 := hrg1.1 1826 13 29 _ .int rfl rfl
              have e325 : (H1.1 1826 29) = (H.1 1826 29) := hf.2.2 29 (by decide)
              have g326 : -2147483648 ≤ (H1.1 1826 31) ∧ (H1.1 1826 31) ≤ 2147483647 := hrg1.1 1826 13 31 _ .int rfl rfl
              have g328 : -2147483648 ≤ (H1.1 1826 32) ∧ (H1.1 1826 32) ≤ 2147483647 := hrg1.1 1826 13 32 _ .int rfl rfl
              refine h_cv (i := 313) (j := 166) (b := 1826) (M' := mt_166) (xs := [.inl 41]) (rest := []) rfl rfl rfl rfl rfl rfl (Nat.le_of_ble_eq_true rfl) (Nat.le_of_ble_eq_true rfl) (by omega) (m_want (by omega) (by omega : 0 ≤ (H1.1 1826 30) ∧ (H1.1 1826 30) ≤ (H1.1 1826 29) ∧ (H1.1 1826 29) ≤ 1000) (by omega : 0 ≤ (H1.1 1826 35) ∧ (H1.1 1826 35) ≤ 5) (by omega : 0 ≤ (H1.1 1826 32) ∧ (H1.1 1826 32) ≤ 1000) (by omega)) ?_
              rintro _ H327 ⟨rfl, hx327f, hx327a, hx327b, hx327c, -, hx327e, hx327g⟩
              refine h_rng (fun hrg329 => ?_)
              have hf330 : fr [30, 31, 32, 33, 35, 36, 39, 40, 41, 43, 47] [1849, 1850, 1851, 1852, 1853] H H327 := fr_t hf hx327f (by decide) (by decide)
              replace hx327a : (H1.1 1826 30) ≤ (H327.1 1826 30) := hx327a
              replace hx327b : (H327.1 1826 30) ≤ (H1.1 1826 29) := hx327b
              replace hx327g : (H327.1 1826 35) = 0 → (H1.1 1826 31) = (41 : Int) ∧ ((H327.1 1826 31) = 0 ∨ (H1.1 1826 30) < (H327.1 1826 30)) := hx327g
              refine h_run 0 (pc' := 61) (l' := [(0, .inr (.inr 1826)), (1, .inl (f : Int)), (2, .inl (-1))]) (st' := []) rfl ?_
              refine h_run 3 (pc' := 66) (l' := [(0, .inr (.inr 1826)), (1, .inl (f : Int)), (2, .inl (-1))]) (st' := [.inl (H327.1 1826 41), .inr (.inr 1826)]) rfl ?_
              have g331 : -2147483648 ≤ (H327.1 1826 41) ∧ (H327.1 1826 41) ≤ 2147483647 := hrg329.1 1826 13 41 _ .int rfl rfl
              have e332 : (H327.1 1826 41) = (H1.1 1826 41) := hx327f.2.2 41 (by decide)
              refine h_run 2 (pc' := 68) (l' := [(0, .inr (.inr 1826)), (1, .inl (f : Int)), (2, .inl (-1))]) (st' := [.inl ((H327.1 1826 41) - 1), .inr (.inr 1826)]) rfl ?_
              refine h_puti (i := 335) (ci := 13) (k := 41) (a := 1826) (x := ((H327.1 1826 41) - 1)) rfl rfl rfl rfl rfl rfl (by decide) (by omega) ?_
              refine h_run 3 (pc' := 76) (l' := [(0, .inr (.inr 1826)), (1, .inl (f : Int)), (2, .inl (-1))]) (st' := [.inl (H327.1 1826 47), .inr (.inr 1826)]) rfl ?_
              have g333 : -2147483648 ≤ (H327.1 1826 47) ∧ (H327.1 1826 47) ≤ 2147483647 := hrg329.1 1826 13 47 _ .int rfl rfl
              have e334 : (H327.1 1826 47) = (H1.1 1826 47) := hx327f.2.2 47 (by decide)
              refine h_run 2 (pc' := 78) (l' := [(0, .inr (.inr 1826)), (1, .inl (f : Int)), (2, .inl (-1))]) (st' := [.inl ((H327.1 1826 47) - 1), .inr (.inr 1826)]) rfl ?_
              refine h_puti (i := 328) (ci := 13) (k := 47) (a := 1826) (x := ((H327.1 1826 47) - 1)) rfl rfl rfl rfl rfl rfl (by decide) (by omega) ?_
              refine h_run 2 (pc' := 22) (l' := [(0, .inr (.inr 1826)), (1, .inl (f : Int)), (2, .inl (-1))]) (st' := []) rfl ?_
              have g335 : -2147483648 ≤ (H327.1 1826 30) ∧ (H327.1 1826 30) ≤ 2147483647 := hrg329.1 1826 13 30 _ .int rfl rfl
              have g336 : -2147483648 ≤ (H327.1 1826 35) ∧ (H327.1 1826 35) ≤ 2147483647 := hrg329.1 1826 13 35 _ .int rfl rfl
              have g337 : -2147483648 ≤ (H327.1 1826 32) ∧ (H327.1 1826 32) ≤ 2147483647 := hrg329.1 1826 13 32 _ .int rfl rfl
              have g338 : -2147483648 ≤ (H327.1 1826 31) ∧ (H327.1 1826 31) ≤ 2147483647 := hrg329.1 1826 13 31 _ .int rfl rfl
              have g339 : -2147483648 ≤ (H327.1 1826 29) ∧ (H327.1 1826 29) ≤ 2147483647 := hrg329.1 1826 13 29 _ .int rfl rfl
              have e340 : (H327.1 1826 29) = (H1.1 1826 29) := hx327f.2.2 29 (by decide)
              refine h_loc [0, 1] rfl ?_
              exact ih _ (fr_o (fr_o hf330 (by decide)) (by decide)) (by omega : (H.1 1826 30) ≤ (H327.1 1826 30) ∧ (H327.1 1826 30) ≤ (H.1 1826 29)) (by omega : 0 ≤ (H327.1 1826 35) ∧ (H327.1 1826 35) ≤ 5) (by omega : 0 ≤ (H327.1 1826 32) ∧ (H327.1 1826 32) ≤ 1000) (by omega : (H.1 1826 35) ≠ 0 → (H327.1 1826 35) ≠ 0) (fun _ => ⟨_, PT_shut hPT1 (by omega) hno (hx327f.2.1 1833 (by decide) (by decide)) (hx327f.2.1 1830 (by decide) (by decide)) ⟨hx327f.2.2 3 (by decide), hx327f.2.2 8 (by decide)⟩ ⟨hx327f.2.2 40 (by decide), hx327f.2.2 43 (by decide), hx327f.2.2 39 (by decide)⟩ (hx327f.2.1 1851 (by decide) (by decide)) ⟨(by omega : ((H327.1 1826 47) - 1) = (H1.1 1826 47) - 1), (by omega : ((H327.1 1826 41) - 1) = (H1.1 1826 41) - 1)⟩ (hx327f.2.1 1852 (by decide) (by decide)) (hx327f.2.1 1853 (by decide) (by decide))⟩) (mu_lt hw (by omega) (by omega : (H327.1 1826 35) ≠ 0 ∨ ((H1.1 1826 30) ≤ (H327.1 1826 30) ∧ (H327.1 1826 30) ≤ (H.1 1826 29) ∧ (((H327.1 1826 31) = 0 ∧ (H1.1 1826 31) ≠ 0) ∨ (H1.1 1826 30) < (H327.1 1826 30)))))
            · refine h_run 0 (pc' := 49) (l' := [(0, .inr (.inr 1826)), (1, .inl (f : Int))]) (st' := [.inl (aty H1 (H1.1 1852 ((H1.1 1826 47) - 1).toNat) (H1.1 1853 ((H1.1 1826 47) - 1).toNat))]) rfl ?_
              refine h_run 3 (pc' := 52) (l' := [(0, .inr (.inr 1826)), (1, .inl (f : Int)), (2, .inl (aty H1 (H1.1 1852 ((H1.1 1826 47) - 1).toNat) (H1.1 1853 ((H1.1 1826 47) - 1).toNat)))]) (st' := [.inl (-1), .inl (aty H1 (H1.1 1852 ((H1.1 1826 47) - 1).toNat) (H1.1 1853 ((H1.1 1826 47) - 1).toNat))]) rfl ?_
              refine h_ine (off := 32) (t := 84) rfl rfl (by omega) (by decide) (fun c341 => ?_) (fun c341 => ?_)
              · have hno : (H1.1 1853) (n - 1) < ma (H1.1 1833) (H1.1 1830) ((H1.1 1852) (n - 1)) := by rw [← hidx]; omega
                refine h_run 2 (pc' := 88) (l' := [(0, .inr (.inr 1826)), (1, .inl (f : Int)), (2, .inl (aty H1 (H1.1 1852 ((H1.1 1826 47) - 1).toNat) (H1.1 1853 ((H1.1 1826 47) - 1).toNat)))]) (st' := [.inl (H1.1 1826 31)]) rfl ?_
                have g342 : -2147483648 ≤ (H1.1 1826 31) ∧ (H1.1 1826 31) ≤ 2147483647 := hrg1.1 1826 13 31 _ .int rfl rfl
                refine h_run 1 (pc' := 89) (l' := [(0, .inr (.inr 1826)), (1, .inl (f : Int)), (2, .inl (aty H1 (H1.1 1852 ((H1.1 1826 47) - 1).toNat) (H1.1 1853 ((H1.1 1826 47) - 1).toNat)))]) (st' := [.inl 1, .inl (H1.1 1826 31)]) rfl ?_
                refine h_ine (off := 100) (t := 189) rfl rfl (by omega) (by decide) (fun c343 => ?_) (fun c343 => ?_)
                · refine h_run 2 (pc' := 193) (l' := [(0, .inr (.inr 1826)), (1, .inl (f : Int)), (2, .inl (aty H1 (H1.1 1852 ((H1.1 1826 47) - 1).toNat) (H1.1 1853 ((H1.1 1826 47) - 1).toNat)))]) (st' := [.inl (H1.1 1826 31)]) rfl ?_
                  refine h_run 1 (pc' := 194) (l' := [(0, .inr (.inr 1826)), (1, .inl (f : Int)), (2, .inl (aty H1 (H1.1 1852 ((H1.1 1826 47) - 1).toNat) (H1.1 1853 ((H1.1 1826 47) - 1).toNat)))]) (st' := [.inl 2, .inl (H1.1 1826 31)]) rfl ?_
                  refine h_ine (off := 12) (t := 206) rfl rfl (by omega) (by decide) (fun c344 => ?_) (fun c344 => ?_)
                  · refine h_run 2 (pc' := 210) (l' := [(0, .inr (.inr 1826)), (1, .inl (f : Int)), (2, .inl (aty H1 (H1.1 1852 ((H1.1 1826 47) - 1).toNat) (H1.1 1853 ((H1.1 1826 47) - 1).toNat)))]) (st' := [.inl (H1.1 1826 31)]) rfl ?_
                    refine h_run 1 (pc' := 212) (l' := [(0, .inr (.inr 1826)), (1, .inl (f : Int)), (2, .inl (aty H1 (H1.1 1852 ((H1.1 1826 47) - 1).toNat) (H1.1 1853 ((H1.1 1826 47) - 1).toNat)))]) (st' := [.inl 40, .inl (H1.1 1826 31)]) rfl ?_
                    refine h_ine (off := 47) (t := 259) rfl rfl (by omega) (by decide) (fun c345 => ?_) (fun c345 => ?_)
                    · refine h_run 2 (pc' := 261) (l' := [(0, .inr (.inr 1826)), (1, .inl (f : Int)), (2, .inl (aty H1 (H1.1 1852 ((H1.1 1826 47) - 1).toNat) (H1.1 1853 ((H1.1 1826 47) - 1).toNat)))]) (st' := [.inl 2, .inr (.inr 1826)]) rfl ?_
                      refine h_cv (i := 278) (j := 159) (b := 1826) (M' := mt_159) (xs := [.inl 2]) (rest := []) rfl rfl rfl rfl rfl rfl (Nat.le_of_ble_eq_true rfl) (Nat.le_of_ble_eq_true rfl) (by omega) (m_bad0 (by omega) (by omega) (by omega : (H1.1 1826 35) = 0)) ?_
                      rintro _ _ ⟨rfl, rfl⟩
                      refine h_run 0 (pc' := 264) (l' := [(0, .inr (.inr 1826)), (1, .inl (f : Int)), (2, .inl (aty H1 (H1.1 1852 ((H1.1 1826 47) - 1).toNat) (H1.1 1853 ((H1.1 1826 47) - 1).toNat)))]) (st' := []) rfl ?_
                      refine h_run 1 (pc' := 22) (l' := [(0, .inr (.inr 1826)), (1, .inl (f : Int)), (2, .inl (aty H1 (H1.1 1852 ((H1.1 1826 47) - 1).toNat) (H1.1 1853 ((H1.1 1826 47) - 1).toNat)))]) (st' := []) rfl ?_
                      have g346 : -2147483648 ≤ (H1.1 1826 30) ∧ (H1.1 1826 30) ≤ 2147483647 := hrg1.1 1826 13 30 _ .int rfl rfl
                      have g347 : -2147483648 ≤ (H1.1 1826 32) ∧ (H1.1 1826 32) ≤ 2147483647 := hrg1.1 1826 13 32 _ .int rfl rfl
                      have g348 : -2147483648 ≤ (H1.1 1826 29) ∧ (H1.1 1826 29) ≤ 2147483647 := hrg1.1 1826 13 29 _ .int rfl rfl
                      have e349 : (H1.1 1826 29) = (H.1 1826 29) := hf.2.2 29 (by decide)
                      have g350 : -2147483648 ≤ (H1.1 1826 41) ∧ (H1.1 1826 41) ≤ 2147483647 := hrg1.1 1826 13 41 _ .int rfl rfl
                      refine h_loc [0, 1] rfl ?_
                      exact ih _ (fr_o (fr_o hf (by decide)) (by decide)) (by omega : (H.1 1826 30) ≤ (H1.1 1826 30) ∧ (H1.1 1826 30) ≤ (H.1 1826 29)) (by omega : 0 ≤ (2 : Int) ∧ (2 : Int) ≤ 5) (by omega : 0 ≤ (H1.1 1826 32) ∧ (H1.1 1826 32) ≤ 1000) (by omega : (H.1 1826 35) ≠ 0 → (2 : Int) ≠ 0) (fun (q : (2 : Int) = 0) => absurd q (by omega)) (mu_lt hw (by omega) (by omega : (2 : Int) ≠ 0 ∨ ((H1.1 1826 30) ≤ (H1.1 1826 30) ∧ (H1.1 1826 30) ≤ (H.1 1826 29) ∧ (((H1.1 1826 31) = 0 ∧ (H1.1 1826 31) ≠ 0) ∨ (H1.1 1826 30) < (H1.1 1826 30)))))
                    · refine h_run 1 (pc' := 216) (l' := [(0, .inr (.inr 1826)), (1, .inl (f : Int)), (2, .inl (aty H1 (H1.1 1852 ((H1.1 1826 47) - 1).toNat) (H1.1 1853 ((H1.1 1826 47) - 1).toNat)))]) (st' := [.inr (.inr 1826)]) rfl ?_
                      have g351 : -2147483648 ≤ (H1.1 1826 41) ∧ (H1.1 1826 41) ≤ 2147483647 := hrg1.1 1826 13 41 _ .int rfl rfl
                      by_cases b352 : (H1.1 1826 41) = 10
                      · refine h_cv (i := 357) (j := 176) (b := 1826) (M' := mt_176) (xs := []) (rest := []) rfl rfl rfl rfl rfl rfl (Nat.le_of_ble_eq_true rfl) (Nat.le_of_ble_eq_true rfl) (by omega) (m_deepB (by omega) (by omega : (H1.1 1826 35) = 0) (by omega : (H1.1 1826 41) = 10)) ?_
                        rintro _ _ ⟨rfl, rfl⟩
                        refine h_run 0 (pc' := 219) (l' := [(0, .inr (.inr 1826)), (1, .inl (f : Int)), (2, .inl (aty H1 (H1.1 1852 ((H1.1 1826 47) - 1).toNat) (H1.1 1853 ((H1.1 1826 47) - 1).toNat)))]) (st' := []) rfl ?_
                        refine h_run 1 (pc' := 220) (l' := [(0, .inr (.inr 1826)), (1, .inl (f : Int)), (2, .inl (aty H1 (H1.1 1852 ((H1.1 1826 47) - 1).toNat) (H1.1 1853 ((H1.1 1826 47) - 1).toNat)))]) (st' := [.inr (.inr 1826)]) rfl ?_
                        refine h_cv (i := 293) (j := 158) (b := 1826) (M' := mt_158) (xs := []) (rest := []) rfl rfl rfl rfl rfl rfl (Nat.le_of_ble_eq_true rfl) (Nat.le_of_ble_eq_true rfl) (by omega) (m_good0 (by omega) (by omega : (5 : Int) ≠ 0)) ?_
                        rintro _ _ ⟨rfl, rfl⟩
                        refine h_run 0 (pc' := 223) (l' := [(0, .inr (.inr 1826)), (1, .inl (f : Int)), (2, .inl (aty H1 (H1.1 1852 ((H1.1 1826 47) - 1).toNat) (H1.1 1853 ((H1.1 1826 47) - 1).toNat)))]) (st' := [.inl 0]) rfl ?_
                        refine h_zeq (off := 7) (t := 230) rfl rfl (by decide) (fun _ => ?_) (fun c => absurd c (by decide))
                        refine h_run 1 (pc' := 231) (l' := [(0, .inr (.inr 1826)), (1, .inl (f : Int)), (2, .inl (aty H1 (H1.1 1852 ((H1.1 1826 47) - 1).toNat) (H1.1 1853 ((H1.1 1826 47) - 1).toNat)))]) (st' := [.inr (.inr 1826)]) rfl ?_
                        refine h_cv (i := 293) (j := 158) (b := 1826) (M' := mt_158) (xs := []) (rest := []) rfl rfl rfl rfl rfl rfl (Nat.le_of_ble_eq_true rfl) (Nat.le_of_ble_eq_true rfl) (by omega) (m_good0 (by omega) (by omega : (5 : Int) ≠ 0)) ?_
                        rintro _ _ ⟨rfl, rfl⟩
                        refine h_run 0 (pc' := 234) (l' := [(0, .inr (.inr 1826)), (1, .inl (f : Int)), (2, .inl (aty H1 (H1.1 1852 ((H1.1 1826 47) - 1).toNat) (H1.1 1853 ((H1.1 1826 47) - 1).toNat)))]) (st' := [.inl 0]) rfl ?_
                        refine h_zeq (off := 16) (t := 250) rfl rfl (by decide) (fun _ => ?_) (fun c => absurd c (by decide))
                        refine h_run 3 (pc' := 253) (l' := [(0, .inr (.inr 1826)), (1, .inl (f : Int)), (2, .inl (aty H1 (H1.1 1852 ((H1.1 1826 47) - 1).toNat) (H1.1 1853 ((H1.1 1826 47) - 1).toNat)))]) (st' := [.inl 1, .inl (aty H1 (H1.1 1852 ((H1.1 1826 47) - 1).toNat) (H1.1 1853 ((H1.1 1826 47) - 1).toNat)), .inr (.inr 1826)]) rfl ?_
                        have g353 : -2147483648 ≤ (H1.1 1826 30) ∧ (H1.1 1826 30) ≤ 2147483647 := hrg1.1 1826 13 30 _ .int rfl rfl
                        have g354 : -2147483648 ≤ (H1.1 1826 29) ∧ (H1.1 1826 29) ≤ 2147483647 := hrg1.1 1826 13 29 _ .int rfl rfl
                        have e355 : (H1.1 1826 29) = (H.1 1826 29) := hf.2.2 29 (by decide)
                        have g356 : -2147483648 ≤ (H1.1 1826 40) ∧ (H1.1 1826 40) ≤ 2147483647 := hrg1.1 1826 13 40 _ .int rfl rfl
                        have g357 : -2147483648 ≤ (H1.1 1826 43) ∧ (H1.1 1826 43) ≤ 2147483647 := hrg1.1 1826 13 43 _ .int rfl rfl
                        have g359 : -2147483648 ≤ (H1.1 1826 32) ∧ (H1.1 1826 32) ≤ 2147483647 := hrg1.1 1826 13 32 _ .int rfl rfl
                        refine h_cv (i := 353) (j := 179) (b := 1826) (M' := mt_179) (xs := [.inl 1, .inl (aty H1 (H1.1 1852 ((H1.1 1826 47) - 1).toNat) (H1.1 1853 ((H1.1 1826 47) - 1).toNat))]) (rest := []) rfl rfl rfl rfl rfl rfl (Nat.le_of_ble_eq_true rfl) (Nat.le_of_ble_eq_true rfl) (by omega) (m_patCon1 (by omega) (by omega : 0 ≤ (H1.1 1826 30) ∧ (H1.1 1826 30) ≤ (H1.1 1826 29) ∧ (H1.1 1826 29) ≤ 1000) (by omega : 0 ≤ (5 : Int) ∧ (5 : Int) ≤ 5) (by omega : 0 ≤ (H1.1 1826 32) ∧ (H1.1 1826 32) ≤ 1000) (PWc_o (PWc_o (PWc_o hP1 (by decide)) (by decide)) (by decide)) (by omega : 1 ≤ (H1.1 1826 47) ∧ (H1.1 1826 47) ≤ 63) (by omega : 0 ≤ (H1.1 1826 40) ∧ (H1.1 1826 40) ≤ 999) (by omega : 0 ≤ (H1.1 1826 43) ∧ (H1.1 1826 43) ≤ 46) (by omega : 0 ≤ (H1.1 1853 ((H1.1 1826 47) - 1).toNat) ∧ (H1.1 1853 ((H1.1 1826 47) - 1).toNat) ≤ 1000) (by omega)) ?_
                        rintro _ H358 ⟨rfl, hx358f, hx358a, hx358c, hx358d, hx358e, hx358n, hx358g, hx358p⟩
                        refine h_rng (fun hrg360 => ?_)
                        have hf361 : fr [30, 31, 32, 33, 35, 36, 39, 40, 41, 43, 47] [1849, 1850, 1851, 1852, 1853] H H358 := fr_t (fr_o (fr_o (fr_o hf (by decide)) (by decide)) (by decide)) hx358f (by decide) (by decide)
                        replace hx358a : (H1.1 1826 30) ≤ (H358.1 1826 30) ∧ (H358.1 1826 30) ≤ (H1.1 1826 29) := hx358a
                        replace hx358g : (H358.1 1826 35) = 0 → (H358.1 1826 31) = 0 ∨ (H1.1 1826 30) < (H358.1 1826 30) := hx358g
                        replace hx358n : 0 ≤ (H358.1 1826 40) ∧ (H358.1 1826 40) ≤ (H1.1 1826 40) + 1 := hx358n
                        replace hx358d : (H358.1 1826 35) ≠ 0 := hx358d (by omega : (5 : Int) ≠ 0)
                        refine h_run 0 (pc' := 256) (l' := [(0, .inr (.inr 1826)), (1, .inl (f : Int)), (2, .inl (aty H1 (H1.1 1852 ((H1.1 1826 47) - 1).toNat) (H1.1 1853 ((H1.1 1826 47) - 1).toNat)))]) (st' := []) rfl ?_
                        refine h_run 2 (pc' := 22) (l' := [(0, .inr (.inr 1826)), (1, .inl (f : Int)), (2, .inl (aty H1 (H1.1 1852 ((H1.1 1826 47) - 1).toNat) (H1.1 1853 ((H1.1 1826 47) - 1).toNat)))]) (st' := []) rfl ?_
                        have g362 : -2147483648 ≤ (H358.1 1826 30) ∧ (H358.1 1826 30) ≤ 2147483647 := hrg360.1 1826 13 30 _ .int rfl rfl
                        have g363 : -2147483648 ≤ (H358.1 1826 35) ∧ (H358.1 1826 35) ≤ 2147483647 := hrg360.1 1826 13 35 _ .int rfl rfl
                        have g364 : -2147483648 ≤ (H358.1 1826 32) ∧ (H358.1 1826 32) ≤ 2147483647 := hrg360.1 1826 13 32 _ .int rfl rfl
                        have g365 : -2147483648 ≤ (H358.1 1826 31) ∧ (H358.1 1826 31) ≤ 2147483647 := hrg360.1 1826 13 31 _ .int rfl rfl
                        have g366 : -2147483648 ≤ (H358.1 1826 29) ∧ (H358.1 1826 29) ≤ 2147483647 := hrg360.1 1826 13 29 _ .int rfl rfl
                        have e367 : (H358.1 1826 29) = (H1.1 1826 29) := hx358f.2.2 29 (by decide)
                        have g368 : -2147483648 ≤ (H358.1 1826 47) ∧ (H358.1 1826 47) ≤ 2147483647 := hrg360.1 1826 13 47 _ .int rfl rfl
                        have g369 : -2147483648 ≤ (H358.1 1826 41) ∧ (H358.1 1826 41) ≤ 2147483647 := hrg360.1 1826 13 41 _ .int rfl rfl
                        have e370 : (H358.1 1826 41) = ((H1.1 1826 41) + 1) := hx358f.2.2 41 (by decide)
                        refine h_loc [0, 1] rfl ?_
                        exact ih _ hf361 (by omega : (H.1 1826 30) ≤ (H358.1 1826 30) ∧ (H358.1 1826 30) ≤ (H.1 1826 29)) (by omega : 0 ≤ (H358.1 1826 35) ∧ (H358.1 1826 35) ≤ 5) (by omega : 0 ≤ (H358.1 1826 32) ∧ (H358.1 1826 32) ≤ 1000) (by omega : (H.1 1826 35) ≠ 0 → (H358.1 1826 35) ≠ 0) (fun (q : (H358.1 1826 35) = 0) => absurd q (by omega)) (mu_lt hw (by omega) (by omega : (H358.1 1826 35) ≠ 0 ∨ ((H1.1 1826 30) ≤ (H358.1 1826 30) ∧ (H358.1 1826 30) ≤ (H.1 1826 29) ∧ (((H358.1 1826 31) = 0 ∧ (H1.1 1826 31) ≠ 0) ∨ (H1.1 1826 30) < (H358.1 1826 30)))))
                      · refine h_cv (i := 357) (j := 176) (b := 1826) (M' := mt_176) (xs := []) (rest := []) rfl rfl rfl rfl rfl rfl (Nat.le_of_ble_eq_true rfl) (Nat.le_of_ble_eq_true rfl) (by omega) (m_deepA (by omega) (by omega : (H1.1 1826 35) = 0) (by omega : 0 ≤ (H1.1 1826 41) ∧ (H1.1 1826 41) ≤ 1000) (by omega : (H1.1 1826 41) ≠ 10)) ?_
                        rintro _ _ ⟨rfl, rfl⟩
                        refine h_run 0 (pc' := 219) (l' := [(0, .inr (.inr 1826)), (1, .inl (f : Int)), (2, .inl (aty H1 (H1.1 1852 ((H1.1 1826 47) - 1).toNat) (H1.1 1853 ((H1.1 1826 47) - 1).toNat)))]) (st' := []) rfl ?_
                        refine h_run 1 (pc' := 220) (l' := [(0, .inr (.inr 1826)), (1, .inl (f : Int)), (2, .inl (aty H1 (H1.1 1852 ((H1.1 1826 47) - 1).toNat) (H1.1 1853 ((H1.1 1826 47) - 1).toNat)))]) (st' := [.inr (.inr 1826)]) rfl ?_
                        refine h_cv (i := 293) (j := 158) (b := 1826) (M' := mt_158) (xs := []) (rest := []) rfl rfl rfl rfl rfl rfl (Nat.le_of_ble_eq_true rfl) (Nat.le_of_ble_eq_true rfl) (by omega) (m_good1 (by omega) (by omega : (H1.1 1826 35) = 0)) ?_
                        rintro _ _ ⟨rfl, rfl⟩
                        refine h_run 0 (pc' := 223) (l' := [(0, .inr (.inr 1826)), (1, .inl (f : Int)), (2, .inl (aty H1 (H1.1 1852 ((H1.1 1826 47) - 1).toNat) (H1.1 1853 ((H1.1 1826 47) - 1).toNat)))]) (st' := [.inl 1]) rfl ?_
                        refine h_zeq (off := 7) (t := 230) rfl rfl (by decide) (fun c => absurd c (by decide)) (fun _ => ?_)
                        refine h_run 1 (pc' := 227) (l' := [(0, .inr (.inr 1826)), (1, .inl (f : Int)), (2, .inl (aty H1 (H1.1 1852 ((H1.1 1826 47) - 1).toNat) (H1.1 1853 ((H1.1 1826 47) - 1).toNat)))]) (st' := [.inr (.inr 1826)]) rfl ?_
                        have g371 : -2147483648 ≤ (H1.1 1826 30) ∧ (H1.1 1826 30) ≤ 2147483647 := hrg1.1 1826 13 30 _ .int rfl rfl
                        have g372 : -2147483648 ≤ (H1.1 1826 29) ∧ (H1.1 1826 29) ≤ 2147483647 := hrg1.1 1826 13 29 _ .int rfl rfl
                        have e373 : (H1.1 1826 29) = (H.1 1826 29) := hf.2.2 29 (by decide)
                        have g374 : -2147483648 ≤ (H1.1 1826 32) ∧ (H1.1 1826 32) ≤ 2147483647 := hrg1.1 1826 13 32 _ .int rfl rfl
                        refine h_cv (i := 297) (j := 165) (b := 1826) (M' := mt_165) (xs := []) (rest := []) rfl rfl rfl rfl rfl rfl (Nat.le_of_ble_eq_true rfl) (Nat.le_of_ble_eq_true rfl) (by omega) (m_next (by omega) (by omega : 0 ≤ (H1.1 1826 30) ∧ (H1.1 1826 30) ≤ (H1.1 1826 29) ∧ (H1.1 1826 29) ≤ 1000) (by omega : 0 ≤ (H1.1 1826 35) ∧ (H1.1 1826 35) ≤ 5) (by omega : 0 ≤ (H1.1 1826 32) ∧ (H1.1 1826 32) ≤ 1000)) ?_
                        rintro _ H375 ⟨rfl, hx375f, hx375a, hx375b, hx375c, -, hx375e, hx375g⟩
                        refine h_rng (fun hrg376 => ?_)
                        have hf377 : fr [30, 31, 32, 33, 35, 36, 39, 40, 41, 43, 47] [1849, 1850, 1851, 1852, 1853] H H375 := fr_t (fr_o hf (by decide)) hx375f (by decide) (by decide)
                        replace hx375a : (H1.1 1826 30) ≤ (H375.1 1826 30) := hx375a
                        replace hx375b : (H375.1 1826 30) ≤ (H1.1 1826 29) := hx375b
                        replace hx375g : (H375.1 1826 35) = 0 → ((H375.1 1826 31) = 0 ∨ (H1.1 1826 30) < (H375.1 1826 30)) := hx375g
                        refine h_run 0 (pc' := 230) (l' := [(0, .inr (.inr 1826)), (1, .inl (f : Int)), (2, .inl (aty H1 (H1.1 1852 ((H1.1 1826 47) - 1).toNat) (H1.1 1853 ((H1.1 1826 47) - 1).toNat)))]) (st' := []) rfl ?_
                        refine h_run 1 (pc' := 231) (l' := [(0, .inr (.inr 1826)), (1, .inl (f : Int)), (2, .inl (aty H1 (H1.1 1852 ((H1.1 1826 47) - 1).toNat) (H1.1 1853 ((H1.1 1826 47) - 1).toNat)))]) (st' := [.inr (.inr 1826)]) rfl ?_
                        have g378 : -2147483648 ≤ (H375.1 1826 35) ∧ (H375.1 1826 35) ≤ 2147483647 := hrg376.1 1826 13 35 _ .int rfl rfl
                        refine h_cv (i := 293) (j := 158) (b := 1826) (M' := mt_158) (xs := []) (rest := []) rfl rfl rfl rfl rfl rfl (Nat.le_of_ble_eq_true rfl) (Nat.le_of_ble_eq_true rfl) (by omega) (m_good (by omega)) ?_
                        rintro _ _ ⟨⟨rfl, b379⟩ | ⟨rfl, b379⟩, rfl⟩
                        · have b379x : (H375.1 1826 35) = 0 := b379
                          replace hx375g := hx375g b379x
                          refine h_run 0 (pc' := 234) (l' := [(0, .inr (.inr 1826)), (1, .inl (f : Int)), (2, .inl (aty H1 (H1.1 1852 ((H1.1 1826 47) - 1).toNat) (H1.1 1853 ((H1.1 1826 47) - 1).toNat)))]) (st' := [.inl 1]) rfl ?_
                          refine h_zeq (off := 16) (t := 250) rfl rfl (by decide) (fun c => absurd c (by decide)) (fun _ => ?_)
                          refine h_run 2 (pc' := 241) (l' := [(0, .inr (.inr 1826)), (1, .inl (f : Int)), (2, .inl (aty H1 (H1.1 1852 ((H1.1 1826 47) - 1).toNat) (H1.1 1853 ((H1.1 1826 47) - 1).toNat)))]) (st' := [.inl (H375.1 1826 31)]) rfl ?_
                          have g380 : -2147483648 ≤ (H375.1 1826 31) ∧ (H375.1 1826 31) ≤ 2147483647 := hrg376.1 1826 13 31 _ .int rfl rfl
                          refine h_run 1 (pc' := 242) (l' := [(0, .inr (.inr 1826)), (1, .inl (f : Int)), (2, .inl (aty H1 (H1.1 1852 ((H1.1 1826 47) - 1).toNat) (H1.1 1853 ((H1.1 1826 47) - 1).toNat)))]) (st' := [.inl 2, .inl (H375.1 1826 31)]) rfl ?_
                          refine h_ieq (off := 8) (t := 250) rfl rfl (by omega) (by decide) (fun c381 => ?_) (fun c381 => ?_)
                          · refine h_run 3 (pc' := 253) (l' := [(0, .inr (.inr 1826)), (1, .inl (f : Int)), (2, .inl (aty H1 (H1.1 1852 ((H1.1 1826 47) - 1).toNat) (H1.1 1853 ((H1.1 1826 47) - 1).toNat)))]) (st' := [.inl 1, .inl (aty H1 (H1.1 1852 ((H1.1 1826 47) - 1).toNat) (H1.1 1853 ((H1.1 1826 47) - 1).toNat)), .inr (.inr 1826)]) rfl ?_
                            have g382 : -2147483648 ≤ (H375.1 1826 30) ∧ (H375.1 1826 30) ≤ 2147483647 := hrg376.1 1826 13 30 _ .int rfl rfl
                            have g383 : -2147483648 ≤ (H375.1 1826 29) ∧ (H375.1 1826 29) ≤ 2147483647 := hrg376.1 1826 13 29 _ .int rfl rfl
                            have e384 : (H375.1 1826 29) = (H1.1 1826 29) := hx375f.2.2 29 (by decide)
                            have g385 : -2147483648 ≤ (H375.1 1826 40) ∧ (H375.1 1826 40) ≤ 2147483647 := hrg376.1 1826 13 40 _ .int rfl rfl
                            have e386 : (H375.1 1826 40) = (H1.1 1826 40) := hx375f.2.2 40 (by decide)
                            have g387 : -2147483648 ≤ (H375.1 1826 43) ∧ (H375.1 1826 43) ≤ 2147483647 := hrg376.1 1826 13 43 _ .int rfl rfl
                            have e388 : (H375.1 1826 43) = (H1.1 1826 43) := hx375f.2.2 43 (by decide)
                            have g389 : -2147483648 ≤ (H375.1 1826 47) ∧ (H375.1 1826 47) ≤ 2147483647 := hrg376.1 1826 13 47 _ .int rfl rfl
                            have e390 : (H375.1 1826 47) = (H1.1 1826 47) := hx375f.2.2 47 (by decide)
                            have g391 : -2147483648 ≤ (H375.1 1826 41) ∧ (H375.1 1826 41) ≤ 2147483647 := hrg376.1 1826 13 41 _ .int rfl rfl
                            have e392 : (H375.1 1826 41) = ((H1.1 1826 41) + 1) := hx375f.2.2 41 (by decide)
                            have g394 : -2147483648 ≤ (H375.1 1826 32) ∧ (H375.1 1826 32) ≤ 2147483647 := hrg376.1 1826 13 32 _ .int rfl rfl
                            refine h_cv (i := 353) (j := 179) (b := 1826) (M' := mt_179) (xs := [.inl 1, .inl (aty H1 (H1.1 1852 ((H1.1 1826 47) - 1).toNat) (H1.1 1853 ((H1.1 1826 47) - 1).toNat))]) (rest := []) rfl rfl rfl rfl rfl rfl (Nat.le_of_ble_eq_true rfl) (Nat.le_of_ble_eq_true rfl) (by omega) (m_patCon1 (by omega) (by omega : 0 ≤ (H375.1 1826 30) ∧ (H375.1 1826 30) ≤ (H375.1 1826 29) ∧ (H375.1 1826 29) ≤ 1000) (by omega : 0 ≤ (H375.1 1826 35) ∧ (H375.1 1826 35) ≤ 5) (by omega : 0 ≤ (H375.1 1826 32) ∧ (H375.1 1826 32) ≤ 1000) (PWc_fr hP1 (H := H1) (K := H375) (ob := [30, 31, 32, 33, 35, 36, 41]) (ar := []) (fr_t (fr_o (fr_rf _ _ _) (by decide)) hx375f (by decide) (by decide)) (by decide) (by decide)) (by omega : 1 ≤ (H375.1 1826 47) ∧ (H375.1 1826 47) ≤ 63) (by omega : 0 ≤ (H375.1 1826 40) ∧ (H375.1 1826 40) ≤ 999) (by omega : 0 ≤ (H375.1 1826 43) ∧ (H375.1 1826 43) ≤ 46) (by show 0 ≤ (H375.1 1853 ((H375.1 1826 47) - 1).toNat) ∧ (H375.1 1853 ((H375.1 1826 47) - 1).toNat) ≤ 1000; rw [show (H375.1 1853) = (H1.1 1853) from hx375f.2.1 1853 (by decide) (by decide), show (H375.1 1826 47) = (H1.1 1826 47) from hx375f.2.2 47 (by decide)]; omega) (by omega)) ?_
                            rintro _ H393 ⟨rfl, hx393f, hx393a, hx393c, -, hx393e, hx393n, hx393g, hx393p⟩
                            refine h_rng (fun hrg395 => ?_)
                            have hf396 : fr [30, 31, 32, 33, 35, 36, 39, 40, 41, 43, 47] [1849, 1850, 1851, 1852, 1853] H H393 := fr_t hf377 hx393f (by decide) (by decide)
                            replace hx393a : (H375.1 1826 30) ≤ (H393.1 1826 30) ∧ (H393.1 1826 30) ≤ (H375.1 1826 29) := hx393a
                            replace hx393g : (H393.1 1826 35) = 0 → (H393.1 1826 31) = 0 ∨ (H375.1 1826 30) < (H393.1 1826 30) := hx393g
                            replace hx393n : 0 ≤ (H393.1 1826 40) ∧ (H393.1 1826 40) ≤ (H375.1 1826 40) + 1 := hx393n
                            refine h_run 0 (pc' := 256) (l' := [(0, .inr (.inr 1826)), (1, .inl (f : Int)), (2, .inl (aty H1 (H1.1 1852 ((H1.1 1826 47) - 1).toNat) (H1.1 1853 ((H1.1 1826 47) - 1).toNat)))]) (st' := []) rfl ?_
                            refine h_run 2 (pc' := 22) (l' := [(0, .inr (.inr 1826)), (1, .inl (f : Int)), (2, .inl (aty H1 (H1.1 1852 ((H1.1 1826 47) - 1).toNat) (H1.1 1853 ((H1.1 1826 47) - 1).toNat)))]) (st' := []) rfl ?_
                            have g397 : -2147483648 ≤ (H393.1 1826 30) ∧ (H393.1 1826 30) ≤ 2147483647 := hrg395.1 1826 13 30 _ .int rfl rfl
                            have g398 : -2147483648 ≤ (H393.1 1826 35) ∧ (H393.1 1826 35) ≤ 2147483647 := hrg395.1 1826 13 35 _ .int rfl rfl
                            have g399 : -2147483648 ≤ (H393.1 1826 32) ∧ (H393.1 1826 32) ≤ 2147483647 := hrg395.1 1826 13 32 _ .int rfl rfl
                            have g400 : -2147483648 ≤ (H393.1 1826 31) ∧ (H393.1 1826 31) ≤ 2147483647 := hrg395.1 1826 13 31 _ .int rfl rfl
                            have g401 : -2147483648 ≤ (H393.1 1826 29) ∧ (H393.1 1826 29) ≤ 2147483647 := hrg395.1 1826 13 29 _ .int rfl rfl
                            have e402 : (H393.1 1826 29) = (H375.1 1826 29) := hx393f.2.2 29 (by decide)
                            have g403 : -2147483648 ≤ (H393.1 1826 47) ∧ (H393.1 1826 47) ≤ 2147483647 := hrg395.1 1826 13 47 _ .int rfl rfl
                            have g404 : -2147483648 ≤ (H393.1 1826 41) ∧ (H393.1 1826 41) ≤ 2147483647 := hrg395.1 1826 13 41 _ .int rfl rfl
                            have e405 : (H393.1 1826 41) = (H375.1 1826 41) := hx393f.2.2 41 (by decide)
                            refine h_loc [0, 1] rfl ?_
                            exact ih _ hf396 (by omega : (H.1 1826 30) ≤ (H393.1 1826 30) ∧ (H393.1 1826 30) ≤ (H.1 1826 29)) (by omega : 0 ≤ (H393.1 1826 35) ∧ (H393.1 1826 35) ≤ 5) (by omega : 0 ≤ (H393.1 1826 32) ∧ (H393.1 1826 32) ≤ 1000) (by omega : (H.1 1826 35) ≠ 0 → (H393.1 1826 35) ≠ 0) (fun q => by obtain ⟨c, k1, k3, ⟨k5, k6, k7⟩, k8, k9, k10⟩ := hx393p q; rw [show (H375.1 1826 3) = (H1.1 1826 3) from hx375f.2.2 3 (by decide)] at k1; have hcc := (pw1c c (by omega)).1; have es : ((1 : Int) + c - 1).toNat = c := (by omega); rw [show (H375.1 1826 40) = (H1.1 1826 40) from hx375f.2.2 40 (by decide)] at k3 k5; rw [show (H375.1 1826 43) = (H1.1 1826 43) from hx375f.2.2 43 (by decide)] at k6 k8; rw [show (H375.1 1826 47) = (H1.1 1826 47) from hx375f.2.2 47 (by decide)] at k7 k9 k10; rw [show (H375.1 1851) = (H1.1 1851) from hx375f.2.1 1851 (by decide) (by decide)] at k8; rw [show (H375.1 1852) = (H1.1 1852) from hx375f.2.1 1852 (by decide) (by decide), hidy] at k9; rw [show (H375.1 1853) = (H1.1 1853) from hx375f.2.1 1853 (by decide) (by decide), hidx, hidy] at k10; exact PT_step (q := ((H1.1 1830) c).toNat) hPT1 (Or.inl ⟨by omega, by omega⟩) (by rw [ma_c (by omega), es]; omega) (by omega) hno ((hx393f.2.1 1833 (by decide) (by decide)).trans (hx375f.2.1 1833 (by decide) (by decide))) ((hx393f.2.1 1830 (by decide) (by decide)).trans (hx375f.2.1 1830 (by decide) (by decide))) ⟨(hx393f.2.2 3 (by decide)).trans (hx375f.2.2 3 (by decide)), (hx393f.2.2 8 (by decide)).trans (hx375f.2.2 8 (by decide))⟩ (by omega) ⟨k5, k6⟩ k8 (Or.inl ((hx393f.2.2 39 (by decide)).trans (hx375f.2.2 39 (by decide)))) (Or.inr ⟨by omega, by omega, by omega, k7, (hx393f.2.2 41 (by decide)).trans (hx375f.2.2 41 (by decide)), k9, k10⟩)) (mu_lt hw (by omega) (by omega : (H393.1 1826 35) ≠ 0 ∨ ((H1.1 1826 30) ≤ (H393.1 1826 30) ∧ (H393.1 1826 30) ≤ (H.1 1826 29) ∧ (((H393.1 1826 31) = 0 ∧ (H1.1 1826 31) ≠ 0) ∨ (H1.1 1826 30) < (H393.1 1826 30)))))
                          · refine h_run 2 (pc' := 247) (l' := [(0, .inr (.inr 1826)), (1, .inl (f : Int)), (2, .inl (aty H1 (H1.1 1852 ((H1.1 1826 47) - 1).toNat) (H1.1 1853 ((H1.1 1826 47) - 1).toNat)))]) (st' := [.inl 2, .inr (.inr 1826)]) rfl ?_
                            refine h_cv (i := 278) (j := 159) (b := 1826) (M' := mt_159) (xs := [.inl 2]) (rest := []) rfl rfl rfl rfl rfl rfl (Nat.le_of_ble_eq_true rfl) (Nat.le_of_ble_eq_true rfl) (by omega) (m_bad0 (by omega) (by omega) (by omega : (H375.1 1826 35) = 0)) ?_
                            rintro _ _ ⟨rfl, rfl⟩
                            refine h_run 0 (pc' := 250) (l' := [(0, .inr (.inr 1826)), (1, .inl (f : Int)), (2, .inl (aty H1 (H1.1 1852 ((H1.1 1826 47) - 1).toNat) (H1.1 1853 ((H1.1 1826 47) - 1).toNat)))]) (st' := []) rfl ?_
                            refine h_run 3 (pc' := 253) (l' := [(0, .inr (.inr 1826)), (1, .inl (f : Int)), (2, .inl (aty H1 (H1.1 1852 ((H1.1 1826 47) - 1).toNat) (H1.1 1853 ((H1.1 1826 47) - 1).toNat)))]) (st' := [.inl 1, .inl (aty H1 (H1.1 1852 ((H1.1 1826 47) - 1).toNat) (H1.1 1853 ((H1.1 1826 47) - 1).toNat)), .inr (.inr 1826)]) rfl ?_
                            have g406 : -2147483648 ≤ (H375.1 1826 30) ∧ (H375.1 1826 30) ≤ 2147483647 := hrg376.1 1826 13 30 _ .int rfl rfl
                            have g407 : -2147483648 ≤ (H375.1 1826 29) ∧ (H375.1 1826 29) ≤ 2147483647 := hrg376.1 1826 13 29 _ .int rfl rfl
                            have e408 : (H375.1 1826 29) = (H1.1 1826 29) := hx375f.2.2 29 (by decide)
                            have g409 : -2147483648 ≤ (H375.1 1826 40) ∧ (H375.1 1826 40) ≤ 2147483647 := hrg376.1 1826 13 40 _ .int rfl rfl
                            have e410 : (H375.1 1826 40) = (H1.1 1826 40) := hx375f.2.2 40 (by decide)
                            have g411 : -2147483648 ≤ (H375.1 1826 43) ∧ (H375.1 1826 43) ≤ 2147483647 := hrg376.1 1826 13 43 _ .int rfl rfl
                            have e412 : (H375.1 1826 43) = (H1.1 1826 43) := hx375f.2.2 43 (by decide)
                            have g413 : -2147483648 ≤ (H375.1 1826 47) ∧ (H375.1 1826 47) ≤ 2147483647 := hrg376.1 1826 13 47 _ .int rfl rfl
                            have e414 : (H375.1 1826 47) = (H1.1 1826 47) := hx375f.2.2 47 (by decide)
                            have g415 : -2147483648 ≤ (H375.1 1826 41) ∧ (H375.1 1826 41) ≤ 2147483647 := hrg376.1 1826 13 41 _ .int rfl rfl
                            have e416 : (H375.1 1826 41) = ((H1.1 1826 41) + 1) := hx375f.2.2 41 (by decide)
                            have g418 : -2147483648 ≤ (H375.1 1826 32) ∧ (H375.1 1826 32) ≤ 2147483647 := hrg376.1 1826 13 32 _ .int rfl rfl
                            refine h_cv (i := 353) (j := 179) (b := 1826) (M' := mt_179) (xs := [.inl 1, .inl (aty H1 (H1.1 1852 ((H1.1 1826 47) - 1).toNat) (H1.1 1853 ((H1.1 1826 47) - 1).toNat))]) (rest := []) rfl rfl rfl rfl rfl rfl (Nat.le_of_ble_eq_true rfl) (Nat.le_of_ble_eq_true rfl) (by omega) (m_patCon1 (by omega) (by omega : 0 ≤ (H375.1 1826 30) ∧ (H375.1 1826 30) ≤ (H375.1 1826 29) ∧ (H375.1 1826 29) ≤ 1000) (by omega : 0 ≤ (2 : Int) ∧ (2 : Int) ≤ 5) (by omega : 0 ≤ (H375.1 1826 32) ∧ (H375.1 1826 32) ≤ 1000) (PWc_o (PWc_o (PWc_fr hP1 (H := H1) (K := H375) (ob := [30, 31, 32, 33, 35, 36, 41]) (ar := []) (fr_t (fr_o (fr_rf _ _ _) (by decide)) hx375f (by decide) (by decide)) (by decide) (by decide)) (by decide)) (by decide)) (by omega : 1 ≤ (H375.1 1826 47) ∧ (H375.1 1826 47) ≤ 63) (by omega : 0 ≤ (H375.1 1826 40) ∧ (H375.1 1826 40) ≤ 999) (by omega : 0 ≤ (H375.1 1826 43) ∧ (H375.1 1826 43) ≤ 46) (by show 0 ≤ (H375.1 1853 ((H375.1 1826 47) - 1).toNat) ∧ (H375.1 1853 ((H375.1 1826 47) - 1).toNat) ≤ 1000; rw [show (H375.1 1853) = (H1.1 1853) from hx375f.2.1 1853 (by decide) (by decide), show (H375.1 1826 47) = (H1.1 1826 47) from hx375f.2.2 47 (by decide)]; omega) (by omega)) ?_
                            rintro _ H417 ⟨rfl, hx417f, hx417a, hx417c, hx417d, hx417e, hx417n, hx417g, hx417p⟩
                            refine h_rng (fun hrg419 => ?_)
                            have hf420 : fr [30, 31, 32, 33, 35, 36, 39, 40, 41, 43, 47] [1849, 1850, 1851, 1852, 1853] H H417 := fr_t (fr_o (fr_o hf377 (by decide)) (by decide)) hx417f (by decide) (by decide)
                            replace hx417a : (H375.1 1826 30) ≤ (H417.1 1826 30) ∧ (H417.1 1826 30) ≤ (H375.1 1826 29) := hx417a
                            replace hx417g : (H417.1 1826 35) = 0 → (H417.1 1826 31) = 0 ∨ (H375.1 1826 30) < (H417.1 1826 30) := hx417g
                            replace hx417n : 0 ≤ (H417.1 1826 40) ∧ (H417.1 1826 40) ≤ (H375.1 1826 40) + 1 := hx417n
                            replace hx417d : (H417.1 1826 35) ≠ 0 := hx417d (by omega : (2 : Int) ≠ 0)
                            refine h_run 0 (pc' := 256) (l' := [(0, .inr (.inr 1826)), (1, .inl (f : Int)), (2, .inl (aty H1 (H1.1 1852 ((H1.1 1826 47) - 1).toNat) (H1.1 1853 ((H1.1 1826 47) - 1).toNat)))]) (st' := []) rfl ?_
                            refine h_run 2 (pc' := 22) (l' := [(0, .inr (.inr 1826)), (1, .inl (f : Int)), (2, .inl (aty H1 (H1.1 1852 ((H1.1 1826 47) - 1).toNat) (H1.1 1853 ((H1.1 1826 47) - 1).toNat)))]) (st' := []) rfl ?_
                            have g421 : -2147483648 ≤ (H417.1 1826 30) ∧ (H417.1 1826 30) ≤ 2147483647 := hrg419.1 1826 13 30 _ .int rfl rfl
                            have g422 : -2147483648 ≤ (H417.1 1826 35) ∧ (H417.1 1826 35) ≤ 2147483647 := hrg419.1 1826 13 35 _ .int rfl rfl
                            have g423 : -2147483648 ≤ (H417.1 1826 32) ∧ (H417.1 1826 32) ≤ 2147483647 := hrg419.1 1826 13 32 _ .int rfl rfl
                            have g424 : -2147483648 ≤ (H417.1 1826 31) ∧ (H417.1 1826 31) ≤ 2147483647 := hrg419.1 1826 13 31 _ .int rfl rfl
                            have g425 : -2147483648 ≤ (H417.1 1826 29) ∧ (H417.1 1826 29) ≤ 2147483647 := hrg419.1 1826 13 29 _ .int rfl rfl
                            have e426 : (H417.1 1826 29) = (H375.1 1826 29) := hx417f.2.2 29 (by decide)
                            have g427 : -2147483648 ≤ (H417.1 1826 47) ∧ (H417.1 1826 47) ≤ 2147483647 := hrg419.1 1826 13 47 _ .int rfl rfl
                            have g428 : -2147483648 ≤ (H417.1 1826 41) ∧ (H417.1 1826 41) ≤ 2147483647 := hrg419.1 1826 13 41 _ .int rfl rfl
                            have e429 : (H417.1 1826 41) = (H375.1 1826 41) := hx417f.2.2 41 (by decide)
                            refine h_loc [0, 1] rfl ?_
                            exact ih _ hf420 (by omega : (H.1 1826 30) ≤ (H417.1 1826 30) ∧ (H417.1 1826 30) ≤ (H.1 1826 29)) (by omega : 0 ≤ (H417.1 1826 35) ∧ (H417.1 1826 35) ≤ 5) (by omega : 0 ≤ (H417.1 1826 32) ∧ (H417.1 1826 32) ≤ 1000) (by omega : (H.1 1826 35) ≠ 0 → (H417.1 1826 35) ≠ 0) (fun (q : (H417.1 1826 35) = 0) => absurd q (by omega)) (mu_lt hw (by omega) (by omega : (H417.1 1826 35) ≠ 0 ∨ ((H1.1 1826 30) ≤ (H417.1 1826 30) ∧ (H417.1 1826 30) ≤ (H.1 1826 29) ∧ (((H417.1 1826 31) = 0 ∧ (H1.1 1826 31) ≠ 0) ∨ (H1.1 1826 30) < (H417.1 1826 30)))))
                        · have b379x : (H375.1 1826 35) ≠ 0 := b379
                          clear hx375g
                          refine h_run 0 (pc' := 234) (l' := [(0, .inr (.inr 1826)), (1, .inl (f : Int)), (2, .inl (aty H1 (H1.1 1852 ((H1.1 1826 47) - 1).toNat) (H1.1 1853 ((H1.1 1826 47) - 1).toNat)))]) (st' := [.inl 0]) rfl ?_
                          refine h_zeq (off := 16) (t := 250) rfl rfl (by decide) (fun _ => ?_) (fun c => absurd c (by decide))
                          refine h_run 3 (pc' := 253) (l' := [(0, .inr (.inr 1826)), (1, .inl (f : Int)), (2, .inl (aty H1 (H1.1 1852 ((H1.1 1826 47) - 1).toNat) (H1.1 1853 ((H1.1 1826 47) - 1).toNat)))]) (st' := [.inl 1, .inl (aty H1 (H1.1 1852 ((H1.1 1826 47) - 1).toNat) (H1.1 1853 ((H1.1 1826 47) - 1).toNat)), .inr (.inr 1826)]) rfl ?_
                          have g430 : -2147483648 ≤ (H375.1 1826 30) ∧ (H375.1 1826 30) ≤ 2147483647 := hrg376.1 1826 13 30 _ .int rfl rfl
                          have g431 : -2147483648 ≤ (H375.1 1826 29) ∧ (H375.1 1826 29) ≤ 2147483647 := hrg376.1 1826 13 29 _ .int rfl rfl
                          have e432 : (H375.1 1826 29) = (H1.1 1826 29) := hx375f.2.2 29 (by decide)
                          have g433 : -2147483648 ≤ (H375.1 1826 40) ∧ (H375.1 1826 40) ≤ 2147483647 := hrg376.1 1826 13 40 _ .int rfl rfl
                          have e434 : (H375.1 1826 40) = (H1.1 1826 40) := hx375f.2.2 40 (by decide)
                          have g435 : -2147483648 ≤ (H375.1 1826 43) ∧ (H375.1 1826 43) ≤ 2147483647 := hrg376.1 1826 13 43 _ .int rfl rfl
                          have e436 : (H375.1 1826 43) = (H1.1 1826 43) := hx375f.2.2 43 (by decide)
                          have g437 : -2147483648 ≤ (H375.1 1826 47) ∧ (H375.1 1826 47) ≤ 2147483647 := hrg376.1 1826 13 47 _ .int rfl rfl
                          have e438 : (H375.1 1826 47) = (H1.1 1826 47) := hx375f.2.2 47 (by decide)
                          have g439 : -2147483648 ≤ (H375.1 1826 31) ∧ (H375.1 1826 31) ≤ 2147483647 := hrg376.1 1826 13 31 _ .int rfl rfl
                          have g440 : -2147483648 ≤ (H375.1 1826 41) ∧ (H375.1 1826 41) ≤ 2147483647 := hrg376.1 1826 13 41 _ .int rfl rfl
                          have e441 : (H375.1 1826 41) = ((H1.1 1826 41) + 1) := hx375f.2.2 41 (by decide)
                          have g443 : -2147483648 ≤ (H375.1 1826 32) ∧ (H375.1 1826 32) ≤ 2147483647 := hrg376.1 1826 13 32 _ .int rfl rfl
                          refine h_cv (i := 353) (j := 179) (b := 1826) (M' := mt_179) (xs := [.inl 1, .inl (aty H1 (H1.1 1852 ((H1.1 1826 47) - 1).toNat) (H1.1 1853 ((H1.1 1826 47) - 1).toNat))]) (rest := []) rfl rfl rfl rfl rfl rfl (Nat.le_of_ble_eq_true rfl) (Nat.le_of_ble_eq_true rfl) (by omega) (m_patCon1 (by omega) (by omega : 0 ≤ (H375.1 1826 30) ∧ (H375.1 1826 30) ≤ (H375.1 1826 29) ∧ (H375.1 1826 29) ≤ 1000) (by omega : 0 ≤ (H375.1 1826 35) ∧ (H375.1 1826 35) ≤ 5) (by omega : 0 ≤ (H375.1 1826 32) ∧ (H375.1 1826 32) ≤ 1000) (PWc_fr hP1 (H := H1) (K := H375) (ob := [30, 31, 32, 33, 35, 36, 41]) (ar := []) (fr_t (fr_o (fr_rf _ _ _) (by decide)) hx375f (by decide) (by decide)) (by decide) (by decide)) (by omega : 1 ≤ (H375.1 1826 47) ∧ (H375.1 1826 47) ≤ 63) (by omega : 0 ≤ (H375.1 1826 40) ∧ (H375.1 1826 40) ≤ 999) (by omega : 0 ≤ (H375.1 1826 43) ∧ (H375.1 1826 43) ≤ 46) (by show 0 ≤ (H375.1 1853 ((H375.1 1826 47) - 1).toNat) ∧ (H375.1 1853 ((H375.1 1826 47) - 1).toNat) ≤ 1000; rw [show (H375.1 1853) = (H1.1 1853) from hx375f.2.1 1853 (by decide) (by decide), show (H375.1 1826 47) = (H1.1 1826 47) from hx375f.2.2 47 (by decide)]; omega) (by omega)) ?_
                          rintro _ H442 ⟨rfl, hx442f, hx442a, hx442c, hx442d, hx442e, hx442n, hx442g, hx442p⟩
                          refine h_rng (fun hrg444 => ?_)
                          have hf445 : fr [30, 31, 32, 33, 35, 36, 39, 40, 41, 43, 47] [1849, 1850, 1851, 1852, 1853] H H442 := fr_t hf377 hx442f (by decide) (by decide)
                          replace hx442a : (H375.1 1826 30) ≤ (H442.1 1826 30) ∧ (H442.1 1826 30) ≤ (H375.1 1826 29) := hx442a
                          replace hx442g : (H442.1 1826 35) = 0 → (H442.1 1826 31) = 0 ∨ (H375.1 1826 30) < (H442.1 1826 30) := hx442g
                          replace hx442n : 0 ≤ (H442.1 1826 40) ∧ (H442.1 1826 40) ≤ (H375.1 1826 40) + 1 := hx442n
                          replace hx442d : (H442.1 1826 35) ≠ 0 := hx442d (by omega : (H375.1 1826 35) ≠ 0)
                          refine h_run 0 (pc' := 256) (l' := [(0, .inr (.inr 1826)), (1, .inl (f : Int)), (2, .inl (aty H1 (H1.1 1852 ((H1.1 1826 47) - 1).toNat) (H1.1 1853 ((H1.1 1826 47) - 1).toNat)))]) (st' := []) rfl ?_
                          refine h_run 2 (pc' := 22) (l' := [(0, .inr (.inr 1826)), (1, .inl (f : Int)), (2, .inl (aty H1 (H1.1 1852 ((H1.1 1826 47) - 1).toNat) (H1.1 1853 ((H1.1 1826 47) - 1).toNat)))]) (st' := []) rfl ?_
                          have g446 : -2147483648 ≤ (H442.1 1826 30) ∧ (H442.1 1826 30) ≤ 2147483647 := hrg444.1 1826 13 30 _ .int rfl rfl
                          have g447 : -2147483648 ≤ (H442.1 1826 35) ∧ (H442.1 1826 35) ≤ 2147483647 := hrg444.1 1826 13 35 _ .int rfl rfl
                          have g448 : -2147483648 ≤ (H442.1 1826 32) ∧ (H442.1 1826 32) ≤ 2147483647 := hrg444.1 1826 13 32 _ .int rfl rfl
                          have g449 : -2147483648 ≤ (H442.1 1826 31) ∧ (H442.1 1826 31) ≤ 2147483647 := hrg444.1 1826 13 31 _ .int rfl rfl
                          have g450 : -2147483648 ≤ (H442.1 1826 29) ∧ (H442.1 1826 29) ≤ 2147483647 := hrg444.1 1826 13 29 _ .int rfl rfl
                          have e451 : (H442.1 1826 29) = (H375.1 1826 29) := hx442f.2.2 29 (by decide)
                          have g452 : -2147483648 ≤ (H442.1 1826 47) ∧ (H442.1 1826 47) ≤ 2147483647 := hrg444.1 1826 13 47 _ .int rfl rfl
                          have g453 : -2147483648 ≤ (H442.1 1826 41) ∧ (H442.1 1826 41) ≤ 2147483647 := hrg444.1 1826 13 41 _ .int rfl rfl
                          have e454 : (H442.1 1826 41) = (H375.1 1826 41) := hx442f.2.2 41 (by decide)
                          refine h_loc [0, 1] rfl ?_
                          exact ih _ hf445 (by omega : (H.1 1826 30) ≤ (H442.1 1826 30) ∧ (H442.1 1826 30) ≤ (H.1 1826 29)) (by omega : 0 ≤ (H442.1 1826 35) ∧ (H442.1 1826 35) ≤ 5) (by omega : 0 ≤ (H442.1 1826 32) ∧ (H442.1 1826 32) ≤ 1000) (by omega : (H.1 1826 35) ≠ 0 → (H442.1 1826 35) ≠ 0) (fun (q : (H442.1 1826 35) = 0) => absurd q (by omega)) (mu_lt hw (by omega) (by omega : (H442.1 1826 35) ≠ 0 ∨ ((H1.1 1826 30) ≤ (H442.1 1826 30) ∧ (H442.1 1826 30) ≤ (H.1 1826 29) ∧ (((H442.1 1826 31) = 0 ∧ (H1.1 1826 31) ≠ 0) ∨ (H1.1 1826 30) < (H442.1 1826 30)))))
                  · refine h_run 3 (pc' := 200) (l' := [(0, .inr (.inr 1826)), (1, .inl (f : Int)), (2, .inl (aty H1 (H1.1 1852 ((H1.1 1826 47) - 1).toNat) (H1.1 1853 ((H1.1 1826 47) - 1).toNat)))]) (st' := [.inl 0, .inl (aty H1 (H1.1 1852 ((H1.1 1826 47) - 1).toNat) (H1.1 1853 ((H1.1 1826 47) - 1).toNat)), .inr (.inr 1826)]) rfl ?_
                    have g455 : -2147483648 ≤ (H1.1 1826 30) ∧ (H1.1 1826 30) ≤ 2147483647 := hrg1.1 1826 13 30 _ .int rfl rfl
                    have g456 : -2147483648 ≤ (H1.1 1826 29) ∧ (H1.1 1826 29) ≤ 2147483647 := hrg1.1 1826 13 29 _ .int rfl rfl
                    have e457 : (H1.1 1826 29) = (H.1 1826 29) := hf.2.2 29 (by decide)
                    have g458 : -2147483648 ≤ (H1.1 1826 40) ∧ (H1.1 1826 40) ≤ 2147483647 := hrg1.1 1826 13 40 _ .int rfl rfl
                    have g459 : -2147483648 ≤ (H1.1 1826 43) ∧ (H1.1 1826 43) ≤ 2147483647 := hrg1.1 1826 13 43 _ .int rfl rfl
                    have g460 : -2147483648 ≤ (H1.1 1826 41) ∧ (H1.1 1826 41) ≤ 2147483647 := hrg1.1 1826 13 41 _ .int rfl rfl
                    have g462 : -2147483648 ≤ (H1.1 1826 32) ∧ (H1.1 1826 32) ≤ 2147483647 := hrg1.1 1826 13 32 _ .int rfl rfl
                    refine h_cv (i := 353) (j := 179) (b := 1826) (M' := mt_179) (xs := [.inl 0, .inl (aty H1 (H1.1 1852 ((H1.1 1826 47) - 1).toNat) (H1.1 1853 ((H1.1 1826 47) - 1).toNat))]) (rest := []) rfl rfl rfl rfl rfl rfl (Nat.le_of_ble_eq_true rfl) (Nat.le_of_ble_eq_true rfl) (by omega) (m_patCon0 (by omega) (by omega : 0 ≤ (H1.1 1826 30) ∧ (H1.1 1826 30) ≤ (H1.1 1826 29) ∧ (H1.1 1826 29) ≤ 1000) (by omega : 0 ≤ (H1.1 1826 35) ∧ (H1.1 1826 35) ≤ 5) (by omega : 0 ≤ (H1.1 1826 32) ∧ (H1.1 1826 32) ≤ 1000) hP1 (by omega : 1 ≤ (H1.1 1826 47) ∧ (H1.1 1826 47) ≤ 63) (by omega : 0 ≤ (H1.1 1826 40) ∧ (H1.1 1826 40) ≤ 999) (by omega : 0 ≤ (H1.1 1826 43) ∧ (H1.1 1826 43) ≤ 46) (by omega : 0 ≤ (H1.1 1853 ((H1.1 1826 47) - 1).toNat) ∧ (H1.1 1853 ((H1.1 1826 47) - 1).toNat) ≤ 1000) (by omega)) ?_
                    rintro _ H461 ⟨rfl, hx461f, hx461a, hx461c, -, hx461e, hx461n, hx461g, hx461p⟩
                    refine h_rng (fun hrg463 => ?_)
                    have hf464 : fr [30, 31, 32, 33, 35, 36, 39, 40, 41, 43, 47] [1849, 1850, 1851, 1852, 1853] H H461 := fr_t hf hx461f (by decide) (by decide)
                    replace hx461a : (H1.1 1826 30) ≤ (H461.1 1826 30) ∧ (H461.1 1826 30) ≤ (H1.1 1826 29) := hx461a
                    replace hx461g : (H461.1 1826 35) = 0 → (H461.1 1826 31) = 0 ∨ (H1.1 1826 30) < (H461.1 1826 30) := hx461g
                    replace hx461n : 0 ≤ (H461.1 1826 40) ∧ (H461.1 1826 40) ≤ (H1.1 1826 40) + 1 := hx461n
                    refine h_run 0 (pc' := 203) (l' := [(0, .inr (.inr 1826)), (1, .inl (f : Int)), (2, .inl (aty H1 (H1.1 1852 ((H1.1 1826 47) - 1).toNat) (H1.1 1853 ((H1.1 1826 47) - 1).toNat)))]) (st' := []) rfl ?_
                    refine h_run 2 (pc' := 22) (l' := [(0, .inr (.inr 1826)), (1, .inl (f : Int)), (2, .inl (aty H1 (H1.1 1852 ((H1.1 1826 47) - 1).toNat) (H1.1 1853 ((H1.1 1826 47) - 1).toNat)))]) (st' := []) rfl ?_
                    have g465 : -2147483648 ≤ (H461.1 1826 30) ∧ (H461.1 1826 30) ≤ 2147483647 := hrg463.1 1826 13 30 _ .int rfl rfl
                    have g466 : -2147483648 ≤ (H461.1 1826 35) ∧ (H461.1 1826 35) ≤ 2147483647 := hrg463.1 1826 13 35 _ .int rfl rfl
                    have g467 : -2147483648 ≤ (H461.1 1826 32) ∧ (H461.1 1826 32) ≤ 2147483647 := hrg463.1 1826 13 32 _ .int rfl rfl
                    have g468 : -2147483648 ≤ (H461.1 1826 31) ∧ (H461.1 1826 31) ≤ 2147483647 := hrg463.1 1826 13 31 _ .int rfl rfl
                    have g469 : -2147483648 ≤ (H461.1 1826 29) ∧ (H461.1 1826 29) ≤ 2147483647 := hrg463.1 1826 13 29 _ .int rfl rfl
                    have e470 : (H461.1 1826 29) = (H1.1 1826 29) := hx461f.2.2 29 (by decide)
                    have g471 : -2147483648 ≤ (H461.1 1826 47) ∧ (H461.1 1826 47) ≤ 2147483647 := hrg463.1 1826 13 47 _ .int rfl rfl
                    have g472 : -2147483648 ≤ (H461.1 1826 41) ∧ (H461.1 1826 41) ≤ 2147483647 := hrg463.1 1826 13 41 _ .int rfl rfl
                    have e473 : (H461.1 1826 41) = (H1.1 1826 41) := hx461f.2.2 41 (by decide)
                    refine h_loc [0, 1] rfl ?_
                    exact ih _ hf464 (by omega : (H.1 1826 30) ≤ (H461.1 1826 30) ∧ (H461.1 1826 30) ≤ (H.1 1826 29)) (by omega : 0 ≤ (H461.1 1826 35) ∧ (H461.1 1826 35) ≤ 5) (by omega : 0 ≤ (H461.1 1826 32) ∧ (H461.1 1826 32) ≤ 1000) (by omega : (H.1 1826 35) ≠ 0 → (H461.1 1826 35) ≠ 0) (fun q => by obtain ⟨c, k1, k2, k3, ⟨k5, k6, k7⟩, k8, k9, k10⟩ := hx461p q; have hcc := (pw1c c (by omega)).1; have es : ((1 : Int) + c - 1).toNat = c := (by omega); rw [hidx] at k10; exact PT_step (q := 0) hPT1 (Or.inl ⟨by omega, by omega⟩) (by rw [ma_c (by omega), es]; omega) (by omega) hno (hx461f.2.1 1833 (by decide) (by decide)) (hx461f.2.1 1830 (by decide) (by decide)) ⟨hx461f.2.2 3 (by decide), hx461f.2.2 8 (by decide)⟩ (by omega) ⟨k5, k6⟩ k8 (Or.inl (hx461f.2.2 39 (by decide))) (Or.inl ⟨rfl, k7, hx461f.2.2 41 (by decide), k9, k10⟩)) (mu_lt hw (by omega) (by omega : (H461.1 1826 35) ≠ 0 ∨ ((H1.1 1826 30) ≤ (H461.1 1826 30) ∧ (H461.1 1826 30) ≤ (H.1 1826 29) ∧ (((H461.1 1826 31) = 0 ∧ (H1.1 1826 31) ≠ 0) ∨ (H1.1 1826 30) < (H461.1 1826 30)))))
                · refine h_run 4 (pc' := 100) (l' := [(0, .inr (.inr 1826)), (1, .inl (f : Int)), (2, .inl (aty H1 (H1.1 1852 ((H1.1 1826 47) - 1).toNat) (H1.1 1853 ((H1.1 1826 47) - 1).toNat)))]) (st' := [.inl (H1.1 1826 8), .inr (.inr 1832)]) rfl ?_
                  have g474 : -2147483648 ≤ (H1.1 1826 8) ∧ (H1.1 1826 8) ≤ 2147483647 := hrg1.1 1826 13 8 _ .int rfl rfl
                  have e475 : (H1.1 1826 8) = (H.1 1826 8) := hf.2.2 8 (by decide)
                  refine h_run 2 (pc' := 104) (l' := [(0, .inr (.inr 1826)), (1, .inl (f : Int)), (2, .inl (aty H1 (H1.1 1852 ((H1.1 1826 47) - 1).toNat) (H1.1 1853 ((H1.1 1826 47) - 1).toNat)))]) (st' := [.inr (.inl (H1.1 1826 33)), .inl (H1.1 1826 8), .inr (.inr 1832)]) rfl ?_
                  have g476 : -9223372036854775808 ≤ (H1.1 1826 33) ∧ (H1.1 1826 33) ≤ 9223372036854775807 := hrg1.1 1826 13 33 _ .long rfl rfl
                  refine h_cs (i := 309) (j := 167) (M' := mt_167) (xs := [.inr (.inl (H1.1 1826 33)), .inl (H1.1 1826 8), .inr (.inr 1832)]) (rest := []) rfl rfl rfl rfl rfl (Nat.le_of_ble_eq_true rfl) (Nat.le_of_ble_eq_true rfl) (by omega) (m_find (by omega) (m := 16) rfl (by omega : 0 ≤ (H1.1 1826 8) ∧ (H1.1 1826 8) ≤ ((16 : Nat) : Int) ∧ 16 ≤ 100) (by omega)) ?_
                  rintro _ _ ⟨⟨k477, rfl, f478, f478x⟩ | ⟨rfl, f478⟩, rfl⟩
                  · refine h_run 0 (pc' := 107) (l' := [(0, .inr (.inr 1826)), (1, .inl (f : Int)), (2, .inl (aty H1 (H1.1 1852 ((H1.1 1826 47) - 1).toNat) (H1.1 1853 ((H1.1 1826 47) - 1).toNat)))]) (st' := [.inl (k477 : Int)]) rfl ?_
                    refine h_run 1 (pc' := 108) (l' := [(0, .inr (.inr 1826)), (1, .inl (f : Int)), (2, .inl (aty H1 (H1.1 1852 ((H1.1 1826 47) - 1).toNat) (H1.1 1853 ((H1.1 1826 47) - 1).toNat)))]) (st' := [.inl (-1), .inl (k477 : Int)]) rfl ?_
                    refine h_ieq (off := 11) (t := 119) rfl rfl (by omega) (by decide) (fun c479 => ?_) (fun c479 => ?_)
                    · refine h_run 4 (pc' := 127) (l' := [(0, .inr (.inr 1826)), (1, .inl (f : Int)), (2, .inl (aty H1 (H1.1 1852 ((H1.1 1826 47) - 1).toNat) (H1.1 1853 ((H1.1 1826 47) - 1).toNat)))]) (st' := [.inl (H1.1 1826 39), .inr (.inr 1849)]) rfl ?_
                      have g480 : -2147483648 ≤ (H1.1 1826 39) ∧ (H1.1 1826 39) ≤ 2147483647 := hrg1.1 1826 13 39 _ .int rfl rfl
                      refine h_run 2 (pc' := 131) (l' := [(0, .inr (.inr 1826)), (1, .inl (f : Int)), (2, .inl (aty H1 (H1.1 1852 ((H1.1 1826 47) - 1).toNat) (H1.1 1853 ((H1.1 1826 47) - 1).toNat)))]) (st' := [.inr (.inl (H1.1 1826 33)), .inl (H1.1 1826 39), .inr (.inr 1849)]) rfl ?_
                      refine h_cs (i := 309) (j := 167) (M' := mt_167) (xs := [.inr (.inl (H1.1 1826 33)), .inl (H1.1 1826 39), .inr (.inr 1849)]) (rest := []) rfl rfl rfl rfl rfl (Nat.le_of_ble_eq_true rfl) (Nat.le_of_ble_eq_true rfl) (by omega) (m_find (by omega) (m := 48) rfl (by omega : 0 ≤ (H1.1 1826 39) ∧ (H1.1 1826 39) ≤ ((48 : Nat) : Int) ∧ 48 ≤ 100) (by omega)) ?_
                      rintro _ _ ⟨⟨k481, rfl, f482, f482x⟩ | ⟨rfl, f482⟩, rfl⟩
                      · refine h_run 0 (pc' := 134) (l' := [(0, .inr (.inr 1826)), (1, .inl (f : Int)), (2, .inl (aty H1 (H1.1 1852 ((H1.1 1826 47) - 1).toNat) (H1.1 1853 ((H1.1 1826 47) - 1).toNat)))]) (st' := [.inl (k481 : Int)]) rfl ?_
                        refine h_run 1 (pc' := 135) (l' := [(0, .inr (.inr 1826)), (1, .inl (f : Int)), (2, .inl (aty H1 (H1.1 1852 ((H1.1 1826 47) - 1).toNat) (H1.1 1853 ((H1.1 1826 47) - 1).toNat)))]) (st' := [.inl (-1), .inl (k481 : Int)]) rfl ?_
                        refine h_ieq (off := 8) (t := 143) rfl rfl (by omega) (by decide) (fun c483 => ?_) (fun c483 => ?_)
                        · refine h_run 1 (pc' := 144) (l' := [(0, .inr (.inr 1826)), (1, .inl (f : Int)), (2, .inl (aty H1 (H1.1 1852 ((H1.1 1826 47) - 1).toNat) (H1.1 1853 ((H1.1 1826 47) - 1).toNat)))]) (st' := [.inr (.inr 1826)]) rfl ?_
                          have g484 : -2147483648 ≤ (H1.1 1826 40) ∧ (H1.1 1826 40) ≤ 2147483647 := hrg1.1 1826 13 40 _ .int rfl rfl
                          by_cases b485 : (H1.1 1826 40) = 40
                          · refine h_cv (i := 344) (j := 168) (b := 1826) (M' := mt_168) (xs := []) (rest := []) rfl rfl rfl rfl rfl rfl (Nat.le_of_ble_eq_true rfl) (Nat.le_of_ble_eq_true rfl) (by omega) (m_countB (by omega) (by omega : (H1.1 1826 35) = 0) (by omega : (H1.1 1826 40) = 40)) ?_
                            rintro _ _ ⟨rfl, rfl⟩
                            refine h_run 0 (pc' := 147) (l' := [(0, .inr (.inr 1826)), (1, .inl (f : Int)), (2, .inl (aty H1 (H1.1 1852 ((H1.1 1826 47) - 1).toNat) (H1.1 1853 ((H1.1 1826 47) - 1).toNat)))]) (st' := []) rfl ?_
                            refine h_run 1 (pc' := 148) (l' := [(0, .inr (.inr 1826)), (1, .inl (f : Int)), (2, .inl (aty H1 (H1.1 1852 ((H1.1 1826 47) - 1).toNat) (H1.1 1853 ((H1.1 1826 47) - 1).toNat)))]) (st' := [.inr (.inr 1826)]) rfl ?_
                            refine h_cv (i := 293) (j := 158) (b := 1826) (M' := mt_158) (xs := []) (rest := []) rfl rfl rfl rfl rfl rfl (Nat.le_of_ble_eq_true rfl) (Nat.le_of_ble_eq_true rfl) (by omega) (m_good0 (by omega) (by omega : (5 : Int) ≠ 0)) ?_
                            rintro _ _ ⟨rfl, rfl⟩
                            refine h_run 0 (pc' := 151) (l' := [(0, .inr (.inr 1826)), (1, .inl (f : Int)), (2, .inl (aty H1 (H1.1 1852 ((H1.1 1826 47) - 1).toNat) (H1.1 1853 ((H1.1 1826 47) - 1).toNat)))]) (st' := [.inl 0]) rfl ?_
                            refine h_zeq (off := 113) (t := 264) rfl rfl (by decide) (fun _ => ?_) (fun c => absurd c (by decide))
                            refine h_run 1 (pc' := 22) (l' := [(0, .inr (.inr 1826)), (1, .inl (f : Int)), (2, .inl (aty H1 (H1.1 1852 ((H1.1 1826 47) - 1).toNat) (H1.1 1853 ((H1.1 1826 47) - 1).toNat)))]) (st' := []) rfl ?_
                            have g486 : -2147483648 ≤ (H1.1 1826 30) ∧ (H1.1 1826 30) ≤ 2147483647 := hrg1.1 1826 13 30 _ .int rfl rfl
                            have g487 : -2147483648 ≤ (H1.1 1826 32) ∧ (H1.1 1826 32) ≤ 2147483647 := hrg1.1 1826 13 32 _ .int rfl rfl
                            have g488 : -2147483648 ≤ (H1.1 1826 29) ∧ (H1.1 1826 29) ≤ 2147483647 := hrg1.1 1826 13 29 _ .int rfl rfl
                            have e489 : (H1.1 1826 29) = (H.1 1826 29) := hf.2.2 29 (by decide)
                            have g490 : -2147483648 ≤ (H1.1 1826 41) ∧ (H1.1 1826 41) ≤ 2147483647 := hrg1.1 1826 13 41 _ .int rfl rfl
                            refine h_loc [0, 1] rfl ?_
                            exact ih _ (fr_o (fr_o (fr_o hf (by decide)) (by decide)) (by decide)) (by omega : (H.1 1826 30) ≤ (H1.1 1826 30) ∧ (H1.1 1826 30) ≤ (H.1 1826 29)) (by omega : 0 ≤ (5 : Int) ∧ (5 : Int) ≤ 5) (by omega : 0 ≤ (H1.1 1826 32) ∧ (H1.1 1826 32) ≤ 1000) (by omega : (H.1 1826 35) ≠ 0 → (5 : Int) ≠ 0) (fun (q : (5 : Int) = 0) => absurd q (by omega)) (mu_lt hw (by omega) (by omega : (5 : Int) ≠ 0 ∨ ((H1.1 1826 30) ≤ (H1.1 1826 30) ∧ (H1.1 1826 30) ≤ (H.1 1826 29) ∧ (((H1.1 1826 31) = 0 ∧ (H1.1 1826 31) ≠ 0) ∨ (H1.1 1826 30) < (H1.1 1826 30)))))
                          · refine h_cv (i := 344) (j := 168) (b := 1826) (M' := mt_168) (xs := []) (rest := []) rfl rfl rfl rfl rfl rfl (Nat.le_of_ble_eq_true rfl) (Nat.le_of_ble_eq_true rfl) (by omega) (m_countA (by omega) (by omega : (H1.1 1826 35) = 0) (by omega : 0 ≤ (H1.1 1826 40) ∧ (H1.1 1826 40) ≤ 1000) (by omega : (H1.1 1826 40) ≠ 40)) ?_
                            rintro _ _ ⟨rfl, rfl⟩
                            refine h_run 0 (pc' := 147) (l' := [(0, .inr (.inr 1826)), (1, .inl (f : Int)), (2, .inl (aty H1 (H1.1 1852 ((H1.1 1826 47) - 1).toNat) (H1.1 1853 ((H1.1 1826 47) - 1).toNat)))]) (st' := []) rfl ?_
                            refine h_run 1 (pc' := 148) (l' := [(0, .inr (.inr 1826)), (1, .inl (f : Int)), (2, .inl (aty H1 (H1.1 1852 ((H1.1 1826 47) - 1).toNat) (H1.1 1853 ((H1.1 1826 47) - 1).toNat)))]) (st' := [.inr (.inr 1826)]) rfl ?_
                            refine h_cv (i := 293) (j := 158) (b := 1826) (M' := mt_158) (xs := []) (rest := []) rfl rfl rfl rfl rfl rfl (Nat.le_of_ble_eq_true rfl) (Nat.le_of_ble_eq_true rfl) (by omega) (m_good1 (by omega) (by omega : (H1.1 1826 35) = 0)) ?_
                            rintro _ _ ⟨rfl, rfl⟩
                            refine h_run 0 (pc' := 151) (l' := [(0, .inr (.inr 1826)), (1, .inl (f : Int)), (2, .inl (aty H1 (H1.1 1852 ((H1.1 1826 47) - 1).toNat) (H1.1 1853 ((H1.1 1826 47) - 1).toNat)))]) (st' := [.inl 1]) rfl ?_
                            refine h_zeq (off := 113) (t := 264) rfl rfl (by decide) (fun c => absurd c (by decide)) (fun _ => ?_)
                            refine h_run 4 (pc' := 160) (l' := [(0, .inr (.inr 1826)), (1, .inl (f : Int)), (2, .inl (aty H1 (H1.1 1852 ((H1.1 1826 47) - 1).toNat) (H1.1 1853 ((H1.1 1826 47) - 1).toNat)))]) (st' := [.inl (aty H1 (H1.1 1852 ((H1.1 1826 47) - 1).toNat) (H1.1 1853 ((H1.1 1826 47) - 1).toNat)), .inr (.inr 1826), .inl 1000, .inr (.inr 1826)]) rfl ?_
                            refine h_cv (i := 347) (j := 177) (b := 1826) (M' := mt_177) (xs := [.inl (aty H1 (H1.1 1852 ((H1.1 1826 47) - 1).toNat) (H1.1 1853 ((H1.1 1826 47) - 1).toNat))]) (rest := [.inl 1000, .inr (.inr 1826)]) rfl rfl rfl rfl rfl rfl (Nat.le_of_ble_eq_true rfl) (Nat.le_of_ble_eq_true rfl) (by omega) (m_addVariable (by omega) (by omega : 0 ≤ (H1.1 1826 39) ∧ (H1.1 1826 39) ≤ 47) (by omega)) ?_
                            rintro _ _ ⟨rfl, rfl⟩
                            refine h_run 0 (pc' := 163) (l' := [(0, .inr (.inr 1826)), (1, .inl (f : Int)), (2, .inl (aty H1 (H1.1 1852 ((H1.1 1826 47) - 1).toNat) (H1.1 1853 ((H1.1 1826 47) - 1).toNat)))]) (st' := [.inl (((H1.1 1826 39) + 1) - 1), .inl 1000, .inr (.inr 1826)]) rfl ?_
                            refine h_run 1 (pc' := 164) (l' := [(0, .inr (.inr 1826)), (1, .inl (f : Int)), (2, .inl (aty H1 (H1.1 1852 ((H1.1 1826 47) - 1).toNat) (H1.1 1853 ((H1.1 1826 47) - 1).toNat)))]) (st' := [.inl (1000 + (((H1.1 1826 39) + 1) - 1)), .inr (.inr 1826)]) rfl ?_
                            have g491 : -2147483648 ≤ (H1.1 1826 43) ∧ (H1.1 1826 43) ≤ 2147483647 := hrg1.1 1826 13 43 _ .int rfl rfl
                            refine h_cv (i := 350) (j := 169) (b := 1826) (M' := mt_169) (xs := [.inl (1000 + (((H1.1 1826 39) + 1) - 1))]) (rest := []) rfl rfl rfl rfl rfl rfl (Nat.le_of_ble_eq_true rfl) (Nat.le_of_ble_eq_true rfl) (by omega) (m_put1 (by omega) (by omega : (H1.1 1826 35) = 0) (by omega : 0 ≤ (H1.1 1826 43) ∧ (H1.1 1826 43) ≤ 47) (by omega)) ?_
                            rintro _ _ ⟨rfl, rfl⟩
                            refine h_run 0 (pc' := 167) (l' := [(0, .inr (.inr 1826)), (1, .inl (f : Int)), (2, .inl (aty H1 (H1.1 1852 ((H1.1 1826 47) - 1).toNat) (H1.1 1853 ((H1.1 1826 47) - 1).toNat)))]) (st' := []) rfl ?_
                            refine h_run 4 (pc' := 175) (l' := [(0, .inr (.inr 1826)), (1, .inl (f : Int)), (2, .inl (aty H1 (H1.1 1852 ((H1.1 1826 47) - 1).toNat) (H1.1 1853 ((H1.1 1826 47) - 1).toNat)))]) (st' := [.inl (H1.1 1826 47), .inr (.inr 1853)]) rfl ?_
                            refine h_run 3 (pc' := 178) (l' := [(0, .inr (.inr 1826)), (1, .inl (f : Int)), (2, .inl (aty H1 (H1.1 1852 ((H1.1 1826 47) - 1).toNat) (H1.1 1853 ((H1.1 1826 47) - 1).toNat)))]) (st' := [.inl ((H1.1 1826 47) - 1), .inr (.inr 1853), .inl ((H1.1 1826 47) - 1), .inr (.inr 1853)]) rfl ?_
                            refine h_ild (c := 1853) (j := (((H1.1 1826 47) - 1)).toNat) (i := ((H1.1 1826 47) - 1)) rfl rfl (by decide) (by omega) (by omega) ?_
                            have g492 : -2147483648 ≤ (H1.1 1853 (((H1.1 1826 47) - 1)).toNat) ∧ (H1.1 1853 (((H1.1 1826 47) - 1)).toNat) ≤ 2147483647 := hrg1.2 1853 (((H1.1 1826 47) - 1)).toNat 64 .int rfl (by omega)
                            refine h_run 0 (pc' := 179) (l' := [(0, .inr (.inr 1826)), (1, .inl (f : Int)), (2, .inl (aty H1 (H1.1 1852 ((H1.1 1826 47) - 1).toNat) (H1.1 1853 ((H1.1 1826 47) - 1).toNat)))]) (st' := [.inl (H1.1 1853 (((H1.1 1826 47) - 1)).toNat), .inl ((H1.1 1826 47) - 1), .inr (.inr 1853)]) rfl ?_
                            refine h_run 2 (pc' := 181) (l' := [(0, .inr (.inr 1826)), (1, .inl (f : Int)), (2, .inl (aty H1 (H1.1 1852 ((H1.1 1826 47) - 1).toNat) (H1.1 1853 ((H1.1 1826 47) - 1).toNat)))]) (st' := [.inl ((H1.1 1853 (((H1.1 1826 47) - 1)).toNat) + 1), .inl ((H1.1 1826 47) - 1), .inr (.inr 1853)]) rfl ?_
                            refine h_ist (c := 1853) (j := (((H1.1 1826 47) - 1)).toNat) (i := ((H1.1 1826 47) - 1)) (x := ((H1.1 1853 (((H1.1 1826 47) - 1)).toNat) + 1)) rfl rfl (by decide) (by decide) (by omega) (by omega) (by omega) ?_
                            refine h_run 1 (pc' := 183) (l' := [(0, .inr (.inr 1826)), (1, .inl (f : Int)), (2, .inl (aty H1 (H1.1 1852 ((H1.1 1826 47) - 1).toNat) (H1.1 1853 ((H1.1 1826 47) - 1).toNat)))]) (st' := [.inr (.inr 1826)]) rfl ?_
                            have g493 : -2147483648 ≤ (H1.1 1826 30) ∧ (H1.1 1826 30) ≤ 2147483647 := hrg1.1 1826 13 30 _ .int rfl rfl
                            have g494 : -2147483648 ≤ (H1.1 1826 29) ∧ (H1.1 1826 29) ≤ 2147483647 := hrg1.1 1826 13 29 _ .int rfl rfl
                            have e495 : (H1.1 1826 29) = (H.1 1826 29) := hf.2.2 29 (by decide)
                            have g496 : -2147483648 ≤ (H1.1 1826 32) ∧ (H1.1 1826 32) ≤ 2147483647 := hrg1.1 1826 13 32 _ .int rfl rfl
                            refine h_cv (i := 297) (j := 165) (b := 1826) (M' := mt_165) (xs := []) (rest := []) rfl rfl rfl rfl rfl rfl (Nat.le_of_ble_eq_true rfl) (Nat.le_of_ble_eq_true rfl) (by omega) (m_next (by omega) (by omega : 0 ≤ (H1.1 1826 30) ∧ (H1.1 1826 30) ≤ (H1.1 1826 29) ∧ (H1.1 1826 29) ≤ 1000) (by omega : 0 ≤ (H1.1 1826 35) ∧ (H1.1 1826 35) ≤ 5) (by omega : 0 ≤ (H1.1 1826 32) ∧ (H1.1 1826 32) ≤ 1000)) ?_
                            rintro _ H497 ⟨rfl, hx497f, hx497a, hx497b, hx497c, -, hx497e, hx497g⟩
                            refine h_rng (fun hrg498 => ?_)
                            have hf499 : fr [30, 31, 32, 33, 35, 36, 39, 40, 41, 43, 47] [1849, 1850, 1851, 1852, 1853] H H497 := fr_t (fr_a (fr_o (fr_a (fr_o (fr_a (fr_a (fr_o hf (by decide)) (by decide)) (by decide)) (by decide)) (by decide)) (by decide)) (by decide)) hx497f (by decide) (by decide)
                            replace hx497a : (H1.1 1826 30) ≤ (H497.1 1826 30) := hx497a
                            replace hx497b : (H497.1 1826 30) ≤ (H1.1 1826 29) := hx497b
                            replace hx497g : (H497.1 1826 35) = 0 → ((H497.1 1826 31) = 0 ∨ (H1.1 1826 30) < (H497.1 1826 30)) := hx497g
                            refine h_run 0 (pc' := 186) (l' := [(0, .inr (.inr 1826)), (1, .inl (f : Int)), (2, .inl (aty H1 (H1.1 1852 ((H1.1 1826 47) - 1).toNat) (H1.1 1853 ((H1.1 1826 47) - 1).toNat)))]) (st' := []) rfl ?_
                            refine h_run 2 (pc' := 22) (l' := [(0, .inr (.inr 1826)), (1, .inl (f : Int)), (2, .inl (aty H1 (H1.1 1852 ((H1.1 1826 47) - 1).toNat) (H1.1 1853 ((H1.1 1826 47) - 1).toNat)))]) (st' := []) rfl ?_
                            have g500 : -2147483648 ≤ (H497.1 1826 30) ∧ (H497.1 1826 30) ≤ 2147483647 := hrg498.1 1826 13 30 _ .int rfl rfl
                            have g501 : -2147483648 ≤ (H497.1 1826 35) ∧ (H497.1 1826 35) ≤ 2147483647 := hrg498.1 1826 13 35 _ .int rfl rfl
                            have g502 : -2147483648 ≤ (H497.1 1826 32) ∧ (H497.1 1826 32) ≤ 2147483647 := hrg498.1 1826 13 32 _ .int rfl rfl
                            have g503 : -2147483648 ≤ (H497.1 1826 31) ∧ (H497.1 1826 31) ≤ 2147483647 := hrg498.1 1826 13 31 _ .int rfl rfl
                            have g504 : -2147483648 ≤ (H497.1 1826 29) ∧ (H497.1 1826 29) ≤ 2147483647 := hrg498.1 1826 13 29 _ .int rfl rfl
                            have e505 : (H497.1 1826 29) = (H1.1 1826 29) := hx497f.2.2 29 (by decide)
                            have g506 : -2147483648 ≤ (H497.1 1826 47) ∧ (H497.1 1826 47) ≤ 2147483647 := hrg498.1 1826 13 47 _ .int rfl rfl
                            have e507 : (H497.1 1826 47) = (H1.1 1826 47) := hx497f.2.2 47 (by decide)
                            have g508 : -2147483648 ≤ (H497.1 1826 41) ∧ (H497.1 1826 41) ≤ 2147483647 := hrg498.1 1826 13 41 _ .int rfl rfl
                            have e509 : (H497.1 1826 41) = (H1.1 1826 41) := hx497f.2.2 41 (by decide)
                            refine h_loc [0, 1] rfl ?_
                            exact ih _ hf499 (by omega : (H.1 1826 30) ≤ (H497.1 1826 30) ∧ (H497.1 1826 30) ≤ (H.1 1826 29)) (by omega : 0 ≤ (H497.1 1826 35) ∧ (H497.1 1826 35) ≤ 5) (by omega : 0 ≤ (H497.1 1826 32) ∧ (H497.1 1826 32) ≤ 1000) (by omega : (H.1 1826 35) ≠ 0 → (H497.1 1826 35) ≠ 0) (fun _ => PT_step (q := 0) hPT1 (Or.inr ⟨(by omega : 1000 ≤ 1000 + ((H1.1 1826 39) + 1 - 1)), by omega⟩) (ma_0 (by omega)) (by omega) hno (hx497f.2.1 1833 (by decide) (by decide)) (hx497f.2.1 1830 (by decide) (by decide)) ⟨hx497f.2.2 3 (by decide), hx497f.2.2 8 (by decide)⟩ (by omega) ⟨hx497f.2.2 40 (by decide), hx497f.2.2 43 (by decide)⟩ (hx497f.2.1 1851 (by decide) (by decide)) (Or.inr ⟨hx497f.2.2 39 (by decide), by omega⟩) (Or.inl ⟨rfl, hx497f.2.2 47 (by decide), hx497f.2.2 41 (by decide), hx497f.2.1 1852 (by decide) (by decide), by rw [← hidx]; exact hx497f.2.1 1853 (by decide) (by decide)⟩)) (mu_lt hw (by omega) (by omega : (H497.1 1826 35) ≠ 0 ∨ ((H1.1 1826 30) ≤ (H497.1 1826 30) ∧ (H497.1 1826 30) ≤ (H.1 1826 29) ∧ (((H497.1 1826 31) = 0 ∧ (H1.1 1826 31) ≠ 0) ∨ (H1.1 1826 30) < (H497.1 1826 30)))))
                        · refine h_run 2 (pc' := 140) (l' := [(0, .inr (.inr 1826)), (1, .inl (f : Int)), (2, .inl (aty H1 (H1.1 1852 ((H1.1 1826 47) - 1).toNat) (H1.1 1853 ((H1.1 1826 47) - 1).toNat)))]) (st' := [.inl 3, .inr (.inr 1826)]) rfl ?_
                          refine h_cv (i := 278) (j := 159) (b := 1826) (M' := mt_159) (xs := [.inl 3]) (rest := []) rfl rfl rfl rfl rfl rfl (Nat.le_of_ble_eq_true rfl) (Nat.le_of_ble_eq_true rfl) (by omega) (m_bad0 (by omega) (by omega) (by omega : (H1.1 1826 35) = 0)) ?_
                          rintro _ _ ⟨rfl, rfl⟩
                          refine h_run 0 (pc' := 143) (l' := [(0, .inr (.inr 1826)), (1, .inl (f : Int)), (2, .inl (aty H1 (H1.1 1852 ((H1.1 1826 47) - 1).toNat) (H1.1 1853 ((H1.1 1826 47) - 1).toNat)))]) (st' := []) rfl ?_
                          refine h_run 1 (pc' := 144) (l' := [(0, .inr (.inr 1826)), (1, .inl (f : Int)), (2, .inl (aty H1 (H1.1 1852 ((H1.1 1826 47) - 1).toNat) (H1.1 1853 ((H1.1 1826 47) - 1).toNat)))]) (st' := [.inr (.inr 1826)]) rfl ?_
                          have g510 : -2147483648 ≤ (H1.1 1826 40) ∧ (H1.1 1826 40) ≤ 2147483647 := hrg1.1 1826 13 40 _ .int rfl rfl
                          refine h_cv (i := 344) (j := 168) (b := 1826) (M' := mt_168) (xs := []) (rest := []) rfl rfl rfl rfl rfl rfl (Nat.le_of_ble_eq_true rfl) (Nat.le_of_ble_eq_true rfl) (by omega) (m_countC (by omega) (by omega : (3 : Int) ≠ 0) (by omega : 0 ≤ (H1.1 1826 40) ∧ (H1.1 1826 40) ≤ 1000)) ?_
                          rintro _ _ ⟨rfl, rfl⟩
                          refine h_run 0 (pc' := 147) (l' := [(0, .inr (.inr 1826)), (1, .inl (f : Int)), (2, .inl (aty H1 (H1.1 1852 ((H1.1 1826 47) - 1).toNat) (H1.1 1853 ((H1.1 1826 47) - 1).toNat)))]) (st' := []) rfl ?_
                          refine h_run 1 (pc' := 148) (l' := [(0, .inr (.inr 1826)), (1, .inl (f : Int)), (2, .inl (aty H1 (H1.1 1852 ((H1.1 1826 47) - 1).toNat) (H1.1 1853 ((H1.1 1826 47) - 1).toNat)))]) (st' := [.inr (.inr 1826)]) rfl ?_
                          refine h_cv (i := 293) (j := 158) (b := 1826) (M' := mt_158) (xs := []) (rest := []) rfl rfl rfl rfl rfl rfl (Nat.le_of_ble_eq_true rfl) (Nat.le_of_ble_eq_true rfl) (by omega) (m_good0 (by omega) (by omega : (3 : Int) ≠ 0)) ?_
                          rintro _ _ ⟨rfl, rfl⟩
                          refine h_run 0 (pc' := 151) (l' := [(0, .inr (.inr 1826)), (1, .inl (f : Int)), (2, .inl (aty H1 (H1.1 1852 ((H1.1 1826 47) - 1).toNat) (H1.1 1853 ((H1.1 1826 47) - 1).toNat)))]) (st' := [.inl 0]) rfl ?_
                          refine h_zeq (off := 113) (t := 264) rfl rfl (by decide) (fun _ => ?_) (fun c => absurd c (by decide))
                          refine h_run 1 (pc' := 22) (l' := [(0, .inr (.inr 1826)), (1, .inl (f : Int)), (2, .inl (aty H1 (H1.1 1852 ((H1.1 1826 47) - 1).toNat) (H1.1 1853 ((H1.1 1826 47) - 1).toNat)))]) (st' := []) rfl ?_
                          have g511 : -2147483648 ≤ (H1.1 1826 30) ∧ (H1.1 1826 30) ≤ 2147483647 := hrg1.1 1826 13 30 _ .int rfl rfl
                          have g512 : -2147483648 ≤ (H1.1 1826 32) ∧ (H1.1 1826 32) ≤ 2147483647 := hrg1.1 1826 13 32 _ .int rfl rfl
                          have g513 : -2147483648 ≤ (H1.1 1826 29) ∧ (H1.1 1826 29) ≤ 2147483647 := hrg1.1 1826 13 29 _ .int rfl rfl
                          have e514 : (H1.1 1826 29) = (H.1 1826 29) := hf.2.2 29 (by decide)
                          have g515 : -2147483648 ≤ (H1.1 1826 41) ∧ (H1.1 1826 41) ≤ 2147483647 := hrg1.1 1826 13 41 _ .int rfl rfl
                          refine h_loc [0, 1] rfl ?_
                          exact ih _ (fr_o (fr_o (fr_o hf (by decide)) (by decide)) (by decide)) (by omega : (H.1 1826 30) ≤ (H1.1 1826 30) ∧ (H1.1 1826 30) ≤ (H.1 1826 29)) (by omega : 0 ≤ (3 : Int) ∧ (3 : Int) ≤ 5) (by omega : 0 ≤ (H1.1 1826 32) ∧ (H1.1 1826 32) ≤ 1000) (by omega : (H.1 1826 35) ≠ 0 → (3 : Int) ≠ 0) (fun (q : (3 : Int) = 0) => absurd q (by omega)) (mu_lt hw (by omega) (by omega : (3 : Int) ≠ 0 ∨ ((H1.1 1826 30) ≤ (H1.1 1826 30) ∧ (H1.1 1826 30) ≤ (H.1 1826 29) ∧ (((H1.1 1826 31) = 0 ∧ (H1.1 1826 31) ≠ 0) ∨ (H1.1 1826 30) < (H1.1 1826 30)))))
                      · refine h_run 0 (pc' := 134) (l' := [(0, .inr (.inr 1826)), (1, .inl (f : Int)), (2, .inl (aty H1 (H1.1 1852 ((H1.1 1826 47) - 1).toNat) (H1.1 1853 ((H1.1 1826 47) - 1).toNat)))]) (st' := [.inl (-1)]) rfl ?_
                        refine h_run 1 (pc' := 135) (l' := [(0, .inr (.inr 1826)), (1, .inl (f : Int)), (2, .inl (aty H1 (H1.1 1852 ((H1.1 1826 47) - 1).toNat) (H1.1 1853 ((H1.1 1826 47) - 1).toNat)))]) (st' := [.inl (-1), .inl (-1)]) rfl ?_
                        refine h_ieq (off := 8) (t := 143) rfl rfl (by decide) (by decide) (fun _ => ?_) (fun c => absurd c (by decide))
                        refine h_run 1 (pc' := 144) (l' := [(0, .inr (.inr 1826)), (1, .inl (f : Int)), (2, .inl (aty H1 (H1.1 1852 ((H1.1 1826 47) - 1).toNat) (H1.1 1853 ((H1.1 1826 47) - 1).toNat)))]) (st' := [.inr (.inr 1826)]) rfl ?_
                        have g516 : -2147483648 ≤ (H1.1 1826 40) ∧ (H1.1 1826 40) ≤ 2147483647 := hrg1.1 1826 13 40 _ .int rfl rfl
                        by_cases b517 : (H1.1 1826 40) = 40
                        · refine h_cv (i := 344) (j := 168) (b := 1826) (M' := mt_168) (xs := []) (rest := []) rfl rfl rfl rfl rfl rfl (Nat.le_of_ble_eq_true rfl) (Nat.le_of_ble_eq_true rfl) (by omega) (m_countB (by omega) (by omega : (H1.1 1826 35) = 0) (by omega : (H1.1 1826 40) = 40)) ?_
                          rintro _ _ ⟨rfl, rfl⟩
                          refine h_run 0 (pc' := 147) (l' := [(0, .inr (.inr 1826)), (1, .inl (f : Int)), (2, .inl (aty H1 (H1.1 1852 ((H1.1 1826 47) - 1).toNat) (H1.1 1853 ((H1.1 1826 47) - 1).toNat)))]) (st' := []) rfl ?_
                          refine h_run 1 (pc' := 148) (l' := [(0, .inr (.inr 1826)), (1, .inl (f : Int)), (2, .inl (aty H1 (H1.1 1852 ((H1.1 1826 47) - 1).toNat) (H1.1 1853 ((H1.1 1826 47) - 1).toNat)))]) (st' := [.inr (.inr 1826)]) rfl ?_
                          refine h_cv (i := 293) (j := 158) (b := 1826) (M' := mt_158) (xs := []) (rest := []) rfl rfl rfl rfl rfl rfl (Nat.le_of_ble_eq_true rfl) (Nat.le_of_ble_eq_true rfl) (by omega) (m_good0 (by omega) (by omega : (5 : Int) ≠ 0)) ?_
                          rintro _ _ ⟨rfl, rfl⟩
                          refine h_run 0 (pc' := 151) (l' := [(0, .inr (.inr 1826)), (1, .inl (f : Int)), (2, .inl (aty H1 (H1.1 1852 ((H1.1 1826 47) - 1).toNat) (H1.1 1853 ((H1.1 1826 47) - 1).toNat)))]) (st' := [.inl 0]) rfl ?_
                          refine h_zeq (off := 113) (t := 264) rfl rfl (by decide) (fun _ => ?_) (fun c => absurd c (by decide))
                          refine h_run 1 (pc' := 22) (l' := [(0, .inr (.inr 1826)), (1, .inl (f : Int)), (2, .inl (aty H1 (H1.1 1852 ((H1.1 1826 47) - 1).toNat) (H1.1 1853 ((H1.1 1826 47) - 1).toNat)))]) (st' := []) rfl ?_
                          have g518 : -2147483648 ≤ (H1.1 1826 30) ∧ (H1.1 1826 30) ≤ 2147483647 := hrg1.1 1826 13 30 _ .int rfl rfl
                          have g519 : -2147483648 ≤ (H1.1 1826 32) ∧ (H1.1 1826 32) ≤ 2147483647 := hrg1.1 1826 13 32 _ .int rfl rfl
                          have g520 : -2147483648 ≤ (H1.1 1826 29) ∧ (H1.1 1826 29) ≤ 2147483647 := hrg1.1 1826 13 29 _ .int rfl rfl
                          have e521 : (H1.1 1826 29) = (H.1 1826 29) := hf.2.2 29 (by decide)
                          have g522 : -2147483648 ≤ (H1.1 1826 41) ∧ (H1.1 1826 41) ≤ 2147483647 := hrg1.1 1826 13 41 _ .int rfl rfl
                          refine h_loc [0, 1] rfl ?_
                          exact ih _ (fr_o (fr_o (fr_o hf (by decide)) (by decide)) (by decide)) (by omega : (H.1 1826 30) ≤ (H1.1 1826 30) ∧ (H1.1 1826 30) ≤ (H.1 1826 29)) (by omega : 0 ≤ (5 : Int) ∧ (5 : Int) ≤ 5) (by omega : 0 ≤ (H1.1 1826 32) ∧ (H1.1 1826 32) ≤ 1000) (by omega : (H.1 1826 35) ≠ 0 → (5 : Int) ≠ 0) (fun (q : (5 : Int) = 0) => absurd q (by omega)) (mu_lt hw (by omega) (by omega : (5 : Int) ≠ 0 ∨ ((H1.1 1826 30) ≤ (H1.1 1826 30) ∧ (H1.1 1826 30) ≤ (H.1 1826 29) ∧ (((H1.1 1826 31) = 0 ∧ (H1.1 1826 31) ≠ 0) ∨ (H1.1 1826 30) < (H1.1 1826 30)))))
                        · refine h_cv (i := 344) (j := 168) (b := 1826) (M' := mt_168) (xs := []) (rest := []) rfl rfl rfl rfl rfl rfl (Nat.le_of_ble_eq_true rfl) (Nat.le_of_ble_eq_true rfl) (by omega) (m_countA (by omega) (by omega : (H1.1 1826 35) = 0) (by omega : 0 ≤ (H1.1 1826 40) ∧ (H1.1 1826 40) ≤ 1000) (by omega : (H1.1 1826 40) ≠ 40)) ?_
                          rintro _ _ ⟨rfl, rfl⟩
                          refine h_run 0 (pc' := 147) (l' := [(0, .inr (.inr 1826)), (1, .inl (f : Int)), (2, .inl (aty H1 (H1.1 1852 ((H1.1 1826 47) - 1).toNat) (H1.1 1853 ((H1.1 1826 47) - 1).toNat)))]) (st' := []) rfl ?_
                          refine h_run 1 (pc' := 148) (l' := [(0, .inr (.inr 1826)), (1, .inl (f : Int)), (2, .inl (aty H1 (H1.1 1852 ((H1.1 1826 47) - 1).toNat) (H1.1 1853 ((H1.1 1826 47) - 1).toNat)))]) (st' := [.inr (.inr 1826)]) rfl ?_
                          refine h_cv (i := 293) (j := 158) (b := 1826) (M' := mt_158) (xs := []) (rest := []) rfl rfl rfl rfl rfl rfl (Nat.le_of_ble_eq_true rfl) (Nat.le_of_ble_eq_true rfl) (by omega) (m_good1 (by omega) (by omega : (H1.1 1826 35) = 0)) ?_
                          rintro _ _ ⟨rfl, rfl⟩
                          refine h_run 0 (pc' := 151) (l' := [(0, .inr (.inr 1826)), (1, .inl (f : Int)), (2, .inl (aty H1 (H1.1 1852 ((H1.1 1826 47) - 1).toNat) (H1.1 1853 ((H1.1 1826 47) - 1).toNat)))]) (st' := [.inl 1]) rfl ?_
                          refine h_zeq (off := 113) (t := 264) rfl rfl (by decide) (fun c => absurd c (by decide)) (fun _ => ?_)
                          refine h_run 4 (pc' := 160) (l' := [(0, .inr (.inr 1826)), (1, .inl (f : Int)), (2, .inl (aty H1 (H1.1 1852 ((H1.1 1826 47) - 1).toNat) (H1.1 1853 ((H1.1 1826 47) - 1).toNat)))]) (st' := [.inl (aty H1 (H1.1 1852 ((H1.1 1826 47) - 1).toNat) (H1.1 1853 ((H1.1 1826 47) - 1).toNat)), .inr (.inr 1826), .inl 1000, .inr (.inr 1826)]) rfl ?_
                          refine h_cv (i := 347) (j := 177) (b := 1826) (M' := mt_177) (xs := [.inl (aty H1 (H1.1 1852 ((H1.1 1826 47) - 1).toNat) (H1.1 1853 ((H1.1 1826 47) - 1).toNat))]) (rest := [.inl 1000, .inr (.inr 1826)]) rfl rfl rfl rfl rfl rfl (Nat.le_of_ble_eq_true rfl) (Nat.le_of_ble_eq_true rfl) (by omega) (m_addVariable (by omega) (by omega : 0 ≤ (H1.1 1826 39) ∧ (H1.1 1826 39) ≤ 47) (by omega)) ?_
                          rintro _ _ ⟨rfl, rfl⟩
                          refine h_run 0 (pc' := 163) (l' := [(0, .inr (.inr 1826)), (1, .inl (f : Int)), (2, .inl (aty H1 (H1.1 1852 ((H1.1 1826 47) - 1).toNat) (H1.1 1853 ((H1.1 1826 47) - 1).toNat)))]) (st' := [.inl (((H1.1 1826 39) + 1) - 1), .inl 1000, .inr (.inr 1826)]) rfl ?_
                          refine h_run 1 (pc' := 164) (l' := [(0, .inr (.inr 1826)), (1, .inl (f : Int)), (2, .inl (aty H1 (H1.1 1852 ((H1.1 1826 47) - 1).toNat) (H1.1 1853 ((H1.1 1826 47) - 1).toNat)))]) (st' := [.inl (1000 + (((H1.1 1826 39) + 1) - 1)), .inr (.inr 1826)]) rfl ?_
                          have g523 : -2147483648 ≤ (H1.1 1826 43) ∧ (H1.1 1826 43) ≤ 2147483647 := hrg1.1 1826 13 43 _ .int rfl rfl
                          refine h_cv (i := 350) (j := 169) (b := 1826) (M' := mt_169) (xs := [.inl (1000 + (((H1.1 1826 39) + 1) - 1))]) (rest := []) rfl rfl rfl rfl rfl rfl (Nat.le_of_ble_eq_true rfl) (Nat.le_of_ble_eq_true rfl) (by omega) (m_put1 (by omega) (by omega : (H1.1 1826 35) = 0) (by omega : 0 ≤ (H1.1 1826 43) ∧ (H1.1 1826 43) ≤ 47) (by omega)) ?_
                          rintro _ _ ⟨rfl, rfl⟩
                          refine h_run 0 (pc' := 167) (l' := [(0, .inr (.inr 1826)), (1, .inl (f : Int)), (2, .inl (aty H1 (H1.1 1852 ((H1.1 1826 47) - 1).toNat) (H1.1 1853 ((H1.1 1826 47) - 1).toNat)))]) (st' := []) rfl ?_
                          refine h_run 4 (pc' := 175) (l' := [(0, .inr (.inr 1826)), (1, .inl (f : Int)), (2, .inl (aty H1 (H1.1 1852 ((H1.1 1826 47) - 1).toNat) (H1.1 1853 ((H1.1 1826 47) - 1).toNat)))]) (st' := [.inl (H1.1 1826 47), .inr (.inr 1853)]) rfl ?_
                          refine h_run 3 (pc' := 178) (l' := [(0, .inr (.inr 1826)), (1, .inl (f : Int)), (2, .inl (aty H1 (H1.1 1852 ((H1.1 1826 47) - 1).toNat) (H1.1 1853 ((H1.1 1826 47) - 1).toNat)))]) (st' := [.inl ((H1.1 1826 47) - 1), .inr (.inr 1853), .inl ((H1.1 1826 47) - 1), .inr (.inr 1853)]) rfl ?_
                          refine h_ild (c := 1853) (j := (((H1.1 1826 47) - 1)).toNat) (i := ((H1.1 1826 47) - 1)) rfl rfl (by decide) (by omega) (by omega) ?_
                          have g524 : -2147483648 ≤ (H1.1 1853 (((H1.1 1826 47) - 1)).toNat) ∧ (H1.1 1853 (((H1.1 1826 47) - 1)).toNat) ≤ 2147483647 := hrg1.2 1853 (((H1.1 1826 47) - 1)).toNat 64 .int rfl (by omega)
                          refine h_run 0 (pc' := 179) (l' := [(0, .inr (.inr 1826)), (1, .inl (f : Int)), (2, .inl (aty H1 (H1.1 1852 ((H1.1 1826 47) - 1).toNat) (H1.1 1853 ((H1.1 1826 47) - 1).toNat)))]) (st' := [.inl (H1.1 1853 (((H1.1 1826 47) - 1)).toNat), .inl ((H1.1 1826 47) - 1), .inr (.inr 1853)]) rfl ?_
                          refine h_run 2 (pc' := 181) (l' := [(0, .inr (.inr 1826)), (1, .inl (f : Int)), (2, .inl (aty H1 (H1.1 1852 ((H1.1 1826 47) - 1).toNat) (H1.1 1853 ((H1.1 1826 47) - 1).toNat)))]) (st' := [.inl ((H1.1 1853 (((H1.1 1826 47) - 1)).toNat) + 1), .inl ((H1.1 1826 47) - 1), .inr (.inr 1853)]) rfl ?_
                          refine h_ist (c := 1853) (j := (((H1.1 1826 47) - 1)).toNat) (i := ((H1.1 1826 47) - 1)) (x := ((H1.1 1853 (((H1.1 1826 47) - 1)).toNat) + 1)) rfl rfl (by decide) (by decide) (by omega) (by omega) (by omega) ?_
                          refine h_run 1 (pc' := 183) (l' := [(0, .inr (.inr 1826)), (1, .inl (f : Int)), (2, .inl (aty H1 (H1.1 1852 ((H1.1 1826 47) - 1).toNat) (H1.1 1853 ((H1.1 1826 47) - 1).toNat)))]) (st' := [.inr (.inr 1826)]) rfl ?_
                          have g525 : -2147483648 ≤ (H1.1 1826 30) ∧ (H1.1 1826 30) ≤ 2147483647 := hrg1.1 1826 13 30 _ .int rfl rfl
                          have g526 : -2147483648 ≤ (H1.1 1826 29) ∧ (H1.1 1826 29) ≤ 2147483647 := hrg1.1 1826 13 29 _ .int rfl rfl
                          have e527 : (H1.1 1826 29) = (H.1 1826 29) := hf.2.2 29 (by decide)
                          have g528 : -2147483648 ≤ (H1.1 1826 32) ∧ (H1.1 1826 32) ≤ 2147483647 := hrg1.1 1826 13 32 _ .int rfl rfl
                          refine h_cv (i := 297) (j := 165) (b := 1826) (M' := mt_165) (xs := []) (rest := []) rfl rfl rfl rfl rfl rfl (Nat.le_of_ble_eq_true rfl) (Nat.le_of_ble_eq_true rfl) (by omega) (m_next (by omega) (by omega : 0 ≤ (H1.1 1826 30) ∧ (H1.1 1826 30) ≤ (H1.1 1826 29) ∧ (H1.1 1826 29) ≤ 1000) (by omega : 0 ≤ (H1.1 1826 35) ∧ (H1.1 1826 35) ≤ 5) (by omega : 0 ≤ (H1.1 1826 32) ∧ (H1.1 1826 32) ≤ 1000)) ?_
                          rintro _ H529 ⟨rfl, hx529f, hx529a, hx529b, hx529c, -, hx529e, hx529g⟩
                          refine h_rng (fun hrg530 => ?_)
                          have hf531 : fr [30, 31, 32, 33, 35, 36, 39, 40, 41, 43, 47] [1849, 1850, 1851, 1852, 1853] H H529 := fr_t (fr_a (fr_o (fr_a (fr_o (fr_a (fr_a (fr_o hf (by decide)) (by decide)) (by decide)) (by decide)) (by decide)) (by decide)) (by decide)) hx529f (by decide) (by decide)
                          replace hx529a : (H1.1 1826 30) ≤ (H529.1 1826 30) := hx529a
                          replace hx529b : (H529.1 1826 30) ≤ (H1.1 1826 29) := hx529b
                          replace hx529g : (H529.1 1826 35) = 0 → ((H529.1 1826 31) = 0 ∨ (H1.1 1826 30) < (H529.1 1826 30)) := hx529g
                          refine h_run 0 (pc' := 186) (l' := [(0, .inr (.inr 1826)), (1, .inl (f : Int)), (2, .inl (aty H1 (H1.1 1852 ((H1.1 1826 47) - 1).toNat) (H1.1 1853 ((H1.1 1826 47) - 1).toNat)))]) (st' := []) rfl ?_
                          refine h_run 2 (pc' := 22) (l' := [(0, .inr (.inr 1826)), (1, .inl (f : Int)), (2, .inl (aty H1 (H1.1 1852 ((H1.1 1826 47) - 1).toNat) (H1.1 1853 ((H1.1 1826 47) - 1).toNat)))]) (st' := []) rfl ?_
                          have g532 : -2147483648 ≤ (H529.1 1826 30) ∧ (H529.1 1826 30) ≤ 2147483647 := hrg530.1 1826 13 30 _ .int rfl rfl
                          have g533 : -2147483648 ≤ (H529.1 1826 35) ∧ (H529.1 1826 35) ≤ 2147483647 := hrg530.1 1826 13 35 _ .int rfl rfl
                          have g534 : -2147483648 ≤ (H529.1 1826 32) ∧ (H529.1 1826 32) ≤ 2147483647 := hrg530.1 1826 13 32 _ .int rfl rfl
                          have g535 : -2147483648 ≤ (H529.1 1826 31) ∧ (H529.1 1826 31) ≤ 2147483647 := hrg530.1 1826 13 31 _ .int rfl rfl
                          have g536 : -2147483648 ≤ (H529.1 1826 29) ∧ (H529.1 1826 29) ≤ 2147483647 := hrg530.1 1826 13 29 _ .int rfl rfl
                          have e537 : (H529.1 1826 29) = (H1.1 1826 29) := hx529f.2.2 29 (by decide)
                          have g538 : -2147483648 ≤ (H529.1 1826 47) ∧ (H529.1 1826 47) ≤ 2147483647 := hrg530.1 1826 13 47 _ .int rfl rfl
                          have e539 : (H529.1 1826 47) = (H1.1 1826 47) := hx529f.2.2 47 (by decide)
                          have g540 : -2147483648 ≤ (H529.1 1826 41) ∧ (H529.1 1826 41) ≤ 2147483647 := hrg530.1 1826 13 41 _ .int rfl rfl
                          have e541 : (H529.1 1826 41) = (H1.1 1826 41) := hx529f.2.2 41 (by decide)
                          refine h_loc [0, 1] rfl ?_
                          exact ih _ hf531 (by omega : (H.1 1826 30) ≤ (H529.1 1826 30) ∧ (H529.1 1826 30) ≤ (H.1 1826 29)) (by omega : 0 ≤ (H529.1 1826 35) ∧ (H529.1 1826 35) ≤ 5) (by omega : 0 ≤ (H529.1 1826 32) ∧ (H529.1 1826 32) ≤ 1000) (by omega : (H.1 1826 35) ≠ 0 → (H529.1 1826 35) ≠ 0) (fun _ => PT_step (q := 0) hPT1 (Or.inr ⟨(by omega : 1000 ≤ 1000 + ((H1.1 1826 39) + 1 - 1)), by omega⟩) (ma_0 (by omega)) (by omega) hno (hx529f.2.1 1833 (by decide) (by decide)) (hx529f.2.1 1830 (by decide) (by decide)) ⟨hx529f.2.2 3 (by decide), hx529f.2.2 8 (by decide)⟩ (by omega) ⟨hx529f.2.2 40 (by decide), hx529f.2.2 43 (by decide)⟩ (hx529f.2.1 1851 (by decide) (by decide)) (Or.inr ⟨hx529f.2.2 39 (by decide), by omega⟩) (Or.inl ⟨rfl, hx529f.2.2 47 (by decide), hx529f.2.2 41 (by decide), hx529f.2.1 1852 (by decide) (by decide), by rw [← hidx]; exact hx529f.2.1 1853 (by decide) (by decide)⟩)) (mu_lt hw (by omega) (by omega : (H529.1 1826 35) ≠ 0 ∨ ((H1.1 1826 30) ≤ (H529.1 1826 30) ∧ (H529.1 1826 30) ≤ (H.1 1826 29) ∧ (((H529.1 1826 31) = 0 ∧ (H1.1 1826 31) ≠ 0) ∨ (H1.1 1826 30) < (H529.1 1826 30)))))
                    · refine h_run 2 (pc' := 113) (l' := [(0, .inr (.inr 1826)), (1, .inl (f : Int)), (2, .inl (aty H1 (H1.1 1852 ((H1.1 1826 47) - 1).toNat) (H1.1 1853 ((H1.1 1826 47) - 1).toNat)))]) (st' := [.inl 2, .inr (.inr 1826)]) rfl ?_
                      refine h_cv (i := 278) (j := 159) (b := 1826) (M' := mt_159) (xs := [.inl 2]) (rest := []) rfl rfl rfl rfl rfl rfl (Nat.le_of_ble_eq_true rfl) (Nat.le_of_ble_eq_true rfl) (by omega) (m_bad0 (by omega) (by omega) (by omega : (H1.1 1826 35) = 0)) ?_
                      rintro _ _ ⟨rfl, rfl⟩
                      refine h_run 0 (pc' := 116) (l' := [(0, .inr (.inr 1826)), (1, .inl (f : Int)), (2, .inl (aty H1 (H1.1 1852 ((H1.1 1826 47) - 1).toNat) (H1.1 1853 ((H1.1 1826 47) - 1).toNat)))]) (st' := []) rfl ?_
                      refine h_run 2 (pc' := 144) (l' := [(0, .inr (.inr 1826)), (1, .inl (f : Int)), (2, .inl (aty H1 (H1.1 1852 ((H1.1 1826 47) - 1).toNat) (H1.1 1853 ((H1.1 1826 47) - 1).toNat)))]) (st' := [.inr (.inr 1826)]) rfl ?_
                      have g542 : -2147483648 ≤ (H1.1 1826 40) ∧ (H1.1 1826 40) ≤ 2147483647 := hrg1.1 1826 13 40 _ .int rfl rfl
                      refine h_cv (i := 344) (j := 168) (b := 1826) (M' := mt_168) (xs := []) (rest := []) rfl rfl rfl rfl rfl rfl (Nat.le_of_ble_eq_true rfl) (Nat.le_of_ble_eq_true rfl) (by omega) (m_countC (by omega) (by omega : (2 : Int) ≠ 0) (by omega : 0 ≤ (H1.1 1826 40) ∧ (H1.1 1826 40) ≤ 1000)) ?_
                      rintro _ _ ⟨rfl, rfl⟩
                      refine h_run 0 (pc' := 147) (l' := [(0, .inr (.inr 1826)), (1, .inl (f : Int)), (2, .inl (aty H1 (H1.1 1852 ((H1.1 1826 47) - 1).toNat) (H1.1 1853 ((H1.1 1826 47) - 1).toNat)))]) (st' := []) rfl ?_
                      refine h_run 1 (pc' := 148) (l' := [(0, .inr (.inr 1826)), (1, .inl (f : Int)), (2, .inl (aty H1 (H1.1 1852 ((H1.1 1826 47) - 1).toNat) (H1.1 1853 ((H1.1 1826 47) - 1).toNat)))]) (st' := [.inr (.inr 1826)]) rfl ?_
                      refine h_cv (i := 293) (j := 158) (b := 1826) (M' := mt_158) (xs := []) (rest := []) rfl rfl rfl rfl rfl rfl (Nat.le_of_ble_eq_true rfl) (Nat.le_of_ble_eq_true rfl) (by omega) (m_good0 (by omega) (by omega : (2 : Int) ≠ 0)) ?_
                      rintro _ _ ⟨rfl, rfl⟩
                      refine h_run 0 (pc' := 151) (l' := [(0, .inr (.inr 1826)), (1, .inl (f : Int)), (2, .inl (aty H1 (H1.1 1852 ((H1.1 1826 47) - 1).toNat) (H1.1 1853 ((H1.1 1826 47) - 1).toNat)))]) (st' := [.inl 0]) rfl ?_
                      refine h_zeq (off := 113) (t := 264) rfl rfl (by decide) (fun _ => ?_) (fun c => absurd c (by decide))
                      refine h_run 1 (pc' := 22) (l' := [(0, .inr (.inr 1826)), (1, .inl (f : Int)), (2, .inl (aty H1 (H1.1 1852 ((H1.1 1826 47) - 1).toNat) (H1.1 1853 ((H1.1 1826 47) - 1).toNat)))]) (st' := []) rfl ?_
                      have g543 : -2147483648 ≤ (H1.1 1826 30) ∧ (H1.1 1826 30) ≤ 2147483647 := hrg1.1 1826 13 30 _ .int rfl rfl
                      have g544 : -2147483648 ≤ (H1.1 1826 32) ∧ (H1.1 1826 32) ≤ 2147483647 := hrg1.1 1826 13 32 _ .int rfl rfl
                      have g545 : -2147483648 ≤ (H1.1 1826 29) ∧ (H1.1 1826 29) ≤ 2147483647 := hrg1.1 1826 13 29 _ .int rfl rfl
                      have e546 : (H1.1 1826 29) = (H.1 1826 29) := hf.2.2 29 (by decide)
                      have g547 : -2147483648 ≤ (H1.1 1826 41) ∧ (H1.1 1826 41) ≤ 2147483647 := hrg1.1 1826 13 41 _ .int rfl rfl
                      refine h_loc [0, 1] rfl ?_
                      exact ih _ (fr_o (fr_o (fr_o hf (by decide)) (by decide)) (by decide)) (by omega : (H.1 1826 30) ≤ (H1.1 1826 30) ∧ (H1.1 1826 30) ≤ (H.1 1826 29)) (by omega : 0 ≤ (2 : Int) ∧ (2 : Int) ≤ 5) (by omega : 0 ≤ (H1.1 1826 32) ∧ (H1.1 1826 32) ≤ 1000) (by omega : (H.1 1826 35) ≠ 0 → (2 : Int) ≠ 0) (fun (q : (2 : Int) = 0) => absurd q (by omega)) (mu_lt hw (by omega) (by omega : (2 : Int) ≠ 0 ∨ ((H1.1 1826 30) ≤ (H1.1 1826 30) ∧ (H1.1 1826 30) ≤ (H.1 1826 29) ∧ (((H1.1 1826 31) = 0 ∧ (H1.1 1826 31) ≠ 0) ∨ (H1.1 1826 30) < (H1.1 1826 30)))))
                  · refine h_run 0 (pc' := 107) (l' := [(0, .inr (.inr 1826)), (1, .inl (f : Int)), (2, .inl (aty H1 (H1.1 1852 ((H1.1 1826 47) - 1).toNat) (H1.1 1853 ((H1.1 1826 47) - 1).toNat)))]) (st' := [.inl (-1)]) rfl ?_
                    refine h_run 1 (pc' := 108) (l' := [(0, .inr (.inr 1826)), (1, .inl (f : Int)), (2, .inl (aty H1 (H1.1 1852 ((H1.1 1826 47) - 1).toNat) (H1.1 1853 ((H1.1 1826 47) - 1).toNat)))]) (st' := [.inl (-1), .inl (-1)]) rfl ?_
                    refine h_ieq (off := 11) (t := 119) rfl rfl (by decide) (by decide) (fun _ => ?_) (fun c => absurd c (by decide))
                    refine h_run 4 (pc' := 127) (l' := [(0, .inr (.inr 1826)), (1, .inl (f : Int)), (2, .inl (aty H1 (H1.1 1852 ((H1.1 1826 47) - 1).toNat) (H1.1 1853 ((H1.1 1826 47) - 1).toNat)))]) (st' := [.inl (H1.1 1826 39), .inr (.inr 1849)]) rfl ?_
                    have g548 : -2147483648 ≤ (H1.1 1826 39) ∧ (H1.1 1826 39) ≤ 2147483647 := hrg1.1 1826 13 39 _ .int rfl rfl
                    refine h_run 2 (pc' := 131) (l' := [(0, .inr (.inr 1826)), (1, .inl (f : Int)), (2, .inl (aty H1 (H1.1 1852 ((H1.1 1826 47) - 1).toNat) (H1.1 1853 ((H1.1 1826 47) - 1).toNat)))]) (st' := [.inr (.inl (H1.1 1826 33)), .inl (H1.1 1826 39), .inr (.inr 1849)]) rfl ?_
                    refine h_cs (i := 309) (j := 167) (M' := mt_167) (xs := [.inr (.inl (H1.1 1826 33)), .inl (H1.1 1826 39), .inr (.inr 1849)]) (rest := []) rfl rfl rfl rfl rfl (Nat.le_of_ble_eq_true rfl) (Nat.le_of_ble_eq_true rfl) (by omega) (m_find (by omega) (m := 48) rfl (by omega : 0 ≤ (H1.1 1826 39) ∧ (H1.1 1826 39) ≤ ((48 : Nat) : Int) ∧ 48 ≤ 100) (by omega)) ?_
                    rintro _ _ ⟨⟨k549, rfl, f550, f550x⟩ | ⟨rfl, f550⟩, rfl⟩
                    · refine h_run 0 (pc' := 134) (l' := [(0, .inr (.inr 1826)), (1, .inl (f : Int)), (2, .inl (aty H1 (H1.1 1852 ((H1.1 1826 47) - 1).toNat) (H1.1 1853 ((H1.1 1826 47) - 1).toNat)))]) (st' := [.inl (k549 : Int)]) rfl ?_
                      refine h_run 1 (pc' := 135) (l' := [(0, .inr (.inr 1826)), (1, .inl (f : Int)), (2, .inl (aty H1 (H1.1 1852 ((H1.1 1826 47) - 1).toNat) (H1.1 1853 ((H1.1 1826 47) - 1).toNat)))]) (st' := [.inl (-1), .inl (k549 : Int)]) rfl ?_
                      refine h_ieq (off := 8) (t := 143) rfl rfl (by omega) (by decide) (fun c551 => ?_) (fun c551 => ?_)
                      · refine h_run 1 (pc' := 144) (l' := [(0, .inr (.inr 1826)), (1, .inl (f : Int)), (2, .inl (aty H1 (H1.1 1852 ((H1.1 1826 47) - 1).toNat) (H1.1 1853 ((H1.1 1826 47) - 1).toNat)))]) (st' := [.inr (.inr 1826)]) rfl ?_
                        have g552 : -2147483648 ≤ (H1.1 1826 40) ∧ (H1.1 1826 40) ≤ 2147483647 := hrg1.1 1826 13 40 _ .int rfl rfl
                        by_cases b553 : (H1.1 1826 40) = 40
                        · refine h_cv (i := 344) (j := 168) (b := 1826) (M' := mt_168) (xs := []) (rest := []) rfl rfl rfl rfl rfl rfl (Nat.le_of_ble_eq_true rfl) (Nat.le_of_ble_eq_true rfl) (by omega) (m_countB (by omega) (by omega : (H1.1 1826 35) = 0) (by omega : (H1.1 1826 40) = 40)) ?_
                          rintro _ _ ⟨rfl, rfl⟩
                          refine h_run 0 (pc' := 147) (l' := [(0, .inr (.inr 1826)), (1, .inl (f : Int)), (2, .inl (aty H1 (H1.1 1852 ((H1.1 1826 47) - 1).toNat) (H1.1 1853 ((H1.1 1826 47) - 1).toNat)))]) (st' := []) rfl ?_
                          refine h_run 1 (pc' := 148) (l' := [(0, .inr (.inr 1826)), (1, .inl (f : Int)), (2, .inl (aty H1 (H1.1 1852 ((H1.1 1826 47) - 1).toNat) (H1.1 1853 ((H1.1 1826 47) - 1).toNat)))]) (st' := [.inr (.inr 1826)]) rfl ?_
                          refine h_cv (i := 293) (j := 158) (b := 1826) (M' := mt_158) (xs := []) (rest := []) rfl rfl rfl rfl rfl rfl (Nat.le_of_ble_eq_true rfl) (Nat.le_of_ble_eq_true rfl) (by omega) (m_good0 (by omega) (by omega : (5 : Int) ≠ 0)) ?_
                          rintro _ _ ⟨rfl, rfl⟩
                          refine h_run 0 (pc' := 151) (l' := [(0, .inr (.inr 1826)), (1, .inl (f : Int)), (2, .inl (aty H1 (H1.1 1852 ((H1.1 1826 47) - 1).toNat) (H1.1 1853 ((H1.1 1826 47) - 1).toNat)))]) (st' := [.inl 0]) rfl ?_
                          refine h_zeq (off := 113) (t := 264) rfl rfl (by decide) (fun _ => ?_) (fun c => absurd c (by decide))
                          refine h_run 1 (pc' := 22) (l' := [(0, .inr (.inr 1826)), (1, .inl (f : Int)), (2, .inl (aty H1 (H1.1 1852 ((H1.1 1826 47) - 1).toNat) (H1.1 1853 ((H1.1 1826 47) - 1).toNat)))]) (st' := []) rfl ?_
                          have g554 : -2147483648 ≤ (H1.1 1826 30) ∧ (H1.1 1826 30) ≤ 2147483647 := hrg1.1 1826 13 30 _ .int rfl rfl
                          have g555 : -2147483648 ≤ (H1.1 1826 32) ∧ (H1.1 1826 32) ≤ 2147483647 := hrg1.1 1826 13 32 _ .int rfl rfl
                          have g556 : -2147483648 ≤ (H1.1 1826 29) ∧ (H1.1 1826 29) ≤ 2147483647 := hrg1.1 1826 13 29 _ .int rfl rfl
                          have e557 : (H1.1 1826 29) = (H.1 1826 29) := hf.2.2 29 (by decide)
                          have g558 : -2147483648 ≤ (H1.1 1826 41) ∧ (H1.1 1826 41) ≤ 2147483647 := hrg1.1 1826 13 41 _ .int rfl rfl
                          refine h_loc [0, 1] rfl ?_
                          exact ih _ (fr_o (fr_o (fr_o hf (by decide)) (by decide)) (by decide)) (by omega : (H.1 1826 30) ≤ (H1.1 1826 30) ∧ (H1.1 1826 30) ≤ (H.1 1826 29)) (by omega : 0 ≤ (5 : Int) ∧ (5 : Int) ≤ 5) (by omega : 0 ≤ (H1.1 1826 32) ∧ (H1.1 1826 32) ≤ 1000) (by omega : (H.1 1826 35) ≠ 0 → (5 : Int) ≠ 0) (fun (q : (5 : Int) = 0) => absurd q (by omega)) (mu_lt hw (by omega) (by omega : (5 : Int) ≠ 0 ∨ ((H1.1 1826 30) ≤ (H1.1 1826 30) ∧ (H1.1 1826 30) ≤ (H.1 1826 29) ∧ (((H1.1 1826 31) = 0 ∧ (H1.1 1826 31) ≠ 0) ∨ (H1.1 1826 30) < (H1.1 1826 30)))))
                        · refine h_cv (i := 344) (j := 168) (b := 1826) (M' := mt_168) (xs := []) (rest := []) rfl rfl rfl rfl rfl rfl (Nat.le_of_ble_eq_true rfl) (Nat.le_of_ble_eq_true rfl) (by omega) (m_countA (by omega) (by omega : (H1.1 1826 35) = 0) (by omega : 0 ≤ (H1.1 1826 40) ∧ (H1.1 1826 40) ≤ 1000) (by omega : (H1.1 1826 40) ≠ 40)) ?_
                          rintro _ _ ⟨rfl, rfl⟩
                          refine h_run 0 (pc' := 147) (l' := [(0, .inr (.inr 1826)), (1, .inl (f : Int)), (2, .inl (aty H1 (H1.1 1852 ((H1.1 1826 47) - 1).toNat) (H1.1 1853 ((H1.1 1826 47) - 1).toNat)))]) (st' := []) rfl ?_
                          refine h_run 1 (pc' := 148) (l' := [(0, .inr (.inr 1826)), (1, .inl (f : Int)), (2, .inl (aty H1 (H1.1 1852 ((H1.1 1826 47) - 1).toNat) (H1.1 1853 ((H1.1 1826 47) - 1).toNat)))]) (st' := [.inr (.inr 1826)]) rfl ?_
                          refine h_cv (i := 293) (j := 158) (b := 1826) (M' := mt_158) (xs := []) (rest := []) rfl rfl rfl rfl rfl rfl (Nat.le_of_ble_eq_true rfl) (Nat.le_of_ble_eq_true rfl) (by omega) (m_good1 (by omega) (by omega : (H1.1 1826 35) = 0)) ?_
                          rintro _ _ ⟨rfl, rfl⟩
                          refine h_run 0 (pc' := 151) (l' := [(0, .inr (.inr 1826)), (1, .inl (f : Int)), (2, .inl (aty H1 (H1.1 1852 ((H1.1 1826 47) - 1).toNat) (H1.1 1853 ((H1.1 1826 47) - 1).toNat)))]) (st' := [.inl 1]) rfl ?_
                          refine h_zeq (off := 113) (t := 264) rfl rfl (by decide) (fun c => absurd c (by decide)) (fun _ => ?_)
                          refine h_run 4 (pc' := 160) (l' := [(0, .inr (.inr 1826)), (1, .inl (f : Int)), (2, .inl (aty H1 (H1.1 1852 ((H1.1 1826 47) - 1).toNat) (H1.1 1853 ((H1.1 1826 47) - 1).toNat)))]) (st' := [.inl (aty H1 (H1.1 1852 ((H1.1 1826 47) - 1).toNat) (H1.1 1853 ((H1.1 1826 47) - 1).toNat)), .inr (.inr 1826), .inl 1000, .inr (.inr 1826)]) rfl ?_
                          refine h_cv (i := 347) (j := 177) (b := 1826) (M' := mt_177) (xs := [.inl (aty H1 (H1.1 1852 ((H1.1 1826 47) - 1).toNat) (H1.1 1853 ((H1.1 1826 47) - 1).toNat))]) (rest := [.inl 1000, .inr (.inr 1826)]) rfl rfl rfl rfl rfl rfl (Nat.le_of_ble_eq_true rfl) (Nat.le_of_ble_eq_true rfl) (by omega) (m_addVariable (by omega) (by omega : 0 ≤ (H1.1 1826 39) ∧ (H1.1 1826 39) ≤ 47) (by omega)) ?_
                          rintro _ _ ⟨rfl, rfl⟩
                          refine h_run 0 (pc' := 163) (l' := [(0, .inr (.inr 1826)), (1, .inl (f : Int)), (2, .inl (aty H1 (H1.1 1852 ((H1.1 1826 47) - 1).toNat) (H1.1 1853 ((H1.1 1826 47) - 1).toNat)))]) (st' := [.inl (((H1.1 1826 39) + 1) - 1), .inl 1000, .inr (.inr 1826)]) rfl ?_
                          refine h_run 1 (pc' := 164) (l' := [(0, .inr (.inr 1826)), (1, .inl (f : Int)), (2, .inl (aty H1 (H1.1 1852 ((H1.1 1826 47) - 1).toNat) (H1.1 1853 ((H1.1 1826 47) - 1).toNat)))]) (st' := [.inl (1000 + (((H1.1 1826 39) + 1) - 1)), .inr (.inr 1826)]) rfl ?_
                          have g559 : -2147483648 ≤ (H1.1 1826 43) ∧ (H1.1 1826 43) ≤ 2147483647 := hrg1.1 1826 13 43 _ .int rfl rfl
                          refine h_cv (i := 350) (j := 169) (b := 1826) (M' := mt_169) (xs := [.inl (1000 + (((H1.1 1826 39) + 1) - 1))]) (rest := []) rfl rfl rfl rfl rfl rfl (Nat.le_of_ble_eq_true rfl) (Nat.le_of_ble_eq_true rfl) (by omega) (m_put1 (by omega) (by omega : (H1.1 1826 35) = 0) (by omega : 0 ≤ (H1.1 1826 43) ∧ (H1.1 1826 43) ≤ 47) (by omega)) ?_
                          rintro _ _ ⟨rfl, rfl⟩
                          refine h_run 0 (pc' := 167) (l' := [(0, .inr (.inr 1826)), (1, .inl (f : Int)), (2, .inl (aty H1 (H1.1 1852 ((H1.1 1826 47) - 1).toNat) (H1.1 1853 ((H1.1 1826 47) - 1).toNat)))]) (st' := []) rfl ?_
                          refine h_run 4 (pc' := 175) (l' := [(0, .inr (.inr 1826)), (1, .inl (f : Int)), (2, .inl (aty H1 (H1.1 1852 ((H1.1 1826 47) - 1).toNat) (H1.1 1853 ((H1.1 1826 47) - 1).toNat)))]) (st' := [.inl (H1.1 1826 47), .inr (.inr 1853)]) rfl ?_
                          refine h_run 3 (pc' := 178) (l' := [(0, .inr (.inr 1826)), (1, .inl (f : Int)), (2, .inl (aty H1 (H1.1 1852 ((H1.1 1826 47) - 1).toNat) (H1.1 1853 ((H1.1 1826 47) - 1).toNat)))]) (st' := [.inl ((H1.1 1826 47) - 1), .inr (.inr 1853), .inl ((H1.1 1826 47) - 1), .inr (.inr 1853)]) rfl ?_
                          refine h_ild (c := 1853) (j := (((H1.1 1826 47) - 1)).toNat) (i := ((H1.1 1826 47) - 1)) rfl rfl (by decide) (by omega) (by omega) ?_
                          have g560 : -2147483648 ≤ (H1.1 1853 (((H1.1 1826 47) - 1)).toNat) ∧ (H1.1 1853 (((H1.1 1826 47) - 1)).toNat) ≤ 2147483647 := hrg1.2 1853 (((H1.1 1826 47) - 1)).toNat 64 .int rfl (by omega)
                          refine h_run 0 (pc' := 179) (l' := [(0, .inr (.inr 1826)), (1, .inl (f : Int)), (2, .inl (aty H1 (H1.1 1852 ((H1.1 1826 47) - 1).toNat) (H1.1 1853 ((H1.1 1826 47) - 1).toNat)))]) (st' := [.inl (H1.1 1853 (((H1.1 1826 47) - 1)).toNat), .inl ((H1.1 1826 47) - 1), .inr (.inr 1853)]) rfl ?_
                          refine h_run 2 (pc' := 181) (l' := [(0, .inr (.inr 1826)), (1, .inl (f : Int)), (2, .inl (aty H1 (H1.1 1852 ((H1.1 1826 47) - 1).toNat) (H1.1 1853 ((H1.1 1826 47) - 1).toNat)))]) (st' := [.inl ((H1.1 1853 (((H1.1 1826 47) - 1)).toNat) + 1), .inl ((H1.1 1826 47) - 1), .inr (.inr 1853)]) rfl ?_
                          refine h_ist (c := 1853) (j := (((H1.1 1826 47) - 1)).toNat) (i := ((H1.1 1826 47) - 1)) (x := ((H1.1 1853 (((H1.1 1826 47) - 1)).toNat) + 1)) rfl rfl (by decide) (by decide) (by omega) (by omega) (by omega) ?_
                          refine h_run 1 (pc' := 183) (l' := [(0, .inr (.inr 1826)), (1, .inl (f : Int)), (2, .inl (aty H1 (H1.1 1852 ((H1.1 1826 47) - 1).toNat) (H1.1 1853 ((H1.1 1826 47) - 1).toNat)))]) (st' := [.inr (.inr 1826)]) rfl ?_
                          have g561 : -2147483648 ≤ (H1.1 1826 30) ∧ (H1.1 1826 30) ≤ 2147483647 := hrg1.1 1826 13 30 _ .int rfl rfl
                          have g562 : -2147483648 ≤ (H1.1 1826 29) ∧ (H1.1 1826 29) ≤ 2147483647 := hrg1.1 1826 13 29 _ .int rfl rfl
                          have e563 : (H1.1 1826 29) = (H.1 1826 29) := hf.2.2 29 (by decide)
                          have g564 : -2147483648 ≤ (H1.1 1826 32) ∧ (H1.1 1826 32) ≤ 2147483647 := hrg1.1 1826 13 32 _ .int rfl rfl
                          refine h_cv (i := 297) (j := 165) (b := 1826) (M' := mt_165) (xs := []) (rest := []) rfl rfl rfl rfl rfl rfl (Nat.le_of_ble_eq_true rfl) (Nat.le_of_ble_eq_true rfl) (by omega) (m_next (by omega) (by omega : 0 ≤ (H1.1 1826 30) ∧ (H1.1 1826 30) ≤ (H1.1 1826 29) ∧ (H1.1 1826 29) ≤ 1000) (by omega : 0 ≤ (H1.1 1826 35) ∧ (H1.1 1826 35) ≤ 5) (by omega : 0 ≤ (H1.1 1826 32) ∧ (H1.1 1826 32) ≤ 1000)) ?_
                          rintro _ H565 ⟨rfl, hx565f, hx565a, hx565b, hx565c, -, hx565e, hx565g⟩
                          refine h_rng (fun hrg566 => ?_)
                          have hf567 : fr [30, 31, 32, 33, 35, 36, 39, 40, 41, 43, 47] [1849, 1850, 1851, 1852, 1853] H H565 := fr_t (fr_a (fr_o (fr_a (fr_o (fr_a (fr_a (fr_o hf (by decide)) (by decide)) (by decide)) (by decide)) (by decide)) (by decide)) (by decide)) hx565f (by decide) (by decide)
                          replace hx565a : (H1.1 1826 30) ≤ (H565.1 1826 30) := hx565a
                          replace hx565b : (H565.1 1826 30) ≤ (H1.1 1826 29) := hx565b
                          replace hx565g : (H565.1 1826 35) = 0 → ((H565.1 1826 31) = 0 ∨ (H1.1 1826 30) < (H565.1 1826 30)) := hx565g
                          refine h_run 0 (pc' := 186) (l' := [(0, .inr (.inr 1826)), (1, .inl (f : Int)), (2, .inl (aty H1 (H1.1 1852 ((H1.1 1826 47) - 1).toNat) (H1.1 1853 ((H1.1 1826 47) - 1).toNat)))]) (st' := []) rfl ?_
                          refine h_run 2 (pc' := 22) (l' := [(0, .inr (.inr 1826)), (1, .inl (f : Int)), (2, .inl (aty H1 (H1.1 1852 ((H1.1 1826 47) - 1).toNat) (H1.1 1853 ((H1.1 1826 47) - 1).toNat)))]) (st' := []) rfl ?_
                          have g568 : -2147483648 ≤ (H565.1 1826 30) ∧ (H565.1 1826 30) ≤ 2147483647 := hrg566.1 1826 13 30 _ .int rfl rfl
                          have g569 : -2147483648 ≤ (H565.1 1826 35) ∧ (H565.1 1826 35) ≤ 2147483647 := hrg566.1 1826 13 35 _ .int rfl rfl
                          have g570 : -2147483648 ≤ (H565.1 1826 32) ∧ (H565.1 1826 32) ≤ 2147483647 := hrg566.1 1826 13 32 _ .int rfl rfl
                          have g571 : -2147483648 ≤ (H565.1 1826 31) ∧ (H565.1 1826 31) ≤ 2147483647 := hrg566.1 1826 13 31 _ .int rfl rfl
                          have g572 : -2147483648 ≤ (H565.1 1826 29) ∧ (H565.1 1826 29) ≤ 2147483647 := hrg566.1 1826 13 29 _ .int rfl rfl
                          have e573 : (H565.1 1826 29) = (H1.1 1826 29) := hx565f.2.2 29 (by decide)
                          have g574 : -2147483648 ≤ (H565.1 1826 47) ∧ (H565.1 1826 47) ≤ 2147483647 := hrg566.1 1826 13 47 _ .int rfl rfl
                          have e575 : (H565.1 1826 47) = (H1.1 1826 47) := hx565f.2.2 47 (by decide)
                          have g576 : -2147483648 ≤ (H565.1 1826 41) ∧ (H565.1 1826 41) ≤ 2147483647 := hrg566.1 1826 13 41 _ .int rfl rfl
                          have e577 : (H565.1 1826 41) = (H1.1 1826 41) := hx565f.2.2 41 (by decide)
                          refine h_loc [0, 1] rfl ?_
                          exact ih _ hf567 (by omega : (H.1 1826 30) ≤ (H565.1 1826 30) ∧ (H565.1 1826 30) ≤ (H.1 1826 29)) (by omega : 0 ≤ (H565.1 1826 35) ∧ (H565.1 1826 35) ≤ 5) (by omega : 0 ≤ (H565.1 1826 32) ∧ (H565.1 1826 32) ≤ 1000) (by omega : (H.1 1826 35) ≠ 0 → (H565.1 1826 35) ≠ 0) (fun _ => PT_step (q := 0) hPT1 (Or.inr ⟨(by omega : 1000 ≤ 1000 + ((H1.1 1826 39) + 1 - 1)), by omega⟩) (ma_0 (by omega)) (by omega) hno (hx565f.2.1 1833 (by decide) (by decide)) (hx565f.2.1 1830 (by decide) (by decide)) ⟨hx565f.2.2 3 (by decide), hx565f.2.2 8 (by decide)⟩ (by omega) ⟨hx565f.2.2 40 (by decide), hx565f.2.2 43 (by decide)⟩ (hx565f.2.1 1851 (by decide) (by decide)) (Or.inr ⟨hx565f.2.2 39 (by decide), by omega⟩) (Or.inl ⟨rfl, hx565f.2.2 47 (by decide), hx565f.2.2 41 (by decide), hx565f.2.1 1852 (by decide) (by decide), by rw [← hidx]; exact hx565f.2.1 1853 (by decide) (by decide)⟩)) (mu_lt hw (by omega) (by omega : (H565.1 1826 35) ≠ 0 ∨ ((H1.1 1826 30) ≤ (H565.1 1826 30) ∧ (H565.1 1826 30) ≤ (H.1 1826 29) ∧ (((H565.1 1826 31) = 0 ∧ (H1.1 1826 31) ≠ 0) ∨ (H1.1 1826 30) < (H565.1 1826 30)))))
                      · refine h_run 2 (pc' := 140) (l' := [(0, .inr (.inr 1826)), (1, .inl (f : Int)), (2, .inl (aty H1 (H1.1 1852 ((H1.1 1826 47) - 1).toNat) (H1.1 1853 ((H1.1 1826 47) - 1).toNat)))]) (st' := [.inl 3, .inr (.inr 1826)]) rfl ?_
                        refine h_cv (i := 278) (j := 159) (b := 1826) (M' := mt_159) (xs := [.inl 3]) (rest := []) rfl rfl rfl rfl rfl rfl (Nat.le_of_ble_eq_true rfl) (Nat.le_of_ble_eq_true rfl) (by omega) (m_bad0 (by omega) (by omega) (by omega : (H1.1 1826 35) = 0)) ?_
                        rintro _ _ ⟨rfl, rfl⟩
                        refine h_run 0 (pc' := 143) (l' := [(0, .inr (.inr 1826)), (1, .inl (f : Int)), (2, .inl (aty H1 (H1.1 1852 ((H1.1 1826 47) - 1).toNat) (H1.1 1853 ((H1.1 1826 47) - 1).toNat)))]) (st' := []) rfl ?_
                        refine h_run 1 (pc' := 144) (l' := [(0, .inr (.inr 1826)), (1, .inl (f : Int)), (2, .inl (aty H1 (H1.1 1852 ((H1.1 1826 47) - 1).toNat) (H1.1 1853 ((H1.1 1826 47) - 1).toNat)))]) (st' := [.inr (.inr 1826)]) rfl ?_
                        have g578 : -2147483648 ≤ (H1.1 1826 40) ∧ (H1.1 1826 40) ≤ 2147483647 := hrg1.1 1826 13 40 _ .int rfl rfl
                        refine h_cv (i := 344) (j := 168) (b := 1826) (M' := mt_168) (xs := []) (rest := []) rfl rfl rfl rfl rfl rfl (Nat.le_of_ble_eq_true rfl) (Nat.le_of_ble_eq_true rfl) (by omega) (m_countC (by omega) (by omega : (3 : Int) ≠ 0) (by omega : 0 ≤ (H1.1 1826 40) ∧ (H1.1 1826 40) ≤ 1000)) ?_
                        rintro _ _ ⟨rfl, rfl⟩
                        refine h_run 0 (pc' := 147) (l' := [(0, .inr (.inr 1826)), (1, .inl (f : Int)), (2, .inl (aty H1 (H1.1 1852 ((H1.1 1826 47) - 1).toNat) (H1.1 1853 ((H1.1 1826 47) - 1).toNat)))]) (st' := []) rfl ?_
                        refine h_run 1 (pc' := 148) (l' := [(0, .inr (.inr 1826)), (1, .inl (f : Int)), (2, .inl (aty H1 (H1.1 1852 ((H1.1 1826 47) - 1).toNat) (H1.1 1853 ((H1.1 1826 47) - 1).toNat)))]) (st' := [.inr (.inr 1826)]) rfl ?_
                        refine h_cv (i := 293) (j := 158) (b := 1826) (M' := mt_158) (xs := []) (rest := []) rfl rfl rfl rfl rfl rfl (Nat.le_of_ble_eq_true rfl) (Nat.le_of_ble_eq_true rfl) (by omega) (m_good0 (by omega) (by omega : (3 : Int) ≠ 0)) ?_
                        rintro _ _ ⟨rfl, rfl⟩
                        refine h_run 0 (pc' := 151) (l' := [(0, .inr (.inr 1826)), (1, .inl (f : Int)), (2, .inl (aty H1 (H1.1 1852 ((H1.1 1826 47) - 1).toNat) (H1.1 1853 ((H1.1 1826 47) - 1).toNat)))]) (st' := [.inl 0]) rfl ?_
                        refine h_zeq (off := 113) (t := 264) rfl rfl (by decide) (fun _ => ?_) (fun c => absurd c (by decide))
                        refine h_run 1 (pc' := 22) (l' := [(0, .inr (.inr 1826)), (1, .inl (f : Int)), (2, .inl (aty H1 (H1.1 1852 ((H1.1 1826 47) - 1).toNat) (H1.1 1853 ((H1.1 1826 47) - 1).toNat)))]) (st' := []) rfl ?_
                        have g579 : -2147483648 ≤ (H1.1 1826 30) ∧ (H1.1 1826 30) ≤ 2147483647 := hrg1.1 1826 13 30 _ .int rfl rfl
                        have g580 : -2147483648 ≤ (H1.1 1826 32) ∧ (H1.1 1826 32) ≤ 2147483647 := hrg1.1 1826 13 32 _ .int rfl rfl
                        have g581 : -2147483648 ≤ (H1.1 1826 29) ∧ (H1.1 1826 29) ≤ 2147483647 := hrg1.1 1826 13 29 _ .int rfl rfl
                        have e582 : (H1.1 1826 29) = (H.1 1826 29) := hf.2.2 29 (by decide)
                        have g583 : -2147483648 ≤ (H1.1 1826 41) ∧ (H1.1 1826 41) ≤ 2147483647 := hrg1.1 1826 13 41 _ .int rfl rfl
                        refine h_loc [0, 1] rfl ?_
                        exact ih _ (fr_o (fr_o (fr_o hf (by decide)) (by decide)) (by decide)) (by omega : (H.1 1826 30) ≤ (H1.1 1826 30) ∧ (H1.1 1826 30) ≤ (H.1 1826 29)) (by omega : 0 ≤ (3 : Int) ∧ (3 : Int) ≤ 5) (by omega : 0 ≤ (H1.1 1826 32) ∧ (H1.1 1826 32) ≤ 1000) (by omega : (H.1 1826 35) ≠ 0 → (3 : Int) ≠ 0) (fun (q : (3 : Int) = 0) => absurd q (by omega)) (mu_lt hw (by omega) (by omega : (3 : Int) ≠ 0 ∨ ((H1.1 1826 30) ≤ (H1.1 1826 30) ∧ (H1.1 1826 30) ≤ (H.1 1826 29) ∧ (((H1.1 1826 31) = 0 ∧ (H1.1 1826 31) ≠ 0) ∨ (H1.1 1826 30) < (H1.1 1826 30)))))
                    · refine h_run 0 (pc' := 134) (l' := [(0, .inr (.inr 1826)), (1, .inl (f : Int)), (2, .inl (aty H1 (H1.1 1852 ((H1.1 1826 47) - 1).toNat) (H1.1 1853 ((H1.1 1826 47) - 1).toNat)))]) (st' := [.inl (-1)]) rfl ?_
                      refine h_run 1 (pc' := 135) (l' := [(0, .inr (.inr 1826)), (1, .inl (f : Int)), (2, .inl (aty H1 (H1.1 1852 ((H1.1 1826 47) - 1).toNat) (H1.1 1853 ((H1.1 1826 47) - 1).toNat)))]) (st' := [.inl (-1), .inl (-1)]) rfl ?_
                      refine h_ieq (off := 8) (t := 143) rfl rfl (by decide) (by decide) (fun _ => ?_) (fun c => absurd c (by decide))
                      refine h_run 1 (pc' := 144) (l' := [(0, .inr (.inr 1826)), (1, .inl (f : Int)), (2, .inl (aty H1 (H1.1 1852 ((H1.1 1826 47) - 1).toNat) (H1.1 1853 ((H1.1 1826 47) - 1).toNat)))]) (st' := [.inr (.inr 1826)]) rfl ?_
                      have g584 : -2147483648 ≤ (H1.1 1826 40) ∧ (H1.1 1826 40) ≤ 2147483647 := hrg1.1 1826 13 40 _ .int rfl rfl
                      by_cases b585 : (H1.1 1826 40) = 40
                      · refine h_cv (i := 344) (j := 168) (b := 1826) (M' := mt_168) (xs := []) (rest := []) rfl rfl rfl rfl rfl rfl (Nat.le_of_ble_eq_true rfl) (Nat.le_of_ble_eq_true rfl) (by omega) (m_countB (by omega) (by omega : (H1.1 1826 35) = 0) (by omega : (H1.1 1826 40) = 40)) ?_
                        rintro _ _ ⟨rfl, rfl⟩
                        refine h_run 0 (pc' := 147) (l' := [(0, .inr (.inr 1826)), (1, .inl (f : Int)), (2, .inl (aty H1 (H1.1 1852 ((H1.1 1826 47) - 1).toNat) (H1.1 1853 ((H1.1 1826 47) - 1).toNat)))]) (st' := []) rfl ?_
                        refine h_run 1 (pc' := 148) (l' := [(0, .inr (.inr 1826)), (1, .inl (f : Int)), (2, .inl (aty H1 (H1.1 1852 ((H1.1 1826 47) - 1).toNat) (H1.1 1853 ((H1.1 1826 47) - 1).toNat)))]) (st' := [.inr (.inr 1826)]) rfl ?_
                        refine h_cv (i := 293) (j := 158) (b := 1826) (M' := mt_158) (xs := []) (rest := []) rfl rfl rfl rfl rfl rfl (Nat.le_of_ble_eq_true rfl) (Nat.le_of_ble_eq_true rfl) (by omega) (m_good0 (by omega) (by omega : (5 : Int) ≠ 0)) ?_
                        rintro _ _ ⟨rfl, rfl⟩
                        refine h_run 0 (pc' := 151) (l' := [(0, .inr (.inr 1826)), (1, .inl (f : Int)), (2, .inl (aty H1 (H1.1 1852 ((H1.1 1826 47) - 1).toNat) (H1.1 1853 ((H1.1 1826 47) - 1).toNat)))]) (st' := [.inl 0]) rfl ?_
                        refine h_zeq (off := 113) (t := 264) rfl rfl (by decide) (fun _ => ?_) (fun c => absurd c (by decide))
                        refine h_run 1 (pc' := 22) (l' := [(0, .inr (.inr 1826)), (1, .inl (f : Int)), (2, .inl (aty H1 (H1.1 1852 ((H1.1 1826 47) - 1).toNat) (H1.1 1853 ((H1.1 1826 47) - 1).toNat)))]) (st' := []) rfl ?_
                        have g586 : -2147483648 ≤ (H1.1 1826 30) ∧ (H1.1 1826 30) ≤ 2147483647 := hrg1.1 1826 13 30 _ .int rfl rfl
                        have g587 : -2147483648 ≤ (H1.1 1826 32) ∧ (H1.1 1826 32) ≤ 2147483647 := hrg1.1 1826 13 32 _ .int rfl rfl
                        have g588 : -2147483648 ≤ (H1.1 1826 29) ∧ (H1.1 1826 29) ≤ 2147483647 := hrg1.1 1826 13 29 _ .int rfl rfl
                        have e589 : (H1.1 1826 29) = (H.1 1826 29) := hf.2.2 29 (by decide)
                        have g590 : -2147483648 ≤ (H1.1 1826 41) ∧ (H1.1 1826 41) ≤ 2147483647 := hrg1.1 1826 13 41 _ .int rfl rfl
                        refine h_loc [0, 1] rfl ?_
                        exact ih _ (fr_o (fr_o (fr_o hf (by decide)) (by decide)) (by decide)) (by omega : (H.1 1826 30) ≤ (H1.1 1826 30) ∧ (H1.1 1826 30) ≤ (H.1 1826 29)) (by omega : 0 ≤ (5 : Int) ∧ (5 : Int) ≤ 5) (by omega : 0 ≤ (H1.1 1826 32) ∧ (H1.1 1826 32) ≤ 1000) (by omega : (H.1 1826 35) ≠ 0 → (5 : Int) ≠ 0) (fun (q : (5 : Int) = 0) => absurd q (by omega)) (mu_lt hw (by omega) (by omega : (5 : Int) ≠ 0 ∨ ((H1.1 1826 30) ≤ (H1.1 1826 30) ∧ (H1.1 1826 30) ≤ (H.1 1826 29) ∧ (((H1.1 1826 31) = 0 ∧ (H1.1 1826 31) ≠ 0) ∨ (H1.1 1826 30) < (H1.1 1826 30)))))
                      · refine h_cv (i := 344) (j := 168) (b := 1826) (M' := mt_168) (xs := []) (rest := []) rfl rfl rfl rfl rfl rfl (Nat.le_of_ble_eq_true rfl) (Nat.le_of_ble_eq_true rfl) (by omega) (m_countA (by omega) (by omega : (H1.1 1826 35) = 0) (by omega : 0 ≤ (H1.1 1826 40) ∧ (H1.1 1826 40) ≤ 1000) (by omega : (H1.1 1826 40) ≠ 40)) ?_
                        rintro _ _ ⟨rfl, rfl⟩
                        refine h_run 0 (pc' := 147) (l' := [(0, .inr (.inr 1826)), (1, .inl (f : Int)), (2, .inl (aty H1 (H1.1 1852 ((H1.1 1826 47) - 1).toNat) (H1.1 1853 ((H1.1 1826 47) - 1).toNat)))]) (st' := []) rfl ?_
                        refine h_run 1 (pc' := 148) (l' := [(0, .inr (.inr 1826)), (1, .inl (f : Int)), (2, .inl (aty H1 (H1.1 1852 ((H1.1 1826 47) - 1).toNat) (H1.1 1853 ((H1.1 1826 47) - 1).toNat)))]) (st' := [.inr (.inr 1826)]) rfl ?_
                        refine h_cv (i := 293) (j := 158) (b := 1826) (M' := mt_158) (xs := []) (rest := []) rfl rfl rfl rfl rfl rfl (Nat.le_of_ble_eq_true rfl) (Nat.le_of_ble_eq_true rfl) (by omega) (m_good1 (by omega) (by omega : (H1.1 1826 35) = 0)) ?_
                        rintro _ _ ⟨rfl, rfl⟩
                        refine h_run 0 (pc' := 151) (l' := [(0, .inr (.inr 1826)), (1, .inl (f : Int)), (2, .inl (aty H1 (H1.1 1852 ((H1.1 1826 47) - 1).toNat) (H1.1 1853 ((H1.1 1826 47) - 1).toNat)))]) (st' := [.inl 1]) rfl ?_
                        refine h_zeq (off := 113) (t := 264) rfl rfl (by decide) (fun c => absurd c (by decide)) (fun _ => ?_)
                        refine h_run 4 (pc' := 160) (l' := [(0, .inr (.inr 1826)), (1, .inl (f : Int)), (2, .inl (aty H1 (H1.1 1852 ((H1.1 1826 47) - 1).toNat) (H1.1 1853 ((H1.1 1826 47) - 1).toNat)))]) (st' := [.inl (aty H1 (H1.1 1852 ((H1.1 1826 47) - 1).toNat) (H1.1 1853 ((H1.1 1826 47) - 1).toNat)), .inr (.inr 1826), .inl 1000, .inr (.inr 1826)]) rfl ?_
                        refine h_cv (i := 347) (j := 177) (b := 1826) (M' := mt_177) (xs := [.inl (aty H1 (H1.1 1852 ((H1.1 1826 47) - 1).toNat) (H1.1 1853 ((H1.1 1826 47) - 1).toNat))]) (rest := [.inl 1000, .inr (.inr 1826)]) rfl rfl rfl rfl rfl rfl (Nat.le_of_ble_eq_true rfl) (Nat.le_of_ble_eq_true rfl) (by omega) (m_addVariable (by omega) (by omega : 0 ≤ (H1.1 1826 39) ∧ (H1.1 1826 39) ≤ 47) (by omega)) ?_
                        rintro _ _ ⟨rfl, rfl⟩
                        refine h_run 0 (pc' := 163) (l' := [(0, .inr (.inr 1826)), (1, .inl (f : Int)), (2, .inl (aty H1 (H1.1 1852 ((H1.1 1826 47) - 1).toNat) (H1.1 1853 ((H1.1 1826 47) - 1).toNat)))]) (st' := [.inl (((H1.1 1826 39) + 1) - 1), .inl 1000, .inr (.inr 1826)]) rfl ?_
                        refine h_run 1 (pc' := 164) (l' := [(0, .inr (.inr 1826)), (1, .inl (f : Int)), (2, .inl (aty H1 (H1.1 1852 ((H1.1 1826 47) - 1).toNat) (H1.1 1853 ((H1.1 1826 47) - 1).toNat)))]) (st' := [.inl (1000 + (((H1.1 1826 39) + 1) - 1)), .inr (.inr 1826)]) rfl ?_
                        have g591 : -2147483648 ≤ (H1.1 1826 43) ∧ (H1.1 1826 43) ≤ 2147483647 := hrg1.1 1826 13 43 _ .int rfl rfl
                        refine h_cv (i := 350) (j := 169) (b := 1826) (M' := mt_169) (xs := [.inl (1000 + (((H1.1 1826 39) + 1) - 1))]) (rest := []) rfl rfl rfl rfl rfl rfl (Nat.le_of_ble_eq_true rfl) (Nat.le_of_ble_eq_true rfl) (by omega) (m_put1 (by omega) (by omega : (H1.1 1826 35) = 0) (by omega : 0 ≤ (H1.1 1826 43) ∧ (H1.1 1826 43) ≤ 47) (by omega)) ?_
                        rintro _ _ ⟨rfl, rfl⟩
                        refine h_run 0 (pc' := 167) (l' := [(0, .inr (.inr 1826)), (1, .inl (f : Int)), (2, .inl (aty H1 (H1.1 1852 ((H1.1 1826 47) - 1).toNat) (H1.1 1853 ((H1.1 1826 47) - 1).toNat)))]) (st' := []) rfl ?_
                        refine h_run 4 (pc' := 175) (l' := [(0, .inr (.inr 1826)), (1, .inl (f : Int)), (2, .inl (aty H1 (H1.1 1852 ((H1.1 1826 47) - 1).toNat) (H1.1 1853 ((H1.1 1826 47) - 1).toNat)))]) (st' := [.inl (H1.1 1826 47), .inr (.inr 1853)]) rfl ?_
                        refine h_run 3 (pc' := 178) (l' := [(0, .inr (.inr 1826)), (1, .inl (f : Int)), (2, .inl (aty H1 (H1.1 1852 ((H1.1 1826 47) - 1).toNat) (H1.1 1853 ((H1.1 1826 47) - 1).toNat)))]) (st' := [.inl ((H1.1 1826 47) - 1), .inr (.inr 1853), .inl ((H1.1 1826 47) - 1), .inr (.inr 1853)]) rfl ?_
                        refine h_ild (c := 1853) (j := (((H1.1 1826 47) - 1)).toNat) (i := ((H1.1 1826 47) - 1)) rfl rfl (by decide) (by omega) (by omega) ?_
                        have g592 : -2147483648 ≤ (H1.1 1853 (((H1.1 1826 47) - 1)).toNat) ∧ (H1.1 1853 (((H1.1 1826 47) - 1)).toNat) ≤ 2147483647 := hrg1.2 1853 (((H1.1 1826 47) - 1)).toNat 64 .int rfl (by omega)
                        refine h_run 0 (pc' := 179) (l' := [(0, .inr (.inr 1826)), (1, .inl (f : Int)), (2, .inl (aty H1 (H1.1 1852 ((H1.1 1826 47) - 1).toNat) (H1.1 1853 ((H1.1 1826 47) - 1).toNat)))]) (st' := [.inl (H1.1 1853 (((H1.1 1826 47) - 1)).toNat), .inl ((H1.1 1826 47) - 1), .inr (.inr 1853)]) rfl ?_
                        refine h_run 2 (pc' := 181) (l' := [(0, .inr (.inr 1826)), (1, .inl (f : Int)), (2, .inl (aty H1 (H1.1 1852 ((H1.1 1826 47) - 1).toNat) (H1.1 1853 ((H1.1 1826 47) - 1).toNat)))]) (st' := [.inl ((H1.1 1853 (((H1.1 1826 47) - 1)).toNat) + 1), .inl ((H1.1 1826 47) - 1), .inr (.inr 1853)]) rfl ?_
                        refine h_ist (c := 1853) (j := (((H1.1 1826 47) - 1)).toNat) (i := ((H1.1 1826 47) - 1)) (x := ((H1.1 1853 (((H1.1 1826 47) - 1)).toNat) + 1)) rfl rfl (by decide) (by decide) (by omega) (by omega) (by omega) ?_
                        refine h_run 1 (pc' := 183) (l' := [(0, .inr (.inr 1826)), (1, .inl (f : Int)), (2, .inl (aty H1 (H1.1 1852 ((H1.1 1826 47) - 1).toNat) (H1.1 1853 ((H1.1 1826 47) - 1).toNat)))]) (st' := [.inr (.inr 1826)]) rfl ?_
                        have g593 : -2147483648 ≤ (H1.1 1826 30) ∧ (H1.1 1826 30) ≤ 2147483647 := hrg1.1 1826 13 30 _ .int rfl rfl
                        have g594 : -2147483648 ≤ (H1.1 1826 29) ∧ (H1.1 1826 29) ≤ 2147483647 := hrg1.1 1826 13 29 _ .int rfl rfl
                        have e595 : (H1.1 1826 29) = (H.1 1826 29) := hf.2.2 29 (by decide)
                        have g596 : -2147483648 ≤ (H1.1 1826 32) ∧ (H1.1 1826 32) ≤ 2147483647 := hrg1.1 1826 13 32 _ .int rfl rfl
                        refine h_cv (i := 297) (j := 165) (b := 1826) (M' := mt_165) (xs := []) (rest := []) rfl rfl rfl rfl rfl rfl (Nat.le_of_ble_eq_true rfl) (Nat.le_of_ble_eq_true rfl) (by omega) (m_next (by omega) (by omega : 0 ≤ (H1.1 1826 30) ∧ (H1.1 1826 30) ≤ (H1.1 1826 29) ∧ (H1.1 1826 29) ≤ 1000) (by omega : 0 ≤ (H1.1 1826 35) ∧ (H1.1 1826 35) ≤ 5) (by omega : 0 ≤ (H1.1 1826 32) ∧ (H1.1 1826 32) ≤ 1000)) ?_
                        rintro _ H597 ⟨rfl, hx597f, hx597a, hx597b, hx597c, -, hx597e, hx597g⟩
                        refine h_rng (fun hrg598 => ?_)
                        have hf599 : fr [30, 31, 32, 33, 35, 36, 39, 40, 41, 43, 47] [1849, 1850, 1851, 1852, 1853] H H597 := fr_t (fr_a (fr_o (fr_a (fr_o (fr_a (fr_a (fr_o hf (by decide)) (by decide)) (by decide)) (by decide)) (by decide)) (by decide)) (by decide)) hx597f (by decide) (by decide)
                        replace hx597a : (H1.1 1826 30) ≤ (H597.1 1826 30) := hx597a
                        replace hx597b : (H597.1 1826 30) ≤ (H1.1 1826 29) := hx597b
                        replace hx597g : (H597.1 1826 35) = 0 → ((H597.1 1826 31) = 0 ∨ (H1.1 1826 30) < (H597.1 1826 30)) := hx597g
                        refine h_run 0 (pc' := 186) (l' := [(0, .inr (.inr 1826)), (1, .inl (f : Int)), (2, .inl (aty H1 (H1.1 1852 ((H1.1 1826 47) - 1).toNat) (H1.1 1853 ((H1.1 1826 47) - 1).toNat)))]) (st' := []) rfl ?_
                        refine h_run 2 (pc' := 22) (l' := [(0, .inr (.inr 1826)), (1, .inl (f : Int)), (2, .inl (aty H1 (H1.1 1852 ((H1.1 1826 47) - 1).toNat) (H1.1 1853 ((H1.1 1826 47) - 1).toNat)))]) (st' := []) rfl ?_
                        have g600 : -2147483648 ≤ (H597.1 1826 30) ∧ (H597.1 1826 30) ≤ 2147483647 := hrg598.1 1826 13 30 _ .int rfl rfl
                        have g601 : -2147483648 ≤ (H597.1 1826 35) ∧ (H597.1 1826 35) ≤ 2147483647 := hrg598.1 1826 13 35 _ .int rfl rfl
                        have g602 : -2147483648 ≤ (H597.1 1826 32) ∧ (H597.1 1826 32) ≤ 2147483647 := hrg598.1 1826 13 32 _ .int rfl rfl
                        have g603 : -2147483648 ≤ (H597.1 1826 31) ∧ (H597.1 1826 31) ≤ 2147483647 := hrg598.1 1826 13 31 _ .int rfl rfl
                        have g604 : -2147483648 ≤ (H597.1 1826 29) ∧ (H597.1 1826 29) ≤ 2147483647 := hrg598.1 1826 13 29 _ .int rfl rfl
                        have e605 : (H597.1 1826 29) = (H1.1 1826 29) := hx597f.2.2 29 (by decide)
                        have g606 : -2147483648 ≤ (H597.1 1826 47) ∧ (H597.1 1826 47) ≤ 2147483647 := hrg598.1 1826 13 47 _ .int rfl rfl
                        have e607 : (H597.1 1826 47) = (H1.1 1826 47) := hx597f.2.2 47 (by decide)
                        have g608 : -2147483648 ≤ (H597.1 1826 41) ∧ (H597.1 1826 41) ≤ 2147483647 := hrg598.1 1826 13 41 _ .int rfl rfl
                        have e609 : (H597.1 1826 41) = (H1.1 1826 41) := hx597f.2.2 41 (by decide)
                        refine h_loc [0, 1] rfl ?_
                        exact ih _ hf599 (by omega : (H.1 1826 30) ≤ (H597.1 1826 30) ∧ (H597.1 1826 30) ≤ (H.1 1826 29)) (by omega : 0 ≤ (H597.1 1826 35) ∧ (H597.1 1826 35) ≤ 5) (by omega : 0 ≤ (H597.1 1826 32) ∧ (H597.1 1826 32) ≤ 1000) (by omega : (H.1 1826 35) ≠ 0 → (H597.1 1826 35) ≠ 0) (fun _ => PT_step (q := 0) hPT1 (Or.inr ⟨(by omega : 1000 ≤ 1000 + ((H1.1 1826 39) + 1 - 1)), by omega⟩) (ma_0 (by omega)) (by omega) hno (hx597f.2.1 1833 (by decide) (by decide)) (hx597f.2.1 1830 (by decide) (by decide)) ⟨hx597f.2.2 3 (by decide), hx597f.2.2 8 (by decide)⟩ (by omega) ⟨hx597f.2.2 40 (by decide), hx597f.2.2 43 (by decide)⟩ (hx597f.2.1 1851 (by decide) (by decide)) (Or.inr ⟨hx597f.2.2 39 (by decide), by omega⟩) (Or.inl ⟨rfl, hx597f.2.2 47 (by decide), hx597f.2.2 41 (by decide), hx597f.2.1 1852 (by decide) (by decide), by rw [← hidx]; exact hx597f.2.1 1853 (by decide) (by decide)⟩)) (mu_lt hw (by omega) (by omega : (H597.1 1826 35) ≠ 0 ∨ ((H1.1 1826 30) ≤ (H597.1 1826 30) ∧ (H597.1 1826 30) ≤ (H.1 1826 29) ∧ (((H597.1 1826 31) = 0 ∧ (H1.1 1826 31) ≠ 0) ∨ (H1.1 1826 30) < (H597.1 1826 30)))))
              · exfalso
                omega
    · have b3x : (H1.1 1826 35) ≠ 0 := b3
      refine h_run 0 (pc' := 26) (l' := [(0, .inr (.inr 1826)), (1, .inl (f : Int))]) (st' := [.inl 0]) rfl ?_
      refine h_zeq (off := 241) (t := 267) rfl rfl (by decide) (fun _ => ?_) (fun c => absurd c (by decide))
      skip
      refine h_ret rfl rfl ?_
      have g610 : -2147483648 ≤ (H1.1 1826 30) ∧ (H1.1 1826 30) ≤ 2147483647 := hrg1.1 1826 13 30 _ .int rfl rfl
      have g611 : -2147483648 ≤ (H1.1 1826 32) ∧ (H1.1 1826 32) ≤ 2147483647 := hrg1.1 1826 13 32 _ .int rfl rfl
      have g612 : -2147483648 ≤ (H1.1 1826 29) ∧ (H1.1 1826 29) ≤ 2147483647 := hrg1.1 1826 13 29 _ .int rfl rfl
      have e613 : (H1.1 1826 29) = (H.1 1826 29) := hf.2.2 29 (by decide)
      exact ⟨rfl, hf, (by omega : (H.1 1826 30) ≤ (H1.1 1826 30) ∧ (H1.1 1826 30) ≤ (H.1 1826 29)), (by omega : 0 ≤ (H1.1 1826 35) ∧ (H1.1 1826 35) ≤ 5), (by omega : (H.1 1826 35) ≠ 0 → (H1.1 1826 35) ≠ 0), (by omega : 0 ≤ (H1.1 1826 32) ∧ (H1.1 1826 32) ≤ 1000), (fun (q : (H1.1 1826 35) = 0) => absurd q (by omega))⟩
set_option maxRecDepth 100000 in
theorem m_patterns {zC : Nat → Option zsh} {d : Nat} (hd : 6 ≤ d) {H : hp} {f : Nat} (h0 : 0 ≤ (H.1 1826 30) ∧ (H.1 1826 30) ≤ (H.1 1826 29) ∧ (H.1 1826 29) ≤ 1000) (hw : 0 ≤ (H.1 1826 35) ∧ (H.1 1826 35) ≤ 5) (hst : 0 ≤ (H.1 1826 32) ∧ (H.1 1826 32) ≤ 1000) (hP : PWc H) (hfu : (f : Int) < (H.1 1826 8)) (hst0 : (H.1 1826 35) = 0 → (H.1 1826 40) = 1 ∧ (H.1 1826 43) = 0 ∧ (H.1 1826 39) = 0 ∧ (H.1 1826 41) = 0) : hG (zs zC) d mt_178 0 (zargs 0 [.inr (.inr 1826), .inl (f : Int)]) [] H (fun r H2 => r = none ∧ fr [30, 31, 32, 33, 35, 36, 39, 40, 41, 43, 47] [1849, 1850, 1851, 1852, 1853] H H2 ∧ ((H.1 1826 30) ≤ (H2.1 1826 30) ∧ (H2.1 1826 30) ≤ (H.1 1826 29)) ∧ (0 ≤ (H2.1 1826 35) ∧ (H2.1 1826 35) ≤ 5) ∧ ((H.1 1826 35) ≠ 0 → (H2.1 1826 35) ≠ 0) ∧ (0 ≤ (H2.1 1826 32) ∧ (H2.1 1826 32) ≤ 1000) ∧ hid ((H2.1 1826 35) = 0 → ∃ k q : Nat, (H2.1 1826 43) = k ∧ k ≤ 39 ∧ (H2.1 1833) f = q ∧ tm (ma (H2.1 1833) (H2.1 1830)) (m_sp (H2.1 1826 3)) (H2.1 1851) k 0 q ∧ (0 ≤ (H2.1 1826 39) ∧ (H2.1 1826 39) ≤ 39) ∧ ∀ v : Nat, (v : Int) < (H2.1 1826 39) → ∃ y : Nat, y < k ∧ (H2.1 1851) y = 1000 + v)) := by
  refine h_rng (fun hrg0 => ?_)
  refine h_run 0 (pc' := 0) (l' := [(0, .inr (.inr 1826)), (1, .inl (f : Int))]) (st' := []) rfl ?_
  obtain ⟨⟨pb1, pb2, pb3, pb4, pb5⟩, pw1, pw2, pw3, pw4⟩ := (id hP : PW H (H.1 1826 1) (H.1 1826 3) (H.1 1826 8) (H.1 1826 13) (H.1 1826 19))
  refine h_run 2 (pc' := 2) (l' := [(0, .inr (.inr 1826)), (1, .inl (f : Int))]) (st' := [.inl 1, .inr (.inr 1826)]) rfl ?_
  refine h_puti (i := 328) (ci := 13) (k := 47) (a := 1826) (x := 1) rfl rfl rfl rfl rfl rfl (by decide) (by decide) ?_
  refine h_run 6 (pc' := 14) (l' := [(0, .inr (.inr 1826)), (1, .inl (f : Int))]) (st' := [.inl (100 + (f : Int)), .inl 0, .inr (.inr 1852)]) rfl ?_
  refine h_ist (c := 1852) (j := 0) (i := 0) (x := (100 + (f : Int))) rfl rfl (by decide) (by decide) rfl (by omega) (by omega) ?_
  refine h_run 4 (pc' := 21) (l' := [(0, .inr (.inr 1826)), (1, .inl (f : Int))]) (st' := [.inl 0, .inl 0, .inr (.inr 1853)]) rfl ?_
  refine h_ist (c := 1853) (j := 0) (i := 0) (x := 0) rfl rfl (by decide) (by decide) rfl (by omega) (by decide) ?_
  have g614 : -2147483648 ≤ (H.1 1826 30) ∧ (H.1 1826 30) ≤ 2147483647 := hrg0.1 1826 13 30 _ .int rfl rfl
  have g615 : -2147483648 ≤ (H.1 1826 35) ∧ (H.1 1826 35) ≤ 2147483647 := hrg0.1 1826 13 35 _ .int rfl rfl
  have g616 : -2147483648 ≤ (H.1 1826 32) ∧ (H.1 1826 32) ≤ 2147483647 := hrg0.1 1826 13 32 _ .int rfl rfl
  have g617 : -2147483648 ≤ (H.1 1826 31) ∧ (H.1 1826 31) ≤ 2147483647 := hrg0.1 1826 13 31 _ .int rfl rfl
  have g618 : -2147483648 ≤ (H.1 1826 29) ∧ (H.1 1826 29) ≤ 2147483647 := hrg0.1 1826 13 29 _ .int rfl rfl
  have g619 : -2147483648 ≤ (H.1 1826 41) ∧ (H.1 1826 41) ≤ 2147483647 := hrg0.1 1826 13 41 _ .int rfl rfl
  exact (m_patterns_cut hd h0 hw hst hP hfu hst0 _) _ (fr_a (fr_a (fr_o (fr_rf _ _ _) (by decide)) (by decide)) (by decide)) (by omega : (H.1 1826 30) ≤ (H.1 1826 30) ∧ (H.1 1826 30) ≤ (H.1 1826 29)) (by omega : 0 ≤ (H.1 1826 35) ∧ (H.1 1826 35) ≤ 5) (by omega : 0 ≤ (H.1 1826 32) ∧ (H.1 1826 32) ≤ 1000) (by omega : (H.1 1826 35) ≠ 0 → (H.1 1826 35) ≠ 0) (fun (q : (H.1 1826 35) = 0) => ⟨1, PT_start (PWc_a (PWc_a (PWc_o hP (by decide)) (by decide)) (by decide)) hfu ⟨rfl, (hst0 q).2.2.2⟩ ⟨(hst0 q).1, (hst0 q).2.1, (hst0 q).2.2.1⟩ rfl rfl⟩) (Nat.lt_succ_self _)
