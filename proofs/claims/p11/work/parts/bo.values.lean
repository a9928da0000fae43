/-! the reference: the lists of values -/
def sz (vz cG : Nat → Int) (c k i : Nat) : Int := vz (2001 * cG (3 * c + k) + (i : Int)).toNat
theorem sz_q {vz cG : Nat → Int} {c k i g : Nat} {z : Int} (h : sz vz cG c k i = z) (hg : cG (3 * c + k) = (g : Int)) : vz (2001 * g + i) = z := by
  rw [← h]
  unfold sz
  rw [hg, show (2001 * (g : Int) + (i : Int)).toNat = 2001 * g + i by omega]
def VT (ar : Int → Int) (cn fn : Int) (va vz : Nat → Int) (p : Nat) : Prop := ∃ k : Nat, vz p = (k : Int) ∧ (1 ≤ k ∧ k ≤ 6) ∧ tm ar (m_sg cn fn 0) va k (7 * p) 1
def VK (tn cn fn : Int) (fA cA va vz vc : Nat → Int) : Prop := ∀ t : Nat, (t : Int) < tn → ∃ m : Nat, vc t = (m : Int) ∧ m ≤ 2001 ∧ ∀ i : Nat, i < m → VT (ma fA cA) cn fn va vz (2001 * t + i)
/-- the list of t grew by values of n signs -/
def VG (tn : Int) (vz vc vz' vc' : Nat → Int) (t n : Nat) : Prop := (∀ u : Nat, u ≠ t → vc' u = vc u) ∧ vc t ≤ vc' t ∧ (∀ u i : Nat, (u : Int) < tn → (i : Int) < vc u → vz' (2001 * u + i) = vz (2001 * u + i)) ∧ (vc t ≤ 0 → 0 < vc' t → vz' (2001 * t) = (n : Int))
theorem VG_rf {tn : Int} {vz vc : Nat → Int} {t n : Nat} : VG tn vz vc vz vc t n := ⟨fun _ _ => rfl, Int.le_refl _, fun _ _ _ _ => rfl, fun h1 h2 => absurd h2 (by omega)⟩
theorem VG_tr {tn : Int} {vz vc vz1 vc1 vz2 vc2 : Nat → Int} {t n : Nat} (h : VG tn vz vc vz1 vc1 t n) (g : VG tn vz1 vc1 vz2 vc2 t n) (ht : (t : Int) < tn) : VG tn vz vc vz2 vc2 t n := by
  obtain ⟨h1, h2, h3, h4⟩ := h
  obtain ⟨g1, g2, g3, g4⟩ := g
  refine ⟨fun u hu => (g1 u hu).trans (h1 u hu), by omega, fun u i hu hi => ?_, fun a b => ?_⟩
  · rw [← h3 u i hu hi]
    refine g3 u i hu ?_
    by_cases e : u = t
    · subst e; omega
    · rw [h1 u e]; exact hi
  · by_cases e : vc1 t ≤ 0
    · exact g4 e b
    · rw [← h4 a (by omega)]
      exact g3 t 0 ht (by omega)
theorem VG_le {tn : Int} {vz vc vz1 vc1 : Nat → Int} {t n : Nat} (h : VG tn vz vc vz1 vc1 t n) (u : Nat) : vc u ≤ vc1 u := by
  by_cases e : u = t
  · subst e; exact h.2.1
  · rw [h.1 u e]; exact Int.le_refl _
theorem VG_sz {tn : Int} {vz vc vz1 vc1 cG : Nat → Int} {t n c k i g : Nat} {z : Int} (h : VG tn vz vc vz1 vc1 t n) (hg : cG (3 * c + k) = (g : Int)) (hgt : (g : Int) < tn) (hi : (i : Int) < vc g) (hz : sz vz cG c k i = z) : sz vz1 cG c k i = z := by
  have h1 := h.2.2.1 g i hgt hi
  rw [sz_q hz hg] at h1
  unfold sz
  rw [hg, show (2001 * (g : Int) + (i : Int)).toNat = 2001 * g + i by omega, h1]
theorem VK_add {tn cn fn : Int} {fA cA va vz vc md va' : Nat → Int} {t n m : Nat} (h : VK tn cn fn fA cA va vz vc) (ht : (t : Int) < tn) (hm : vc t = (m : Int)) (hm2 : m < 2001) (htm : tm (ma fA cA) (m_sg cn fn 0) md n 0 1) (hn : 1 ≤ n ∧ n ≤ 6) (h1 : ∀ x, x < 7 * (2001 * t + m) ∨ 7 * (2001 * t + m) + 6 ≤ x → va' x = va x) (h2 : ∀ x, x < n → va' (7 * (2001 * t + m) + x) = md x) : VK tn cn fn fA cA va' (up vz (2001 * t + m) n) (up vc t (m + 1)) := by
  intro u hu
  obtain ⟨b, b1, b2, b3⟩ := h u hu
  have key : ∀ i, i < b → ¬ (u = t ∧ i = m) → VT (ma fA cA) cn fn va' (up vz (2001 * t + m) n) (2001 * u + i) := by
    intro i hi hne
    have hne2 : 2001 * u + i ≠ 2001 * t + m := by omega
    obtain ⟨k, k1, k2, k3⟩ := b3 i hi
    refine ⟨k, by rw [up_ne _ _ hne2]; exact k1, k2, tm_at k3 (fun x hx => h1 _ (by omega))⟩
  by_cases e : u = t
  · subst e
    refine ⟨m + 1, by rw [up_eq]; omega, by omega, fun i hi => ?_⟩
    by_cases e2 : i = m
    · subst e2
      refine ⟨n, up_eq _ _ _, hn, tm_at htm (fun x hx => by rw [h2 x hx, Nat.zero_add])⟩
    · exact key i (by omega) (by omega)
  · refine ⟨b, by rw [up_ne _ _ e]; exact b1, b2, fun i hi => key i hi (by omega)⟩
theorem VG_add {tn cn fn : Int} {fA cA va vz vc : Nat → Int} {t n m : Nat} (h : VK tn cn fn fA cA va vz vc) (hm : vc t = (m : Int)) (hm2 : m < 2001) : VG tn vz vc (up vz (2001 * t + m) n) (up vc t (m + 1)) t n := by
  refine ⟨fun u hu => up_ne _ _ hu, by rw [up_eq, hm]; omega, fun u i hu hi => ?_, fun h1 _ => ?_⟩
  · obtain ⟨b, b1, b2, b3⟩ := h u hu
    refine up_ne _ _ ?_
    by_cases e : u = t
    · subst e; omega
    · omega
  · obtain rfl : m = 0 := by omega
    exact up_eq _ _ _
theorem tp_1 {fA cA : Nat → Int} {cn fn : Int} {md : Nat → Int} {c a : Nat} (hc : (c : Int) < cn) (hcn : cn ≤ 16) (h0 : md 0 = 1 + (c : Int)) (ha : cA c = (a : Int)) (ha3 : a ≤ 3) : tp (ma fA cA) (m_sg cn fn 0) md 1 0 1 a := by
  have h := tp_snoc (ar := ma fA cA) (ok := m_sg cn fn 0) (a := md) (k := 0) (i := 0) (n := 1) (m := 0) (q := a) rfl (by rw [Nat.zero_add, h0]; exact Or.inr (Or.inl ⟨by omega, by omega⟩)) (by rw [Nat.zero_add, h0, ma_c (by omega), show (1 + (c : Int) - 1).toNat = c by omega, ha]) (by omega)
  rw [Nat.zero_add a] at h
  exact h

/-! sizeOf -/
set_option maxRecDepth 100000 in
theorem m_sizeOf {zC : Nat → Option zsh} {d : Nat} (hd : 2 ≤ d) {H : hp} {c k i : Nat} {z : Int} (hP : PWc H) (hc : (c : Int) < (H.1 1826 3)) (hk : (k : Int) < (H.1 1830) c) (hi : i < 2001) (hz : sz (H.1 1862) (H.1 1831) c k i = z) : hG (zs zC) d mt_213 0 (zargs 0 [.inr (.inr 1826), .inl (c : Int), .inl (k : Int), .inl (i : Int)]) [] H (fun r9 H2 => r9 = some (.inl z) ∧ H = H2) := by
  refine h_rng (fun hrg0 => ?_)
  refine h_run 0 (pc' := 0) (l' := [(0, .inr (.inr 1826)), (1, .inl (c : Int)), (2, .inl (k : Int)), (3, .inl (i : Int))]) (st' := []) rfl ?_
  obtain ⟨⟨pb1, pb2, pb3, pb4, pb5⟩, pw1, pw2, pw3, pw4⟩ := (id hP : PW H (H.1 1826 1) (H.1 1826 3) (H.1 1826 8) (H.1 1826 13) (H.1 1826 19))
  obtain ⟨hca, hct, hcg⟩ := pw1 c (by omega)
  have hgk := hcg k hk
  refine h_run 10 (pc' := 16) (l' := [(0, .inr (.inr 1826)), (1, .inl (c : Int)), (2, .inl (k : Int)), (3, .inl (i : Int))]) (st' := [.inl ((3 * (c : Int)) + (k : Int)), .inr (.inr 1831), .inl 2001, .inr (.inr 1862)]) rfl ?_
  refine h_ild (c := 1831) (j := ((3 * c) + k)) (i := ((3 * (c : Int)) + (k : Int))) rfl rfl (by decide) (by omega) (by omega) ?_
  have g1 : -2147483648 ≤ (H.1 1831 ((3 * c) + k)) ∧ (H.1 1831 ((3 * c) + k)) ≤ 2147483647 := hrg0.2 1831 ((3 * c) + k) 48 .int rfl (by omega)
  refine h_run 0 (pc' := 17) (l' := [(0, .inr (.inr 1826)), (1, .inl (c : Int)), (2, .inl (k : Int)), (3, .inl (i : Int))]) (st' := [.inl (H.1 1831 ((3 * c) + k)), .inl 2001, .inr (.inr 1862)]) rfl ?_
  refine h_run 3 (pc' := 20) (l' := [(0, .inr (.inr 1826)), (1, .inl (c : Int)), (2, .inl (k : Int)), (3, .inl (i : Int))]) (st' := [.inl ((2001 * (H.1 1831 ((3 * c) + k))) + (i : Int)), .inr (.inr 1862)]) rfl ?_
  refine h_ild (c := 1862) (j := (((2001 * (H.1 1831 ((3 * c) + k))) + (i : Int))).toNat) (i := ((2001 * (H.1 1831 ((3 * c) + k))) + (i : Int))) rfl rfl (by decide) (by omega) (by omega) ?_
  have g2 : -2147483648 ≤ (H.1 1862 (((2001 * (H.1 1831 ((3 * c) + k))) + (i : Int))).toNat) ∧ (H.1 1862 (((2001 * (H.1 1831 ((3 * c) + k))) + (i : Int))).toNat) ≤ 2147483647 := hrg0.2 1862 (((2001 * (H.1 1831 ((3 * c) + k))) + (i : Int))).toNat 12006 .int rfl (by omega)
  refine h_run 0 (pc' := 21) (l' := [(0, .inr (.inr 1826)), (1, .inl (c : Int)), (2, .inl (k : Int)), (3, .inl (i : Int))]) (st' := [.inl (H.1 1862 (((2001 * (H.1 1831 ((3 * c) + k))) + (i : Int))).toNat)]) rfl ?_
  refine h_reti (x := (H.1 1862 (((2001 * (H.1 1831 ((3 * c) + k))) + (i : Int))).toNat)) rfl rfl ?_
  exact ⟨by rw [← hz]; rfl, rfl⟩


theorem pv_up {a b : Nat → Int} {p q x9 j : Nat} {y : Int} (h : ∀ x, x < x9 → a (p + x) = b (7 * q + x)) (hj : j = p + x9) (hy : y = b (7 * q + x9)) : ∀ x, x < x9 + 1 → up a j y (p + x) = b (7 * q + x) := by
  intro x hx
  by_cases e : x = x9
  · rw [e, ← hj, up_eq, hy]
  · rw [up_ne _ _ (by omega)]; exact h x (by omega)

/-! putValue -/
set_option maxRecDepth 100000 in
theorem m_putValue_cut {zC : Nat → Option zsh} {d : Nat} (hd : 2 ≤ d) {H : hp} {c k i g p m z : Nat} (hP : PWc H) (hc : (c : Int) < (H.1 1826 3)) (hk : (k : Int) < (H.1 1830) c) (hgg : (H.1 1831) (3 * c + k) = (g : Int)) (hgt : (g : Int) < (H.1 1826 1)) (hV : VK (H.1 1826 1) (H.1 1826 3) (H.1 1826 8) (H.1 1833) (H.1 1830) (H.1 1861) (H.1 1862) (H.1 1863)) (hi : (i : Int) < (H.1 1863) g) (hz : sz (H.1 1862) (H.1 1831) c k i = (z : Int)) (hms : (H.1 1826 53) = (p : Int)) (hp9 : p ≤ 100) (htp : tp (ma (H.1 1833) (H.1 1830)) (m_sg (H.1 1826 3) (H.1 1826 8) 0) (H.1 1856) p 0 1 (m + 1)) : ∀ w : Nat, (∀ (H1 : hp) (q : Nat) (x9 : Nat), (fr [53] [1856] H H1) → (q = 2001 * g + i) → (x9 ≤ z) → ((H1.1 1826 53) = ((p + x9 : Nat) : Int)) → (∀ x, x < p → (H1.1 1856) x = (H.1 1856) x) → (∀ x, x < x9 → (H1.1 1856) (p + x) = (H.1 1861) (7 * q + x)) → 1000 - x9 < w → hG (zs zC) d mt_214 21 [(0, .inr (.inr 1826)), (1, .inl (c : Int)), (2, .inl (k : Int)), (3, .inl (i : Int)), (4, .inl (q : Int)), (5, .inl (x9 : Int))] [] H1 (fun r9 H2 => r9 = none ∧ fr [53] [1856] H H2 ∧ (H2.1 1826 53) = ((p + z : Nat) : Int) ∧ (∀ x, x < p → (H2.1 1856) x = (H.1 1856) x) ∧ tp (ma (H.1 1833) (H.1 1830)) (m_sg (H.1 1826 3) (H.1 1826 8) 0) (H2.1 1856) (p + z) 0 1 m)) := by
  intro w
  induction w with
  | zero => exact fun _ _ _ _ _ _ _ _ _ h => absurd h (Nat.not_lt_zero _)
  | succ w ih =>
    intro H1 q x9 hf hq hx hmz hlo hhi hw
    refine h_rng (fun hrg1 => ?_)
    obtain ⟨⟨pb1, pb2, pb3, pb4, pb5⟩, pw1, pw2, pw3, pw4⟩ := (id hP : PW H (H.1 1826 1) (H.1 1826 3) (H.1 1826 8) (H.1 1826 13) (H.1 1826 19))
    obtain ⟨hca, hct, hcg⟩ := pw1 c (by omega)
    obtain ⟨mv, mv1, mv2, mv3⟩ := hV g (by omega)
    obtain ⟨kv, kv1, kv2, kv3⟩ := mv3 i (by omega)
    have hzq := sz_q hz hgg
    rw [← hq] at hzq kv1 kv3
    refine h_run 4 (pc' := 29) (l' := [(0, .inr (.inr 1826)), (1, .inl (c : Int)), (2, .inl (k : Int)), (3, .inl (i : Int)), (4, .inl (q : Int)), (5, .inl (x9 : Int))]) (st' := [.inl (q : Int), .inr (.inr 1862), .inl (x9 : Int)]) rfl ?_
    refine h_ild (c := 1862) (j := q) (i := (q : Int)) rfl rfl (by decide) rfl (by omega) ?_
    have g2 : -2147483648 ≤ (H1.1 1862 q) ∧ (H1.1 1862 q) ≤ 2147483647 := hrg1.2 1862 q 12006 .int rfl (by omega)
    have e3 : (H1.1 1862 q) = (H.1 1862 q) := congrFun (hf.2.1 1862 (by decide) (by decide)) q
    refine h_run 0 (pc' := 30) (l' := [(0, .inr (.inr 1826)), (1, .inl (c : Int)), (2, .inl (k : Int)), (3, .inl (i : Int)), (4, .inl (q : Int)), (5, .inl (x9 : Int))]) (st' := [.inl (H1.1 1862 q), .inl (x9 : Int)]) rfl ?_
    refine h_ige (off := 41) (t := 71) rfl rfl (by omega) (by omega) (fun c4 => ?_) (fun c4 => ?_)
    · refine h_ret rfl rfl ?_
      exact ⟨rfl, hf, by omega, hlo, by rw [show p + z = p + kv by omega]; exact tp_term (tp_at htp hlo) (tm_at kv3 (fun x8 h8 => by rw [Nat.zero_add]; exact hhi x8 (by omega)))⟩
    · refine h_run 4 (pc' := 41) (l' := [(0, .inr (.inr 1826)), (1, .inl (c : Int)), (2, .inl (k : Int)), (3, .inl (i : Int)), (4, .inl (q : Int)), (5, .inl (x9 : Int))]) (st' := [.inl (H1.1 1826 53), .inr (.inr 1856)]) rfl ?_
      have g5 : -2147483648 ≤ (H1.1 1826 53) ∧ (H1.1 1826 53) ≤ 2147483647 := hrg1.1 1826 13 53 _ .int rfl rfl
      refine h_run 7 (pc' := 53) (l' := [(0, .inr (.inr 1826)), (1, .inl (c : Int)), (2, .inl (k : Int)), (3, .inl (i : Int)), (4, .inl (q : Int)), (5, .inl (x9 : Int))]) (st' := [.inl ((7 * (q : Int)) + (x9 : Int)), .inr (.inr 1861), .inl (H1.1 1826 53), .inr (.inr 1856)]) rfl ?_
      refine h_ild (c := 1861) (j := ((7 * q) + x9)) (i := ((7 * (q : Int)) + (x9 : Int))) rfl rfl (by decide) (by omega) (by omega) ?_
      have g6 : -2147483648 ≤ (H1.1 1861 ((7 * q) + x9)) ∧ (H1.1 1861 ((7 * q) + x9)) ≤ 2147483647 := hrg1.2 1861 ((7 * q) + x9) 84042 .int rfl (by omega)
      have e7 : (H1.1 1861 ((7 * q) + x9)) = (H.1 1861 ((7 * q) + x9)) := congrFun (hf.2.1 1861 (by decide) (by decide)) ((7 * q) + x9)
      refine h_run 0 (pc' := 54) (l' := [(0, .inr (.inr 1826)), (1, .inl (c : Int)), (2, .inl (k : Int)), (3, .inl (i : Int)), (4, .inl (q : Int)), (5, .inl (x9 : Int))]) (st' := [.inl (H1.1 1861 ((7 * q) + x9)), .inl (H1.1 1826 53), .inr (.inr 1856)]) rfl ?_
      refine h_ist (c := 1856) (j := ((H1.1 1826 53)).toNat) (i := (H1.1 1826 53)) (x := (H1.1 1861 ((7 * q) + x9))) rfl rfl (by decide) (by decide) (by omega) (by omega) (by omega) ?_
      refine h_run 3 (pc' := 60) (l' := [(0, .inr (.inr 1826)), (1, .inl (c : Int)), (2, .inl (k : Int)), (3, .inl (i : Int)), (4, .inl (q : Int)), (5, .inl (x9 : Int))]) (st' := [.inl (H1.1 1826 53), .inr (.inr 1826)]) rfl ?_
      refine h_run 2 (pc' := 62) (l' := [(0, .inr (.inr 1826)), (1, .inl (c : Int)), (2, .inl (k : Int)), (3, .inl (i : Int)), (4, .inl (q : Int)), (5, .inl (x9 : Int))]) (st' := [.inl ((H1.1 1826 53) + 1), .inr (.inr 1826)]) rfl ?_
      refine h_puti (i := 437) (ci := 13) (k := 53) (a := 1826) (x := ((H1.1 1826 53) + 1)) rfl rfl rfl rfl rfl rfl (by decide) (by omega) ?_
      refine h_run 2 (pc' := 21) (l' := [(0, .inr (.inr 1826)), (1, .inl (c : Int)), (2, .inl (k : Int)), (3, .inl (i : Int)), (4, .inl (q : Int)), (5, .inl ((x9 : Int) + 1))]) (st' := []) rfl ?_
      rw [show ((x9 : Int) + 1) = (((x9 + 1) : Nat) : Int) by omega]
      exact ih _ q (x9 + 1) (fr_o (fr_a hf (by decide)) (by decide)) (by omega) (by omega) (by omega : ((H1.1 1826 53) + 1) = ((p + (x9 + 1) : Nat) : Int)) (fun x8 h8 => (up_ne _ _ (by omega)).trans (hlo x8 h8)) (pv_up hhi (by omega) (congrFun (hf.2.1 1861 (by decide) (by decide)) _)) (by omega : 1000 - (x9 + 1) < w)
set_option maxRecDepth 100000 in
theorem m_putValue {zC : Nat → Option zsh} {d : Nat} (hd : 2 ≤ d) {H : hp} {c k i g p m z : Nat} (hP : PWc H) (hc : (c : Int) < (H.1 1826 3)) (hk : (k : Int) < (H.1 1830) c) (hgg : (H.1 1831) (3 * c + k) = (g : Int)) (hgt : (g : Int) < (H.1 1826 1)) (hV : VK (H.1 1826 1) (H.1 1826 3) (H.1 1826 8) (H.1 1833) (H.1 1830) (H.1 1861) (H.1 1862) (H.1 1863)) (hi : (i : Int) < (H.1 1863) g) (hz : sz (H.1 1862) (H.1 1831) c k i = (z : Int)) (hms : (H.1 1826 53) = (p : Int)) (hp9 : p ≤ 100) (htp : tp (ma (H.1 1833) (H.1 1830)) (m_sg (H.1 1826 3) (H.1 1826 8) 0) (H.1 1856) p 0 1 (m + 1)) : hG (zs zC) d mt_214 0 (zargs 0 [.inr (.inr 1826), .inl (c : Int), .inl (k : Int), .inl (i : Int)]) [] H (fun r9 H2 => r9 = none ∧ fr [53] [1856] H H2 ∧ (H2.1 1826 53) = ((p + z : Nat) : Int) ∧ (∀ x, x < p → (H2.1 1856) x = (H.1 1856) x) ∧ tp (ma (H.1 1833) (H.1 1830)) (m_sg (H.1 1826 3) (H.1 1826 8) 0) (H2.1 1856) (p + z) 0 1 m) := by
  refine h_rng (fun hrg0 => ?_)
  refine h_run 0 (pc' := 0) (l' := [(0, .inr (.inr 1826)), (1, .inl (c : Int)), (2, .inl (k : Int)), (3, .inl (i : Int))]) (st' := []) rfl ?_
  obtain ⟨⟨pb1, pb2, pb3, pb4, pb5⟩, pw1, pw2, pw3, pw4⟩ := (id hP : PW H (H.1 1826 1) (H.1 1826 3) (H.1 1826 8) (H.1 1826 13) (H.1 1826 19))
  obtain ⟨hca, hct, hcg⟩ := pw1 c (by omega)
  obtain ⟨mv, mv1, mv2, mv3⟩ := hV g (by omega)
  obtain ⟨kv, kv1, kv2, kv3⟩ := mv3 i (by omega)
  have hzq := sz_q hz hgg
  refine h_run 8 (pc' := 12) (l' := [(0, .inr (.inr 1826)), (1, .inl (c : Int)), (2, .inl (k : Int)), (3, .inl (i : Int))]) (st' := [.inl ((3 * (c : Int)) + (k : Int)), .inr (.inr 1831), .inl 2001]) rfl ?_
  refine h_ild (c := 1831) (j := ((3 * c) + k)) (i := ((3 * (c : Int)) + (k : Int))) rfl rfl (by decide) (by omega) (by omega) ?_
  have g8 : -2147483648 ≤ (H.1 1831 ((3 * c) + k)) ∧ (H.1 1831 ((3 * c) + k)) ≤ 2147483647 := hrg0.2 1831 ((3 * c) + k) 48 .int rfl (by omega)
  refine h_run 0 (pc' := 13) (l' := [(0, .inr (.inr 1826)), (1, .inl (c : Int)), (2, .inl (k : Int)), (3, .inl (i : Int))]) (st' := [.inl (H.1 1831 ((3 * c) + k)), .inl 2001]) rfl ?_
  refine h_run 6 (pc' := 21) (l' := [(0, .inr (.inr 1826)), (1, .inl (c : Int)), (2, .inl (k : Int)), (3, .inl (i : Int)), (4, .inl ((2001 * (H.1 1831 ((3 * c) + k))) + (i : Int))), (5, .inl 0)]) (st' := []) rfl ?_
  have g9 : -2147483648 ≤ (H.1 1826 53) ∧ (H.1 1826 53) ≤ 2147483647 := hrg0.1 1826 13 53 _ .int rfl rfl
  rw [show ((2001 * (H.1 1831 ((3 * c) + k))) + (i : Int)) = (((((2001 * (H.1 1831 ((3 * c) + k))) + (i : Int))).toNat : Nat) : Int) by omega]
  exact (m_putValue_cut hd hP hc hk hgg hgt hV hi hz hms hp9 htp _) _ (((2001 * (H.1 1831 ((3 * c) + k))) + (i : Int))).toNat 0 (fr_rf _ _ _) (by omega) (by omega) (by omega : (H.1 1826 53) = ((p + 0 : Nat) : Int)) (fun _ _ => rfl) (fun _ h8 => absurd h8 (Nat.not_lt_zero _)) (Nat.lt_succ_self _)

/-! begun -/
set_option maxRecDepth 100000 in
theorem m_begun {zC : Nat → Option zsh} {d : Nat} (hd : 4 ≤ d) {H : hp} {c i g z a : Nat} (hP : PWc H) (hc : (c : Int) < (H.1 1826 3)) (hk : (H.1 1830) c = ((a + 1 : Nat) : Int)) (hgg : (H.1 1831) (3 * c + 0) = (g : Int)) (hgt : (g : Int) < (H.1 1826 1)) (hV : VK (H.1 1826 1) (H.1 1826 3) (H.1 1826 8) (H.1 1833) (H.1 1830) (H.1 1861) (H.1 1862) (H.1 1863)) (hi : (i : Int) < (H.1 1863) g) (hz : sz (H.1 1862) (H.1 1831) c 0 i = (z : Int)) : hG (zs zC) d mt_216 0 (zargs 0 [.inr (.inr 1826), .inl (c : Int), .inl (i : Int)]) [] H (fun r9 H2 => r9 = none ∧ fr [53] [1856] H H2 ∧ (H2.1 1826 53) = ((1 + z : Nat) : Int) ∧ tp (ma (H.1 1833) (H.1 1830)) (m_sg (H.1 1826 3) (H.1 1826 8) 0) (H2.1 1856) (1 + z) 0 1 a) := by
  refine h_rng (fun hrg0 => ?_)
  refine h_run 0 (pc' := 0) (l' := [(0, .inr (.inr 1826)), (1, .inl (c : Int)), (2, .inl (i : Int))]) (st' := []) rfl ?_
  obtain ⟨⟨pb1, pb2, pb3, pb4, pb5⟩, pw1, pw2, pw3, pw4⟩ := (id hP : PW H (H.1 1826 1) (H.1 1826 3) (H.1 1826 8) (H.1 1826 13) (H.1 1826 19))
  obtain ⟨hca, hct, hcg⟩ := pw1 c (by omega)
  refine h_run 6 (pc' := 8) (l' := [(0, .inr (.inr 1826)), (1, .inl (c : Int)), (2, .inl (i : Int))]) (st' := [.inl (1 + (c : Int)), .inl 0, .inr (.inr 1856)]) rfl ?_
  refine h_ist (c := 1856) (j := 0) (i := 0) (x := (1 + (c : Int))) rfl rfl (by decide) (by decide) rfl (by omega) (by omega) ?_
  refine h_run 2 (pc' := 11) (l' := [(0, .inr (.inr 1826)), (1, .inl (c : Int)), (2, .inl (i : Int))]) (st' := [.inl 1, .inr (.inr 1826)]) rfl ?_
  refine h_puti (i := 437) (ci := 13) (k := 53) (a := 1826) (x := 1) rfl rfl rfl rfl rfl rfl (by decide) (by decide) ?_
  refine h_run 4 (pc' := 18) (l' := [(0, .inr (.inr 1826)), (1, .inl (c : Int)), (2, .inl (i : Int))]) (st' := [.inl (i : Int), .inl 0, .inl (c : Int), .inr (.inr 1826)]) rfl ?_
  have hP9 : PWc (zu (zu H 1856 (up (H.1 1856) 0 (1 + (c : Int)))) 1826 (up ((zu H 1856 (up (H.1 1856) 0 (1 + (c : Int)))).1 1826) 53 1)) := (PWc_o (PWc_a hP (by decide)) (by decide))
  refine h_cv (i := 511) (j := 214) (b := 1826) (M' := mt_214) (xs := [.inl (i : Int), .inl 0, .inl (c : Int)]) (rest := []) rfl rfl rfl rfl rfl rfl (Nat.le_of_ble_eq_true rfl) (Nat.le_of_ble_eq_true rfl) (by omega) (m_putValue (k := 0) (g := g) (p := 1) (m := a) (z := z) (by omega) hP9 hc (by omega : ((0 : Nat) : Int) < (H.1 1830) c) (hgg) hgt hV hi (hz) rfl (by omega) (tp_1 hc (by omega : (H.1 1826 3) ≤ 16) (show up (H.1 1856) 0 (1 + (c : Int)) 0 = _ from up_eq _ _ _) hk (by omega))) ?_
  rintro _ H1 ⟨rfl, hfH1, hmsH1, hloH1, htpH1⟩
  refine h_rng (fun hrg2 => ?_)
  have hf3 : fr [53] [1856] H H1 := fr_t (fr_o (fr_a (fr_rf _ _ _) (by decide)) (by decide)) hfH1 (by decide) (by decide)
  refine h_run 0 (pc' := 21) (l' := [(0, .inr (.inr 1826)), (1, .inl (c : Int)), (2, .inl (i : Int))]) (st' := []) rfl ?_
  refine h_ret rfl rfl ?_
  exact ⟨rfl, hf3, hmsH1, htpH1⟩


theorem av_up {a b : Nat → Int} {p x9 j : Nat} {y : Int} (h : ∀ x, x < x9 → a (p + x) = b x) (hj : j = p + x9) (hy : y = b x9) : ∀ x, x < x9 + 1 → up a j y (p + x) = b x := by
  intro x hx
  by_cases e : x = x9
  · rw [e, ← hj, up_eq, hy]
  · rw [up_ne _ _ (by omega)]; exact h x (by omega)

/-! addValue -/
set_option maxRecDepth 100000 in
theorem m_addValue_cut {zC : Nat → Option zsh} {d : Nat} (hd : 2 ≤ d) {H : hp} {t n : Nat} (hP : PWc H) (ht : (t : Int) < (H.1 1826 1)) (hn : 1 ≤ n ∧ n ≤ 6) (hV : VK (H.1 1826 1) (H.1 1826 3) (H.1 1826 8) (H.1 1833) (H.1 1830) (H.1 1861) (H.1 1862) (H.1 1863)) (htm : tm (ma (H.1 1833) (H.1 1830)) (m_sg (H.1 1826 3) (H.1 1826 8) 0) (H.1 1856) n 0 1) : ∀ w : Nat, (∀ (H1 : hp) (q : Nat) (x9 : Nat) (m : Nat), (fr [] [1861, 1862, 1863] H H1) → ((H.1 1863) t = (m : Int) ∧ m < 2001) → (q = 2001 * t + m) → (x9 ≤ n) → ((H1.1 1862) = up (H.1 1862) (2001 * t + m) n) → ((H1.1 1863) = (H.1 1863)) → (∀ x, x < 7 * (2001 * t + m) ∨ 7 * (2001 * t + m) + 6 ≤ x → (H1.1 1861) x = (H.1 1861) x) → (∀ x, x < x9 → (H1.1 1861) (7 * (2001 * t + m) + x) = (H.1 1856) x) → 1000 - x9 < w → hG (zs zC) d mt_211 35 [(0, .inr (.inr 1826)), (1, .inl (t : Int)), (2, .inl (n : Int)), (3, .inl (q : Int)), (4, .inl (x9 : Int))] [] H1 (fun r9 H2 => r9 = none ∧ fr [] [1861, 1862, 1863] H H2 ∧ VK (H2.1 1826 1) (H2.1 1826 3) (H2.1 1826 8) (H2.1 1833) (H2.1 1830) (H2.1 1861) (H2.1 1862) (H2.1 1863) ∧ VG (H.1 1826 1) (H.1 1862) (H.1 1863) (H2.1 1862) (H2.1 1863) t n ∧ 0 < (H2.1 1863) t)) := by
  intro w
  induction w with
  | zero => exact fun _ _ _ _ _ _ _ _ _ _ _ _ h => absurd h (Nat.not_lt_zero _)
  | succ w ih =>
    intro H1 q x9 m hf m1 hq hx hvz hvc hva hmd hw
    refine h_rng (fun hrg1 => ?_)
    obtain ⟨⟨pb1, pb2, pb3, pb4, pb5⟩, pw1, pw2, pw3, pw4⟩ := (id hP : PW H (H.1 1826 1) (H.1 1826 3) (H.1 1826 8) (H.1 1826 13) (H.1 1826 19))
    obtain ⟨m1, m2⟩ := m1
    have qe1 : (H1.1 1826 1) = (H.1 1826 1) := hf.2.2 1 (by decide)
    have qe2 : (H1.1 1826 3) = (H.1 1826 3) := hf.2.2 3 (by decide)
    have qe3 : (H1.1 1826 8) = (H.1 1826 8) := hf.2.2 8 (by decide)
    have qe4 : (H1.1 1833) = (H.1 1833) := hf.2.1 1833 (by decide) (by decide)
    have qe5 : (H1.1 1830) = (H.1 1830) := hf.2.1 1830 (by decide) (by decide)
    have hvct := congrFun hvc t
    refine h_run 2 (pc' := 38) (l' := [(0, .inr (.inr 1826)), (1, .inl (t : Int)), (2, .inl (n : Int)), (3, .inl (q : Int)), (4, .inl (x9 : Int))]) (st' := [.inl (n : Int), .inl (x9 : Int)]) rfl ?_
    refine h_ige (off := 28) (t := 66) rfl rfl (by omega) (by omega) (fun c2 => ?_) (fun c2 => ?_)
    · refine h_run 4 (pc' := 72) (l' := [(0, .inr (.inr 1826)), (1, .inl (t : Int)), (2, .inl (n : Int)), (3, .inl (q : Int)), (4, .inl (x9 : Int))]) (st' := [.inl (t : Int), .inr (.inr 1863), .inl (t : Int), .inr (.inr 1863)]) rfl ?_
      refine h_ild (c := 1863) (j := t) (i := (t : Int)) rfl rfl (by decide) rfl (by omega) ?_
      have g3 : -2147483648 ≤ (H1.1 1863 t) ∧ (H1.1 1863 t) ≤ 2147483647 := hrg1.2 1863 t 6 .int rfl (by omega)
      refine h_run 0 (pc' := 73) (l' := [(0, .inr (.inr 1826)), (1, .inl (t : Int)), (2, .inl (n : Int)), (3, .inl (q : Int)), (4, .inl (x9 : Int))]) (st' := [.inl (H1.1 1863 t), .inl (t : Int), .inr (.inr 1863)]) rfl ?_
      refine h_run 2 (pc' := 75) (l' := [(0, .inr (.inr 1826)), (1, .inl (t : Int)), (2, .inl (n : Int)), (3, .inl (q : Int)), (4, .inl (x9 : Int))]) (st' := [.inl ((H1.1 1863 t) + 1), .inl (t : Int), .inr (.inr 1863)]) rfl ?_
      refine h_ist (c := 1863) (j := t) (i := (t : Int)) (x := ((H1.1 1863 t) + 1)) rfl rfl (by decide) (by decide) rfl (by omega) (by omega) ?_
      refine h_ret rfl rfl ?_
      subst hq
      have hV9 : VK (H1.1 1826 1) (H1.1 1826 3) (H1.1 1826 8) (H1.1 1833) (H1.1 1830) (H1.1 1861) (up (H.1 1862) (2001 * t + m) n) (up (H.1 1863) t (m + 1)) := by rw [qe1, qe2, qe3, qe4, qe5]; exact VK_add hV ht m1 (by omega) htm hn hva (fun x8 h8 => hmd x8 (by omega))
      have hG9 := VG_add (n := n) hV m1 (by omega)
      have ec : up (H1.1 1863) t ((H1.1 1863) t + 1) = up (H.1 1863) t (m + 1) := by rw [hvc, m1]
      rw [← ec, ← hvz] at hV9 hG9
      exact ⟨rfl, (fr_a hf (by decide)), hV9, hG9, (show 0 < up (H1.1 1863) t ((H1.1 1863) t + 1) t by rw [up_eq, hvc, m1]; omega)⟩
    · refine h_run 10 (pc' := 58) (l' := [(0, .inr (.inr 1826)), (1, .inl (t : Int)), (2, .inl (n : Int)), (3, .inl (q : Int)), (4, .inl (x9 : Int))]) (st' := [.inl (x9 : Int), .inr (.inr 1856), .inl ((7 * (q : Int)) + (x9 : Int)), .inr (.inr 1861)]) rfl ?_
      refine h_ild (c := 1856) (j := x9) (i := (x9 : Int)) rfl rfl (by decide) rfl (by omega) ?_
      have g4 : -2147483648 ≤ (H1.1 1856 x9) ∧ (H1.1 1856 x9) ≤ 2147483647 := hrg1.2 1856 x9 12000 .int rfl (by omega)
      have e5 : (H1.1 1856 x9) = (H.1 1856 x9) := congrFun (hf.2.1 1856 (by decide) (by decide)) x9
      refine h_run 0 (pc' := 59) (l' := [(0, .inr (.inr 1826)), (1, .inl (t : Int)), (2, .inl (n : Int)), (3, .inl (q : Int)), (4, .inl (x9 : Int))]) (st' := [.inl (H1.1 1856 x9), .inl ((7 * (q : Int)) + (x9 : Int)), .inr (.inr 1861)]) rfl ?_
      refine h_ist (c := 1861) (j := ((7 * q) + x9)) (i := ((7 * (q : Int)) + (x9 : Int))) (x := (H1.1 1856 x9)) rfl rfl (by decide) (by decide) (by omega) (by omega) (by omega) ?_
      refine h_run 2 (pc' := 35) (l' := [(0, .inr (.inr 1826)), (1, .inl (t : Int)), (2, .inl (n : Int)), (3, .inl (q : Int)), (4, .inl ((x9 : Int) + 1))]) (st' := []) rfl ?_
      rw [show ((x9 : Int) + 1) = (((x9 + 1) : Nat) : Int) by omega]
      exact ih _ q (x9 + 1) (m) (fr_a hf (by decide)) ⟨m1, by omega⟩ (by omega) (by omega) hvz hvc (fun x8 h8 => (up_ne _ _ (by omega)).trans (hva x8 h8)) (av_up hmd (by omega) (congrFun (hf.2.1 1856 (by decide) (by decide)) _)) (by omega : 1000 - (x9 + 1) < w)
set_option maxRecDepth 100000 in
theorem m_addValue {zC : Nat → Option zsh} {d : Nat} (hd : 2 ≤ d) {H : hp} {t n : Nat} (hP : PWc H) (ht : (t : Int) < (H.1 1826 1)) (hn : 1 ≤ n ∧ n ≤ 6) (hV : VK (H.1 1826 1) (H.1 1826 3) (H.1 1826 8) (H.1 1833) (H.1 1830) (H.1 1861) (H.1 1862) (H.1 1863)) (htm : tm (ma (H.1 1833) (H.1 1830)) (m_sg (H.1 1826 3) (H.1 1826 8) 0) (H.1 1856) n 0 1) : hG (zs zC) d mt_211 0 (zargs 0 [.inr (.inr 1826), .inl (t : Int), .inl (n : Int)]) [] H (fun r9 H2 => r9 = none ∧ fr [] [1861, 1862, 1863] H H2 ∧ VK (H2.1 1826 1) (H2.1 1826 3) (H2.1 1826 8) (H2.1 1833) (H2.1 1830) (H2.1 1861) (H2.1 1862) (H2.1 1863) ∧ VG (H.1 1826 1) (H.1 1862) (H.1 1863) (H2.1 1862) (H2.1 1863) t n ∧ 0 < (H2.1 1863) t) := by
  refine h_rng (fun hrg0 => ?_)
  refine h_run 0 (pc' := 0) (l' := [(0, .inr (.inr 1826)), (1, .inl (t : Int)), (2, .inl (n : Int))]) (st' := []) rfl ?_
  obtain ⟨⟨pb1, pb2, pb3, pb4, pb5⟩, pw1, pw2, pw3, pw4⟩ := (id hP : PW H (H.1 1826 1) (H.1 1826 3) (H.1 1826 8) (H.1 1826 13) (H.1 1826 19))
  obtain ⟨m, m1, m2, m3⟩ := hV t (by omega)
  refine h_run 3 (pc' := 5) (l' := [(0, .inr (.inr 1826)), (1, .inl (t : Int)), (2, .inl (n : Int))]) (st' := [.inl (t : Int), .inr (.inr 1863)]) rfl ?_
  refine h_ild (c := 1863) (j := t) (i := (t : Int)) rfl rfl (by decide) rfl (by omega) ?_
  have g6 : -2147483648 ≤ (H.1 1863 t) ∧ (H.1 1863 t) ≤ 2147483647 := hrg0.2 1863 t 6 .int rfl (by omega)
  refine h_run 0 (pc' := 6) (l' := [(0, .inr (.inr 1826)), (1, .inl (t : Int)), (2, .inl (n : Int))]) (st' := [.inl (H.1 1863 t)]) rfl ?_
  refine h_run 1 (pc' := 9) (l' := [(0, .inr (.inr 1826)), (1, .inl (t : Int)), (2, .inl (n : Int))]) (st' := [.inl 2001, .inl (H.1 1863 t)]) rfl ?_
  refine h_ige (off := 67) (t := 76) rfl rfl (by omega) (by decide) (fun c7 => ?_) (fun c7 => ?_)
  · refine h_ret rfl rfl ?_
    exact ⟨rfl, (fr_rf _ _ _), hV, VG_rf, (by omega)⟩
  · refine h_run 6 (pc' := 22) (l' := [(0, .inr (.inr 1826)), (1, .inl (t : Int)), (2, .inl (n : Int))]) (st' := [.inl (t : Int), .inr (.inr 1863), .inl (2001 * (t : Int))]) rfl ?_
    refine h_ild (c := 1863) (j := t) (i := (t : Int)) rfl rfl (by decide) rfl (by omega) ?_
    refine h_run 0 (pc' := 23) (l' := [(0, .inr (.inr 1826)), (1, .inl (t : Int)), (2, .inl (n : Int))]) (st' := [.inl (H.1 1863 t), .inl (2001 * (t : Int))]) rfl ?_
    refine h_run 6 (pc' := 31) (l' := [(0, .inr (.inr 1826)), (1, .inl (t : Int)), (2, .inl (n : Int)), (3, .inl ((2001 * (t : Int)) + (H.1 1863 t)))]) (st' := [.inl (n : Int), .inl ((2001 * (t : Int)) + (H.1 1863 t)), .inr (.inr 1862)]) rfl ?_
    refine h_ist (c := 1862) (j := (((2001 * (t : Int)) + (H.1 1863 t))).toNat) (i := ((2001 * (t : Int)) + (H.1 1863 t))) (x := (n : Int)) rfl rfl (by decide) (by decide) (by omega) (by omega) (by omega) ?_
    refine h_run 2 (pc' := 35) (l' := [(0, .inr (.inr 1826)), (1, .inl (t : Int)), (2, .inl (n : Int)), (3, .inl ((2001 * (t : Int)) + (H.1 1863 t))), (4, .inl 0)]) (st' := []) rfl ?_
    rw [show ((2001 * (t : Int)) + (H.1 1863 t)) = (((((2001 * (t : Int)) + (H.1 1863 t))).toNat : Nat) : Int) by omega]
    exact (m_addValue_cut hd hP ht hn hV htm _) _ (((2001 * (t : Int)) + (H.1 1863 t))).toNat 0 (m) (fr_a (fr_rf _ _ _) (by decide)) ⟨m1, by omega⟩ (by omega) (by omega) (by rw [show 2001 * t + m = (2001 * (t : Int) + ((H.1 1863) t)).toNat by omega]; rfl) rfl (fun _ _ => rfl) (fun _ h8 => absurd h8 (Nat.not_lt_zero _)) (Nat.lt_succ_self _)
