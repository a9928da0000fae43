/-! the reference puts what a call becomes in its place -/
theorem tp_app {ar : Int → Int} {ok : Int → Prop} {a : Nat → Int} : ∀ {k i n m k2 p : Nat}, tp ar ok a k i n m → tp ar ok a k2 (i + k) m p → tp ar ok a (k + k2) i n p
  | 0, i, n, m, k2, p, h, h2 => by
    have h : n = m := h
    subst h
    rw [Nat.zero_add]
    exact h2
  | k + 1, i, n, m, k2, p, ⟨h0, h1, q, h3, h4, h5⟩, h2 => by
    rw [show k + 1 + k2 = (k + k2) + 1 by omega]
    exact ⟨h0, h1, q, h3, h4, tp_app h5 (by rw [show i + 1 + k = i + (k + 1) by omega]; exact h2)⟩
theorem tp_pad {ar : Int → Int} {ok : Int → Prop} {a : Nat → Int} {d : Nat} : ∀ {k i n m : Nat}, tp ar ok a k i n m → tp ar ok a k i (n + d) (m + d)
  | 0, _, n, m, h => by
    have h : n = m := h
    show n + d = m + d
    omega
  | k + 1, i, n, m, ⟨h0, h1, q, h3, h4, h5⟩ => by
    refine ⟨by omega, h1, q, h3, h4, ?_⟩
    rw [show n + d - 1 + q = (n - 1 + q) + d by omega]
    exact tp_pad h5
theorem tm_tp {ar : Int → Int} {ok : Int → Prop} {a : Nat → Int} : ∀ {k i n : Nat}, tm ar ok a k i n → tp ar ok a k i n 0
  | 0, _, _, h => h
  | _ + 1, _, _, ⟨h1, h2, q, h3, h4, h5⟩ => ⟨h1, h2, q, h3, h4, tm_tp h5⟩
theorem tp_term {ar : Int → Int} {ok : Int → Prop} {a : Nat → Int} {k i n m kt : Nat} (h : tp ar ok a k i n (m + 1)) (h2 : tm ar ok a kt (i + k) 1) : tp ar ok a (k + kt) i n m := by
  refine tp_app h ?_
  have := tp_pad (d := m) (tm_tp h2)
  rw [show 1 + m = m + 1 by omega, Nat.zero_add] at this
  exact this
theorem tm_cut {ar : Int → Int} {ok : Int → Prop} {a : Nat → Int} : ∀ {p N i n : Nat}, tm ar ok a N i n → p ≤ N → ∃ m : Nat, tp ar ok a p i n m ∧ tm ar ok a (N - p) (i + p) m
  | 0, N, i, n, h, _ => ⟨n, rfl, h⟩
  | p + 1, 0, _, _, _, hp => absurd hp (by omega)
  | p + 1, N + 1, i, n, ⟨h0, h1, q, h3, h4, h5⟩, hp => by
    obtain ⟨m, g1, g2⟩ := tm_cut (p := p) h5 (by omega)
    refine ⟨m, ⟨h0, h1, q, h3, h4, g1⟩, ?_⟩
    rw [show N + 1 - (p + 1) = N - p by omega, show i + (p + 1) = i + 1 + p by omega]
    exact g2
theorem tm_det {ar : Int → Int} {ok : Int → Prop} {a : Nat → Int} : ∀ {k k' i n : Nat}, tm ar ok a k i n → tm ar ok a k' i n → k = k'
  | 0, k', i, n, h, h2 => by
    have h : n = 0 := h
    subst h
    exact (tm_z h2).symm
  | k + 1, 0, i, n, h, h2 => by
    have h2 : n = 0 := h2
    exact absurd h2 h.1
  | k + 1, k' + 1, i, n, ⟨_, _, q, h3, _, h5⟩, ⟨_, _, q', h3', _, h5'⟩ => by
    have : q = q' := by
      rw [h3] at h3'
      omega
    subst this
    rw [tm_det h5 h5']
/-- a term with another one in a place of it -/
theorem tm_place {ar : Int → Int} {ok : Int → Prop} {a : Nat → Int} {N p k : Nat} (h : tm ar ok a N 0 1) (h2 : tm ar ok a k p 1) (hp : p + k ≤ N) : ∃ m : Nat, tp ar ok a p 0 1 (m + 1) ∧ tm ar ok a (N - p - k) (p + k) m := by
  have hk : 1 ≤ k := tm_le h2
  obtain ⟨m, g1, g2⟩ := tm_cut (p := p) h (by omega)
  rw [Nat.zero_add] at g2
  have hm : m ≠ 0 := by
    intro e
    subst e
    have := tm_z g2
    omega
  obtain ⟨k1, k2, e, g3, g4⟩ := tm_split (n := 1) (n2 := m - 1) (by rw [show 1 + (m - 1) = m by omega]; exact g2)
  have := tm_det g3 h2
  subst this
  refine ⟨m - 1, by rw [show m - 1 + 1 = m by omega]; exact g1, ?_⟩
  rw [show N - p - k1 = k2 by omega]
  exact g4
theorem tp_at {ar : Int → Int} {ok : Int → Prop} {a b : Nat → Int} {k n m : Nat} (h : tp ar ok a k 0 n m) (g : ∀ x, x < k → b x = a x) : tp ar ok b k 0 n m := tp_mono h (fun j _ hj ho => ⟨g j (by omega), ho, rfl⟩)

/-! makeDone -/
set_option maxRecDepth 100000 in
theorem m_makeDone_cut {zC : Nat → Option zsh} {d : Nat} (hd : 3 ≤ d) {H : hp} {c n N p k : Nat} {h : Int} {ok : Int → Prop} (hc : zs zC c = some (.inr (.int, n))) (hn : n ≤ 100000) (hcm : c ≠ 1826 ∧ c ∉ [1856]) (hok : ∀ s, ok s → sg0 s) (hok2 : ∀ s, m_sg (H.1 1826 3) (H.1 1826 8) 0 s → ok s) (hP : PWc H) (hT : tm (ma (H.1 1833) (H.1 1830)) ok (H.1 c) N 0 1) (hTp : tm (ma (H.1 1833) (H.1 1830)) ok (H.1 c) k p 1) (hN : p + k ≤ N ∧ N ≤ n ∧ N ≤ 240) (hh : h = 0 ∨ h = 1) (hbd : hid (h = 0 → ∃ r kl : Nat, (H.1 1826 51) = r ∧ (r : Int) < (H.1 1826 13) ∧ (H.1 1838) r = kl ∧ bnd (ma (H.1 1833) (H.1 1830)) ok (H.1 c) (H.1 1837) (H.1 1855) r kl 0 N)) : ∀ w : Nat, (∀ (H1 : hp) (r : Nat) (y : Nat) (cur : Nat) (mm : Nat) (m0 : Nat) (kr : Nat), (fr [53] [1856] H H1) → ((r : Int) < (H.1 1826 13) ∧ (H.1 1826 51) = r) → ((H.1 1840) r = kr) → (y ≤ kr ∧ kr ≤ 40) → ((H1.1 1826 53) = ((cur : Nat) : Int) ∧ cur ≤ 240 + 240 * y) → (tm (ma (H.1 1833) (H.1 1830)) (m_sg (H.1 1826 3) (H.1 1826 8) 40) (H.1 1839) (kr - y) (48 * r + y) mm) → (tp (ma (H.1 1833) (H.1 1830)) ok (H1.1 1856) cur 0 1 (m0 + mm)) → (tm (ma (H.1 1833) (H.1 1830)) ok (H.1 c) (N - p - k) (p + k) m0) → (h = 0) → kr - y < w → hG (zs zC) d mt_199 50 [(0, .inr (.inr 1826)), (1, .inr (.inr c)), (2, .inl (N : Int)), (3, .inl (p : Int)), (5, .inl (r : Int)), (6, .inl (y : Int))] [] H1 (fun r9 H2 => r9 = none ∧ fr [53] [1856] H H2 ∧ ∃ M : Nat, (H2.1 1826 53) = M ∧ M ≤ 12000 ∧ tm (ma (H.1 1833) (H.1 1830)) ok (H2.1 1856) M 0 1)) := by
  intro w
  induction w with
  | zero => exact fun _ _ _ _ _ _ _ _ _ _ _ _ _ _ _ _ h => absurd h (Nat.not_lt_zero _)
  | succ w ih =>
    intro H1 r y cur mm m0 kr hf hr hrs hy hz hrt hmd hrest hh0 hw
    refine h_rng (fun hrg1 => ?_)
    obtain ⟨⟨pb1, pb2, pb3, pb4, pb5⟩, pw1, pw2, pw3, pw4⟩ := (id hP : PW H (H.1 1826 1) (H.1 1826 3) (H.1 1826 8) (H.1 1826 13) (H.1 1826 19))
    have eC : H1.1 c = H.1 c := hf.2.1 c hcm.1 hcm.2
    have eFA : (H1.1 1833) = (H.1 1833) := hf.2.1 1833 (by decide) (by decide)
    have eCA : (H1.1 1830) = (H.1 1830) := hf.2.1 1830 (by decide) (by decide)
    have eRR : (H1.1 1839) = (H.1 1839) := hf.2.1 1839 (by decide) (by decide)
    have eRS : (H1.1 1840) = (H.1 1840) := hf.2.1 1840 (by decide) (by decide)
    have eBA : (H1.1 1855) = (H.1 1855) := hf.2.1 1855 (by decide) (by decide)
    have eRS1 : (H1.1 1840) r = kr := by rw [eRS]; exact hrs
    refine h_run 4 (pc' := 58) (l' := [(0, .inr (.inr 1826)), (1, .inr (.inr c)), (2, .inl (N : Int)), (3, .inl (p : Int)), (5, .inl (r : Int)), (6, .inl (y : Int))]) (st' := [.inl (r : Int), .inr (.inr 1840), .inl (y : Int)]) rfl ?_
    refine h_ild (c := 1840) (j := r) (i := (r : Int)) rfl rfl (by decide) rfl (by omega) ?_
    have g2 : -2147483648 ≤ (H1.1 1840 r) ∧ (H1.1 1840 r) ≤ 2147483647 := hrg1.2 1840 r 40 .int rfl (by omega)
    have e3 : (H1.1 1840 r) = (H.1 1840 r) := congrFun (hf.2.1 1840 (by decide) (by decide)) r
    refine h_run 0 (pc' := 59) (l' := [(0, .inr (.inr 1826)), (1, .inr (.inr c)), (2, .inl (N : Int)), (3, .inl (p : Int)), (5, .inl (r : Int)), (6, .inl (y : Int))]) (st' := [.inl (H1.1 1840 r), .inl (y : Int)]) rfl ?_
    refine h_ige (off := 83) (t := 142) rfl rfl (by omega) (by omega) (fun c4 => ?_) (fun c4 => ?_)
    · refine h_run 5 (pc' := 147) (l' := [(0, .inr (.inr 1826)), (1, .inr (.inr c)), (2, .inl (N : Int)), (3, .inl (p : Int)), (5, .inl (r : Int)), (6, .inl (y : Int))]) (st' := [.inl (p : Int), .inr (.inr c), .inr (.inr 1826), .inr (.inr c), .inr (.inr 1826)]) rfl ?_
      refine h_cv (i := 427) (j := 155) (b := 1826) (M' := mt_155) (xs := [.inl (p : Int), .inr (.inr c)]) (rest := [.inr (.inr c), .inr (.inr 1826)]) rfl rfl rfl rfl rfl rfl (Nat.le_of_ble_eq_true rfl) (Nat.le_of_ble_eq_true rfl) (by omega) (m_behind (by omega) (n := n) (a := p) (k := k) hc hn (by rw [eC, eFA, eCA]; exact tm_sg0 hTp hok) (by omega)) ?_
      rintro _ _ ⟨rfl, rfl⟩
      refine h_run 0 (pc' := 150) (l' := [(0, .inr (.inr 1826)), (1, .inr (.inr c)), (2, .inl (N : Int)), (3, .inl (p : Int)), (5, .inl (r : Int)), (6, .inl (y : Int))]) (st' := [.inl ((p + k : Nat) : Int), .inr (.inr c), .inr (.inr 1826)]) rfl ?_
      refine h_run 1 (pc' := 151) (l' := [(0, .inr (.inr 1826)), (1, .inr (.inr c)), (2, .inl (N : Int)), (3, .inl (p : Int)), (5, .inl (r : Int)), (6, .inl (y : Int))]) (st' := [.inl (N : Int), .inl ((p + k : Nat) : Int), .inr (.inr c), .inr (.inr 1826)]) rfl ?_
      have g5 : -2147483648 ≤ (H1.1 1826 53) ∧ (H1.1 1826 53) ≤ 2147483647 := hrg1.1 1826 13 53 _ .int rfl rfl
      refine h_cv (i := 440) (j := 198) (b := 1826) (M' := mt_198) (xs := [.inl (N : Int), .inl ((p + k : Nat) : Int), .inr (.inr c)]) (rest := []) rfl rfl rfl rfl rfl rfl (Nat.le_of_ble_eq_true rfl) (Nat.le_of_ble_eq_true rfl) (by omega) (m_copy (by omega) (n := n) (a := (p + k)) (e := N) (ms := cur) hc hn hcm (by omega) (by omega : (H1.1 1826 53) = ((cur : Nat) : Int) ∧ cur + (N - (p + k)) ≤ 12000)) ?_
      rintro _ H6 ⟨rfl, hx6f, hx6z, hx6k, hx6c⟩
      refine h_rng (fun hrg7 => ?_)
      have hf8 : fr [53] [1856] H H6 := fr_t hf hx6f (by decide) (by decide)
      refine h_run 0 (pc' := 154) (l' := [(0, .inr (.inr 1826)), (1, .inr (.inr c)), (2, .inl (N : Int)), (3, .inl (p : Int)), (5, .inl (r : Int)), (6, .inl (y : Int))]) (st' := []) rfl ?_
      refine h_ret rfl rfl ?_
      have g9 : -2147483648 ≤ (H6.1 1826 53) ∧ (H6.1 1826 53) ≤ 2147483647 := hrg7.1 1826 13 53 _ .int rfl rfl
      rw [show kr - y = 0 by omega] at hrt
      obtain rfl : mm = 0 := hrt
      refine ⟨rfl, hf8, cur + (N - (p + k)), (by omega : (H6.1 1826 53) = ((cur + (N - (p + k)) : Nat) : Int)), by omega, ?_⟩
      exact tp_tm (tp_app (tp_at hmd (fun x hx => hx6k x hx)) (tm_tp (by rw [Nat.zero_add, Nat.add_zero, show N - (p + k) = N - p - k by omega]; exact tm_at hrest (fun x hx => by rw [hx6c x (by omega), eC]))))
    · obtain ⟨y2, hy2⟩ : ∃ y2, kr - y = y2 + 1 := ⟨kr - y - 1, by omega⟩
      rw [hy2] at hrt
      obtain ⟨hm0, hsg, qq, hqq, hq4, hrt3⟩ := hrt
      have hrt4 : tm (ma (H.1 1833) (H.1 1830)) (m_sg (H.1 1826 3) (H.1 1826 8) 40) (H.1 1839) (kr - (y + 1)) (48 * r + (y + 1)) (mm - 1 + qq) := by rw [show kr - (y + 1) = y2 by omega, show 48 * r + (y + 1) = 48 * r + y + 1 by omega]; exact hrt3
      have hsg9 : (H.1 1839) (48 * r + y) = 0 ∨ (1 ≤ (H.1 1839) (48 * r + y) ∧ (H.1 1839) (48 * r + y) ≤ (H.1 1826 3)) ∨ (100 ≤ (H.1 1839) (48 * r + y) ∧ (H.1 1839) (48 * r + y) < 100 + (H.1 1826 8)) ∨ (1000 ≤ (H.1 1839) (48 * r + y) ∧ (H.1 1839) (48 * r + y) < 1000 + 40) := hsg
      refine h_run 7 (pc' := 74) (l' := [(0, .inr (.inr 1826)), (1, .inr (.inr c)), (2, .inl (N : Int)), (3, .inl (p : Int)), (5, .inl (r : Int)), (6, .inl (y : Int))]) (st' := [.inl ((48 * (r : Int)) + (y : Int)), .inr (.inr 1839)]) rfl ?_
      refine h_ild (c := 1839) (j := ((48 * r) + y)) (i := ((48 * (r : Int)) + (y : Int))) rfl rfl (by decide) (by omega) (by omega) ?_
      have g10 : -2147483648 ≤ (H1.1 1839 ((48 * r) + y)) ∧ (H1.1 1839 ((48 * r) + y)) ≤ 2147483647 := hrg1.2 1839 ((48 * r) + y) 1920 .int rfl (by omega)
      have e11 : (H1.1 1839 ((48 * r) + y)) = (H.1 1839 ((48 * r) + y)) := congrFun (hf.2.1 1839 (by decide) (by decide)) ((48 * r) + y)
      refine h_run 0 (pc' := 75) (l' := [(0, .inr (.inr 1826)), (1, .inr (.inr c)), (2, .inl (N : Int)), (3, .inl (p : Int)), (5, .inl (r : Int)), (6, .inl (y : Int))]) (st' := [.inl (H1.1 1839 ((48 * r) + y))]) rfl ?_
      refine h_run 1 (pc' := 77) (l' := [(0, .inr (.inr 1826)), (1, .inr (.inr c)), (2, .inl (N : Int)), (3, .inl (p : Int)), (5, .inl (r : Int)), (6, .inl (y : Int)), (7, .inl (H1.1 1839 ((48 * r) + y)))]) (st' := []) rfl ?_
      have ep : (H1.1 1839) (48 * r + y) = (H.1 1839) (48 * r + y) := by rw [eRR]
      refine h_run 2 (pc' := 82) (l' := [(0, .inr (.inr 1826)), (1, .inr (.inr c)), (2, .inl (N : Int)), (3, .inl (p : Int)), (5, .inl (r : Int)), (6, .inl (y : Int)), (7, .inl (H1.1 1839 ((48 * r) + y)))]) (st' := [.inl 1000, .inl (H1.1 1839 ((48 * r) + y))]) rfl ?_
      refine h_ilt (off := 33) (t := 115) rfl rfl (by omega) (by decide) (fun c12 => ?_) (fun c12 => ?_)
      · refine h_run 4 (pc' := 123) (l' := [(0, .inr (.inr 1826)), (1, .inr (.inr c)), (2, .inl (N : Int)), (3, .inl (p : Int)), (5, .inl (r : Int)), (6, .inl (y : Int)), (7, .inl (H1.1 1839 ((48 * r) + y)))]) (st' := [.inl (H1.1 1826 53), .inr (.inr 1856)]) rfl ?_
        have g13 : -2147483648 ≤ (H1.1 1826 53) ∧ (H1.1 1826 53) ≤ 2147483647 := hrg1.1 1826 13 53 _ .int rfl rfl
        refine h_run 1 (pc' := 125) (l' := [(0, .inr (.inr 1826)), (1, .inr (.inr c)), (2, .inl (N : Int)), (3, .inl (p : Int)), (5, .inl (r : Int)), (6, .inl (y : Int)), (7, .inl (H1.1 1839 ((48 * r) + y)))]) (st' := [.inl (H1.1 1839 ((48 * r) + y)), .inl (H1.1 1826 53), .inr (.inr 1856)]) rfl ?_
        refine h_ist (c := 1856) (j := ((H1.1 1826 53)).toNat) (i := (H1.1 1826 53)) (x := (H1.1 1839 ((48 * r) + y))) rfl rfl (by decide) (by decide) (by omega) (by omega) (by omega) ?_
        refine h_run 3 (pc' := 131) (l' := [(0, .inr (.inr 1826)), (1, .inr (.inr c)), (2, .inl (N : Int)), (3, .inl (p : Int)), (5, .inl (r : Int)), (6, .inl (y : Int)), (7, .inl (H1.1 1839 ((48 * r) + y)))]) (st' := [.inl (H1.1 1826 53), .inr (.inr 1826)]) rfl ?_
        refine h_run 2 (pc' := 133) (l' := [(0, .inr (.inr 1826)), (1, .inr (.inr c)), (2, .inl (N : Int)), (3, .inl (p : Int)), (5, .inl (r : Int)), (6, .inl (y : Int)), (7, .inl (H1.1 1839 ((48 * r) + y)))]) (st' := [.inl ((H1.1 1826 53) + 1), .inr (.inr 1826)]) rfl ?_
        refine h_puti (i := 437) (ci := 13) (k := 53) (a := 1826) (x := ((H1.1 1826 53) + 1)) rfl rfl rfl rfl rfl rfl (by decide) (by omega) ?_
        refine h_run 2 (pc' := 50) (l' := [(0, .inr (.inr 1826)), (1, .inr (.inr c)), (2, .inl (N : Int)), (3, .inl (p : Int)), (5, .inl (r : Int)), (6, .inl ((y : Int) + 1)), (7, .inl (H1.1 1839 ((48 * r) + y)))]) (st' := []) rfl ?_
        refine h_loc [0, 1, 2, 3, 5, 6] rfl ?_
        rw [show ((y : Int) + 1) = (((y + 1) : Nat) : Int) by omega]
        exact ih _ r (y + 1) (cur + 1) (mm - 1 + qq) (m0) (kr) (fr_o (fr_a hf (by decide)) (by decide)) (by omega) hrs (by omega) (by omega : ((H1.1 1826 53) + 1) = (((cur + 1) : Nat) : Int) ∧ (cur + 1) ≤ 240 + 240 * (y + 1)) hrt4 (by show tp (ma (H.1 1833) (H.1 1830)) ok (up (H1.1 1856) ((H1.1 1826 53)).toNat ((H1.1 1839) (48 * r + y))) (cur + 1) 0 1 (m0 + (mm - 1 + qq)); rw [show ((H1.1 1826 53)).toNat = cur by omega, ep, show m0 + (mm - 1 + qq) = (m0 + (mm - 1)) + qq by omega]; refine tp_snoc (tp_at (by rw [show m0 + (mm - 1) + 1 = m0 + mm by omega]; exact hmd) (fun x hx => up_ne _ _ (by omega))) ?_ ?_ hq4; { rw [Nat.zero_add, up_eq]; exact hok2 _ (by unfold m_sg; omega) }; { rw [Nat.zero_add, up_eq]; exact hqq }) hrest (by omega) (by omega : (kr) - (y + 1) < w)
      · have hq0 : qq = 0 := by rw [ma_0 (by omega)] at hqq; omega
        refine h_run 5 (pc' := 95) (l' := [(0, .inr (.inr 1826)), (1, .inr (.inr c)), (2, .inl (N : Int)), (3, .inl (p : Int)), (5, .inl (r : Int)), (6, .inl (y : Int)), (7, .inl (H1.1 1839 ((48 * r) + y)))]) (st' := [.inl ((H1.1 1839 ((48 * r) + y)) - 1000), .inr (.inr 1855)]) rfl ?_
        refine h_ild (c := 1855) (j := (((H1.1 1839 ((48 * r) + y)) - 1000)).toNat) (i := ((H1.1 1839 ((48 * r) + y)) - 1000)) rfl rfl (by decide) (by omega) (by omega) ?_
        have g14 : -2147483648 ≤ (H1.1 1855 (((H1.1 1839 ((48 * r) + y)) - 1000)).toNat) ∧ (H1.1 1855 (((H1.1 1839 ((48 * r) + y)) - 1000)).toNat) ≤ 2147483647 := hrg1.2 1855 (((H1.1 1839 ((48 * r) + y)) - 1000)).toNat 48 .int rfl (by omega)
        have e15 : (H1.1 1855 (((H1.1 1839 ((48 * r) + y)) - 1000)).toNat) = (H.1 1855 (((H1.1 1839 ((48 * r) + y)) - 1000)).toNat) := congrFun (hf.2.1 1855 (by decide) (by decide)) (((H1.1 1839 ((48 * r) + y)) - 1000)).toNat
        refine h_run 0 (pc' := 96) (l' := [(0, .inr (.inr 1826)), (1, .inr (.inr c)), (2, .inl (N : Int)), (3, .inl (p : Int)), (5, .inl (r : Int)), (6, .inl (y : Int)), (7, .inl (H1.1 1839 ((48 * r) + y)))]) (st' := [.inl (H1.1 1855 (((H1.1 1839 ((48 * r) + y)) - 1000)).toNat)]) rfl ?_
        refine h_run 1 (pc' := 98) (l' := [(0, .inr (.inr 1826)), (1, .inr (.inr c)), (2, .inl (N : Int)), (3, .inl (p : Int)), (5, .inl (r : Int)), (6, .inl (y : Int)), (7, .inl (H1.1 1839 ((48 * r) + y))), (8, .inl (H1.1 1855 (((H1.1 1839 ((48 * r) + y)) - 1000)).toNat))]) (st' := []) rfl ?_
        obtain ⟨r9, kl, hb1, hb2, hb3, hb4⟩ := hbd hh0
        have er9 : r9 = r := by omega
        rw [er9] at hb1 hb2 hb3 hb4
        obtain ⟨f, kl9, kr9, q, -, ⟨hl1, -⟩, ⟨hrs9, -⟩, -, -, -, h10⟩ := pw3 r (by omega)
        obtain ⟨yy, hyy, hy9⟩ := h10 y (by omega) (by omega)
        obtain ⟨b, kb, b1, b2, b3, b4⟩ := hb4 yy (by omega) (by omega)
        rw [hy9] at b1
        have eb : (H1.1 1855) ((H1.1 1839) (48 * r + y) - 1000).toNat = b := by rw [eBA, ep]; exact b1
        have hkb : 1 ≤ kb := tm_le b4
        rw [show (H1.1 1855 (((H1.1 1839 ((48 * r) + y)) - 1000)).toNat) = (b : Int) by omega]
        refine h_run 6 (pc' := 106) (l' := [(0, .inr (.inr 1826)), (1, .inr (.inr c)), (2, .inl (N : Int)), (3, .inl (p : Int)), (5, .inl (r : Int)), (6, .inl (y : Int)), (7, .inl (H1.1 1839 ((48 * r) + y))), (8, .inl (b : Int))]) (st' := [.inl (b : Int), .inr (.inr c), .inr (.inr 1826), .inl (b : Int), .inr (.inr c), .inr (.inr 1826)]) rfl ?_
        refine h_cv (i := 427) (j := 155) (b := 1826) (M' := mt_155) (xs := [.inl (b : Int), .inr (.inr c)]) (rest := [.inl (b : Int), .inr (.inr c), .inr (.inr 1826)]) rfl rfl rfl rfl rfl rfl (Nat.le_of_ble_eq_true rfl) (Nat.le_of_ble_eq_true rfl) (by omega) (m_behind (by omega) (n := n) (a := b) (k := kb) hc hn (by rw [eC, eFA, eCA]; exact tm_sg0 b4 hok) (by omega)) ?_
        rintro _ _ ⟨rfl, rfl⟩
        refine h_run 0 (pc' := 109) (l' := [(0, .inr (.inr 1826)), (1, .inr (.inr c)), (2, .inl (N : Int)), (3, .inl (p : Int)), (5, .inl (r : Int)), (6, .inl (y : Int)), (7, .inl (H1.1 1839 ((48 * r) + y))), (8, .inl (b : Int))]) (st' := [.inl ((b + kb : Nat) : Int), .inl (b : Int), .inr (.inr c), .inr (.inr 1826)]) rfl ?_
        have g16 : -2147483648 ≤ (H1.1 1826 53) ∧ (H1.1 1826 53) ≤ 2147483647 := hrg1.1 1826 13 53 _ .int rfl rfl
        refine h_cv (i := 440) (j := 198) (b := 1826) (M' := mt_198) (xs := [.inl ((b + kb : Nat) : Int), .inl (b : Int), .inr (.inr c)]) (rest := []) rfl rfl rfl rfl rfl rfl (Nat.le_of_ble_eq_true rfl) (Nat.le_of_ble_eq_true rfl) (by omega) (m_copy (by omega) (n := n) (a := b) (e := (b + kb)) (ms := cur) hc hn hcm (by omega) (by omega : (H1.1 1826 53) = ((cur : Nat) : Int) ∧ cur + ((b + kb) - b) ≤ 12000)) ?_
        rintro _ H17 ⟨rfl, hx17f, hx17z, hx17k, hx17c⟩
        refine h_rng (fun hrg18 => ?_)
        have hf19 : fr [53] [1856] H H17 := fr_t hf hx17f (by decide) (by decide)
        refine h_run 0 (pc' := 112) (l' := [(0, .inr (.inr 1826)), (1, .inr (.inr c)), (2, .inl (N : Int)), (3, .inl (p : Int)), (5, .inl (r : Int)), (6, .inl (y : Int)), (7, .inl (H1.1 1839 ((48 * r) + y))), (8, .inl (b : Int))]) (st' := []) rfl ?_
        refine h_run 3 (pc' := 50) (l' := [(0, .inr (.inr 1826)), (1, .inr (.inr c)), (2, .inl (N : Int)), (3, .inl (p : Int)), (5, .inl (r : Int)), (6, .inl ((y : Int) + 1)), (7, .inl (H1.1 1839 ((48 * r) + y))), (8, .inl (b : Int))]) (st' := []) rfl ?_
        have g20 : -2147483648 ≤ (H17.1 1826 53) ∧ (H17.1 1826 53) ≤ 2147483647 := hrg18.1 1826 13 53 _ .int rfl rfl
        refine h_loc [0, 1, 2, 3, 5, 6] rfl ?_
        rw [show ((y : Int) + 1) = (((y + 1) : Nat) : Int) by omega]
        exact ih _ r (y + 1) (cur + (b + kb - b)) (mm - 1 + qq) (m0) (kr) hf19 (by omega) hrs (by omega) (by omega : (H17.1 1826 53) = (((cur + (b + kb - b)) : Nat) : Int) ∧ (cur + (b + kb - b)) ≤ 240 + 240 * (y + 1)) hrt4 (by rw [show cur + (b + kb - b) = cur + kb by omega, show m0 + (mm - 1 + qq) = m0 + (mm - 1) by omega]; refine tp_term (tp_at (b := (H17.1 1856)) (by rw [show m0 + (mm - 1) + 1 = m0 + mm by omega]; exact hmd) (fun x hx => hx17k x hx)) ?_; rw [Nat.zero_add]; exact tm_at b4 (fun x hx => by rw [hx17c x (by omega), eC])) hrest (by omega) (by omega : (kr) - (y + 1) < w)
set_option maxRecDepth 100000 in
theorem m_makeDone {zC : Nat → Option zsh} {d : Nat} (hd : 3 ≤ d) {H : hp} {c n N p k : Nat} {h : Int} {ok : Int → Prop} (hc : zs zC c = some (.inr (.int, n))) (hn : n ≤ 100000) (hcm : c ≠ 1826 ∧ c ∉ [1856]) (hok : ∀ s, ok s → sg0 s) (hok2 : ∀ s, m_sg (H.1 1826 3) (H.1 1826 8) 0 s → ok s) (hP : PWc H) (hT : tm (ma (H.1 1833) (H.1 1830)) ok (H.1 c) N 0 1) (hTp : tm (ma (H.1 1833) (H.1 1830)) ok (H.1 c) k p 1) (hN : p + k ≤ N ∧ N ≤ n ∧ N ≤ 240) (hh : h = 0 ∨ h = 1) (hbd : hid (h = 0 → ∃ r kl : Nat, (H.1 1826 51) = r ∧ (r : Int) < (H.1 1826 13) ∧ (H.1 1838) r = kl ∧ bnd (ma (H.1 1833) (H.1 1830)) ok (H.1 c) (H.1 1837) (H.1 1855) r kl 0 N)) : hG (zs zC) d mt_199 0 (zargs 0 [.inr (.inr 1826), .inr (.inr c), .inl (N : Int), .inl (p : Int), .inl h]) [] H (fun r9 H2 => r9 = none ∧ fr [53] [1856] H H2 ∧ ∃ M : Nat, (H2.1 1826 53) = M ∧ M ≤ 12000 ∧ tm (ma (H.1 1833) (H.1 1830)) ok (H2.1 1856) M 0 1) := by
  refine h_rng (fun hrg0 => ?_)
  refine h_run 0 (pc' := 0) (l' := [(0, .inr (.inr 1826)), (1, .inr (.inr c)), (2, .inl (N : Int)), (3, .inl (p : Int)), (4, .inl h)]) (st' := []) rfl ?_
  obtain ⟨⟨pb1, pb2, pb3, pb4, pb5⟩, pw1, pw2, pw3, pw4⟩ := (id hP : PW H (H.1 1826 1) (H.1 1826 3) (H.1 1826 8) (H.1 1826 13) (H.1 1826 19))
  obtain ⟨m0, hpre, hrest⟩ := tm_place hT hTp hN.1
  refine h_run 2 (pc' := 2) (l' := [(0, .inr (.inr 1826)), (1, .inr (.inr c)), (2, .inl (N : Int)), (3, .inl (p : Int)), (4, .inl h)]) (st' := [.inl 0, .inr (.inr 1826)]) rfl ?_
  refine h_puti (i := 437) (ci := 13) (k := 53) (a := 1826) (x := 0) rfl rfl rfl rfl rfl rfl (by decide) (by decide) ?_
  refine h_run 4 (pc' := 9) (l' := [(0, .inr (.inr 1826)), (1, .inr (.inr c)), (2, .inl (N : Int)), (3, .inl (p : Int)), (4, .inl h)]) (st' := [.inl (p : Int), .inl 0, .inr (.inr c), .inr (.inr 1826)]) rfl ?_
  refine h_cv (i := 440) (j := 198) (b := 1826) (M' := mt_198) (xs := [.inl (p : Int), .inl 0, .inr (.inr c)]) (rest := []) rfl rfl rfl rfl rfl rfl (Nat.le_of_ble_eq_true rfl) (Nat.le_of_ble_eq_true rfl) (by omega) (m_copy (by omega) (n := n) (a := 0) (e := p) (ms := 0) hc hn hcm (by omega) (by omega : (0 : Int) = ((0 : Nat) : Int) ∧ 0 + (p - 0) ≤ 12000)) ?_
  rintro _ H21 ⟨rfl, hx21f, hx21z, hx21k, hx21c⟩
  refine h_rng (fun hrg22 => ?_)
  have hf23 : fr [53] [1856] H H21 := fr_t (fr_o (fr_rf _ _ _) (by decide)) hx21f (by decide) (by decide)
  refine h_run 0 (pc' := 12) (l' := [(0, .inr (.inr 1826)), (1, .inr (.inr c)), (2, .inl (N : Int)), (3, .inl (p : Int)), (4, .inl h)]) (st' := []) rfl ?_
  refine h_run 2 (pc' := 15) (l' := [(0, .inr (.inr 1826)), (1, .inr (.inr c)), (2, .inl (N : Int)), (3, .inl (p : Int)), (4, .inl h)]) (st' := [.inl 1, .inl h]) rfl ?_
  refine h_ine (off := 26) (t := 41) rfl rfl (by omega) (by decide) (fun c24 => ?_) (fun c24 => ?_)
  · refine h_run 2 (pc' := 45) (l' := [(0, .inr (.inr 1826)), (1, .inr (.inr c)), (2, .inl (N : Int)), (3, .inl (p : Int)), (4, .inl h)]) (st' := [.inl (H21.1 1826 51)]) rfl ?_
    have g25 : -2147483648 ≤ (H21.1 1826 51) ∧ (H21.1 1826 51) ≤ 2147483647 := hrg22.1 1826 13 51 _ .int rfl rfl
    have e26 : (H21.1 1826 51) = (H.1 1826 51) := hx21f.2.2 51 (by decide)
    refine h_run 1 (pc' := 47) (l' := [(0, .inr (.inr 1826)), (1, .inr (.inr c)), (2, .inl (N : Int)), (3, .inl (p : Int)), (4, .inl h), (5, .inl (H21.1 1826 51))]) (st' := []) rfl ?_
    obtain ⟨r, kl, hb1, hb2, hb3, hb4⟩ := hbd (by omega)
    have e51 : (H21.1 1826 51) = (H.1 1826 51) := hx21f.2.2 51 (by decide)
    rw [show (H21.1 1826 51) = (r : Int) by omega]
    obtain ⟨f, kl9, kr, q, -, -, ⟨hrs, hkr⟩, -, -, hrr, -⟩ := pw3 r (by omega)
    have hmd0 : tp (ma (H.1 1833) (H.1 1830)) ok (H21.1 1856) p 0 1 (m0 + 1) := tp_at hpre (fun x hx => by have h9 := hx21c x (by omega); rw [Nat.zero_add, zu_ne (k := c) _ _ hcm.1] at h9; exact h9)
    refine h_run 2 (pc' := 50) (l' := [(0, .inr (.inr 1826)), (1, .inr (.inr c)), (2, .inl (N : Int)), (3, .inl (p : Int)), (4, .inl h), (5, .inl (r : Int)), (6, .inl 0)]) (st' := []) rfl ?_
    have g27 : -2147483648 ≤ (H21.1 1826 53) ∧ (H21.1 1826 53) ≤ 2147483647 := hrg22.1 1826 13 53 _ .int rfl rfl
    refine h_loc [0, 1, 2, 3, 5, 6] rfl ?_
    exact (m_makeDone_cut hd hc hn hcm hok hok2 hP hT hTp hN hh hbd _) _ r 0 (p) (1) (m0) (kr) hf23 (by omega) hrs (by omega) (by omega : (H21.1 1826 53) = (((p) : Nat) : Int) ∧ (p) ≤ 240 + 240 * 0) hrr hmd0 hrest (by omega) (Nat.lt_succ_self _)
  · refine h_run 4 (pc' := 26) (l' := [(0, .inr (.inr 1826)), (1, .inr (.inr c)), (2, .inl (N : Int)), (3, .inl (p : Int)), (4, .inl h)]) (st' := [.inl (H21.1 1826 53), .inr (.inr 1856)]) rfl ?_
    have g28 : -2147483648 ≤ (H21.1 1826 53) ∧ (H21.1 1826 53) ≤ 2147483647 := hrg22.1 1826 13 53 _ .int rfl rfl
    refine h_run 1 (pc' := 27) (l' := [(0, .inr (.inr 1826)), (1, .inr (.inr c)), (2, .inl (N : Int)), (3, .inl (p : Int)), (4, .inl h)]) (st' := [.inl 0, .inl (H21.1 1826 53), .inr (.inr 1856)]) rfl ?_
    refine h_ist (c := 1856) (j := ((H21.1 1826 53)).toNat) (i := (H21.1 1826 53)) (x := 0) rfl rfl (by decide) (by decide) (by omega) (by omega) (by decide) ?_
    refine h_run 3 (pc' := 33) (l' := [(0, .inr (.inr 1826)), (1, .inr (.inr c)), (2, .inl (N : Int)), (3, .inl (p : Int)), (4, .inl h)]) (st' := [.inl (H21.1 1826 53), .inr (.inr 1826)]) rfl ?_
    refine h_run 2 (pc' := 35) (l' := [(0, .inr (.inr 1826)), (1, .inr (.inr c)), (2, .inl (N : Int)), (3, .inl (p : Int)), (4, .inl h)]) (st' := [.inl ((H21.1 1826 53) + 1), .inr (.inr 1826)]) rfl ?_
    refine h_puti (i := 437) (ci := 13) (k := 53) (a := 1826) (x := ((H21.1 1826 53) + 1)) rfl rfl rfl rfl rfl rfl (by decide) (by omega) ?_
    refine h_run 6 (pc' := 147) (l' := [(0, .inr (.inr 1826)), (1, .inr (.inr c)), (2, .inl (N : Int)), (3, .inl (p : Int)), (4, .inl h)]) (st' := [.inl (p : Int), .inr (.inr c), .inr (.inr 1826), .inr (.inr c), .inr (.inr 1826)]) rfl ?_
    refine h_cv (i := 427) (j := 155) (b := 1826) (M' := mt_155) (xs := [.inl (p : Int), .inr (.inr c)]) (rest := [.inr (.inr c), .inr (.inr 1826)]) rfl rfl rfl rfl rfl rfl (Nat.le_of_ble_eq_true rfl) (Nat.le_of_ble_eq_true rfl) (by omega) (m_behind (by omega) (n := n) (a := p) (k := k) hc hn (by show tm (ma (H21.1 1833) (H21.1 1830)) sg0 ((zu (zu H21 1856 _) 1826 _).1 c) k p 1; rw [zu_ne (k := c) _ _ hcm.1, zu_ne (k := c) _ _ (fun e9 => hcm.2 (by rw [e9]; decide)), show H21.1 c = H.1 c from hf23.2.1 c hcm.1 hcm.2, show (H21.1 1833) = (H.1 1833) from hf23.2.1 1833 (by decide) (by decide), show (H21.1 1830) = (H.1 1830) from hf23.2.1 1830 (by decide) (by decide)]; exact tm_sg0 hTp hok) (by omega)) ?_
    rintro _ _ ⟨rfl, rfl⟩
    refine h_run 0 (pc' := 150) (l' := [(0, .inr (.inr 1826)), (1, .inr (.inr c)), (2, .inl (N : Int)), (3, .inl (p : Int)), (4, .inl h)]) (st' := [.inl ((p + k : Nat) : Int), .inr (.inr c), .inr (.inr 1826)]) rfl ?_
    refine h_run 1 (pc' := 151) (l' := [(0, .inr (.inr 1826)), (1, .inr (.inr c)), (2, .inl (N : Int)), (3, .inl (p : Int)), (4, .inl h)]) (st' := [.inl (N : Int), .inl ((p + k : Nat) : Int), .inr (.inr c), .inr (.inr 1826)]) rfl ?_
    refine h_cv (i := 440) (j := 198) (b := 1826) (M' := mt_198) (xs := [.inl (N : Int), .inl ((p + k : Nat) : Int), .inr (.inr c)]) (rest := []) rfl rfl rfl rfl rfl rfl (Nat.le_of_ble_eq_true rfl) (Nat.le_of_ble_eq_true rfl) (by omega) (m_copy (by omega) (n := n) (a := (p + k)) (e := N) (ms := (p + 1)) hc hn hcm (by omega) (by omega : ((H21.1 1826 53) + 1) = (((p + 1) : Nat) : Int) ∧ (p + 1) + (N - (p + k)) ≤ 12000)) ?_
    rintro _ H29 ⟨rfl, hx29f, hx29z, hx29k, hx29c⟩
    refine h_rng (fun hrg30 => ?_)
    have hf31 : fr [53] [1856] H H29 := fr_t (fr_o (fr_a hf23 (by decide)) (by decide)) hx29f (by decide) (by decide)
    refine h_run 0 (pc' := 154) (l' := [(0, .inr (.inr 1826)), (1, .inr (.inr c)), (2, .inl (N : Int)), (3, .inl (p : Int)), (4, .inl h)]) (st' := []) rfl ?_
    refine h_ret rfl rfl ?_
    have g32 : -2147483648 ≤ (H29.1 1826 53) ∧ (H29.1 1826 53) ≤ 2147483647 := hrg30.1 1826 13 53 _ .int rfl rfl
    refine ⟨rfl, hf31, p + 1 + (N - (p + k)), (by omega : (H29.1 1826 53) = ((p + 1 + (N - (p + k)) : Nat) : Int)), by omega, ?_⟩
    have hq1 : tp (ma (H.1 1833) (H.1 1830)) ok (H21.1 1856) p 0 1 (m0 + 1) := tp_at hpre (fun x hx => by have h9 := hx21c x (by omega); rw [Nat.zero_add, zu_ne (k := c) _ _ hcm.1] at h9; exact h9)
    have hq2 : tp (ma (H.1 1833) (H.1 1830)) ok (up (H21.1 1856) p 0) (p + 1) 0 1 (m0 + 0) := tp_snoc (tp_at hq1 (fun x hx => up_ne _ _ (by omega))) (by rw [Nat.zero_add, up_eq]; exact hok2 _ (Or.inl rfl)) (by rw [Nat.zero_add, up_eq]; exact ma_0 (Or.inr rfl)) (by omega)
    have hme : ((H21.1 1826 53)).toNat = p := by omega
    exact tp_tm (tp_app (tp_at hq2 (fun x hx => (hx29k x hx).trans (by show up (H21.1 1856) ((H21.1 1826 53)).toNat 0 x = _; rw [hme]))) (tm_tp (by rw [Nat.zero_add, show N - (p + k) = N - p - k by omega]; exact tm_at hrest (fun x hx => by rw [hx29c x (by omega)]; show (zu (zu H21 1856 _) 1826 _).1 c (p + k + x) = _; rw [zu_ne (k := c) _ _ hcm.1, zu_ne (k := c) _ _ (fun e9 => hcm.2 (by rw [e9]; decide)), show H21.1 c = H.1 c from (hx21f.2.1 c hcm.1 hcm.2).trans (zu_ne (k := c) _ _ hcm.1)]))))
