/-! the reference reads rules -/
theorem PWc_agp {H K : hp} (h : PWc H) (g : agp H K) (e : (K.1 1826 1) = (H.1 1826 1) ∧ (K.1 1826 3) = (H.1 1826 3) ∧ (K.1 1826 8) = (H.1 1826 8) ∧ (K.1 1826 13) = (H.1 1826 13) ∧ (K.1 1826 19) = (H.1 1826 19)) : PWc K := by
  unfold PWc
  rw [e.1, e.2.1, e.2.2.1, e.2.2.2.1, e.2.2.2.2]
  exact PW_agp h g (Int.le_refl _) (Int.le_refl _) (Int.le_refl _) (Int.le_refl _)
theorem cp_up {a b : Nat → Int} {o i : Nat} (h : ∀ x, x < i → a (o + x) = b x) : ∀ x, x < i + 1 → up a (o + i) (b i) (o + x) = b x := by
  intro x hx
  rw [up_if]
  by_cases e : x = i
  · rw [e, if_pos rfl]
  · rw [if_neg (by omega)]
    exact h x (by omega)
theorem tm_ok {ar : Int → Int} {ok : Int → Prop} {a : Nat → Int} : ∀ {k i n : Nat}, tm ar ok a k i n → ∀ x, x < k → ok (a (i + x))
  | 0, _, _, _, x, hx => absurd hx (Nat.not_lt_zero _)
  | k + 1, i, n, ⟨_, h1, m, _, _, h4⟩, x, hx => by
    cases x with
    | zero => exact h1
    | succ x =>
      rw [show i + (x + 1) = i + 1 + x by omega]
      exact tm_ok h4 x (by omega)
theorem TT_vars {H : hp} {w : Int} (h : TT H w) : (0 ≤ (H.1 1826 39) ∧ (H.1 1826 39) ≤ 39 ∧ ((H.1 1826 44) = 2 → (H.1 1826 39) ≤ 6)) ∧ ((H.1 1826 44) = 2 → ∀ v : Nat, (v : Int) < (H.1 1826 39) → 0 ≤ (H.1 1850) v ∧ (H.1 1850) v < (H.1 1826 1)) := by
  obtain ⟨n, m, k, -, -, h1, -, -, h2⟩ := h
  exact ⟨h1, h2⟩
/-- the left side of the rule r -/
def RL (H : hp) (r f kl q : Nat) : Prop := ((H.1 1836) r = f ∧ (H.1 1838) r = kl ∧ kl ≤ 39 ∧ (H.1 1833) f = q) ∧ tm (ma (H.1 1833) (H.1 1830)) (m_sp (H.1 1826 3)) (H.1 1837) kl (48 * r) q ∧ (0 ≤ (H.1 1826 39) ∧ (H.1 1826 39) ≤ 39) ∧ ∀ v : Nat, (v : Int) < (H.1 1826 39) → ∃ y : Nat, y < kl ∧ (H.1 1837) (48 * r + y) = 1000 + v
theorem RL_fr {ob ar : List Nat} {H K : hp} {r f kl q : Nat} (h : RL H r f kl q) (g : fr ob ar H K) (h1 : ∀ c ∈ [1830, 1833, 1836, 1837, 1838], c ∉ ar) (h2 : 3 ∉ ob) (hv : (K.1 1826 39) = (H.1 1826 39)) : RL K r f kl q := by
  have e : ∀ c ∈ [1830, 1833, 1836, 1837, 1838], c ≠ 1826 → K.1 c = H.1 c := fun c hc hn => g.2.1 c hn (h1 c hc)
  unfold RL
  rw [e 1830 (by decide) (by decide), e 1833 (by decide) (by decide), e 1836 (by decide) (by decide), e 1837 (by decide) (by decide), e 1838 (by decide) (by decide), g.2.2 3 h2, hv]
  exact h
theorem PW_rule {H K : hp} {r f kl q kr : Nat} (h : PWc H) (g : agp H K) (e : (K.1 1826 1) = (H.1 1826 1) ∧ (K.1 1826 3) = (H.1 1826 3) ∧ (K.1 1826 8) = (H.1 1826 8) ∧ (K.1 1826 19) = (H.1 1826 19)) (hr : (H.1 1826 13) = r ∧ r ≤ 39 ∧ (K.1 1826 13) = (H.1 1826 13) + 1) (hl : RL K r f kl q) (hf : (f : Int) < (K.1 1826 8)) (hk : (K.1 1840) r = kr ∧ kr ≤ 40) (ht : tm (ma (K.1 1833) (K.1 1830)) (m_sg (K.1 1826 3) (K.1 1826 8) (K.1 1826 39)) (K.1 1839) kr (48 * r) 1) : PWc K := by
  have h1 : PW K (H.1 1826 1) (H.1 1826 3) (H.1 1826 8) (H.1 1826 13) (H.1 1826 19) := PW_agp h g (Int.le_refl _) (Int.le_refl _) (Int.le_refl _) (Int.le_refl _)
  unfold PWc
  obtain ⟨⟨b1, b2, b3, b4, b5⟩, p1, p2, p3, p4⟩ := h1
  rw [e.1, e.2.1, e.2.2.1, e.2.2.2, hr.2.2]
  rw [e.2.1, e.2.2.1] at ht
  refine ⟨⟨b1, b2, b3, by omega, b5⟩, p1, p2, fun x hx => ?_, p4⟩
  by_cases hx2 : (x : Int) < (H.1 1826 13)
  · exact p3 x hx2
  · obtain rfl : x = r := by omega
    obtain ⟨⟨l1, l2, l3, l4⟩, l5, l6, l7⟩ := hl
    rw [e.2.1] at l5
    refine ⟨f, kl, kr, q, ⟨l1, by omega⟩, ⟨l2, l3⟩, hk, l4, l5, tm_mono ht (fun j _ _ ho => ⟨rfl, m_sg_mono (Int.le_refl _) (Int.le_refl _) (by omega) ho, rfl⟩), fun y hy hs => ?_⟩
    have ho := tm_ok ht y hy
    unfold m_sg at ho
    obtain ⟨z, hz, e9⟩ := l7 ((K.1 1839) (48 * x + y) - 1000).toNat (by omega)
    exact ⟨z, hz, by omega⟩

/-! rule -/
set_option maxRecDepth 100000 in
theorem m_rulem_cut {zC : Nat → Option zsh} {d : Nat} (hd : 8 ≤ d) {H : hp}  (h0 : 0 ≤ (H.1 1826 30) ∧ (H.1 1826 30) ≤ (H.1 1826 29) ∧ (H.1 1826 29) ≤ 1000) (hw : 0 ≤ (H.1 1826 35) ∧ (H.1 1826 35) ≤ 5) (hst : 0 ≤ (H.1 1826 32) ∧ (H.1 1826 32) ≤ 1000) (hP : PWc H) (hw0 : (H.1 1826 35) = 0) : ∀ w : Nat, (∀ (H1 : hp) (r : Nat) (f : Nat) (i : Nat) (kl : Nat) (q : Nat), (fr [30, 31, 32, 33, 35, 36, 13, 39, 40, 41, 43, 44, 47] [1836, 1837, 1838, 1839, 1840, 1849, 1850, 1851, 1852, 1853, 1854] H H1) → ((H.1 1826 30) ≤ (H1.1 1826 30) ∧ (H1.1 1826 30) ≤ (H.1 1826 29)) → (0 ≤ (H1.1 1826 35) ∧ (H1.1 1826 35) ≤ 5) → (0 ≤ (H1.1 1826 32) ∧ (H1.1 1826 32) ≤ 1000) → (agp H H1) → ((H.1 1826 35) = 0) → ((H1.1 1826 35) = 0) → ((r : Int) = (H.1 1826 13) ∧ (H.1 1826 13) ≤ 39) → ((f : Int) < (H.1 1826 8)) → ((H1.1 1826 1) = (H.1 1826 1) ∧ (H1.1 1826 3) = (H.1 1826 3) ∧ (H1.1 1826 8) = (H.1 1826 8) ∧ (H1.1 1826 13) = (H.1 1826 13) ∧ (H1.1 1826 19) = (H.1 1826 19)) → (((H1.1 1826 43) = kl ∧ kl ≤ 39 ∧ (H1.1 1833) f = q) ∧ tm (ma (H1.1 1833) (H1.1 1830)) (m_sp (H1.1 1826 3)) (H1.1 1851) kl 0 q ∧ (0 ≤ (H1.1 1826 39) ∧ (H1.1 1826 39) ≤ 39) ∧ ∀ v : Nat, (v : Int) < (H1.1 1826 39) → ∃ y : Nat, y < kl ∧ (H1.1 1851) y = 1000 + v) → ((H1.1 1836) r = f ∧ (H1.1 1838) r = kl) → (i ≤ kl) → (∀ x, x < i → (H1.1 1837) (48 * r + x) = (H1.1 1851) x) → 1000 + (kl - i) < w → hG (zs zC) d mt_186 144 [(0, .inr (.inr 1826)), (1, .inl (f : Int)), (2, .inl (r : Int)), (3, .inl (i : Int))] [] H1 (fun r H2 => r = none ∧ fr [30, 31, 32, 33, 35, 36, 13, 39, 40, 41, 43, 44, 47] [1836, 1837, 1838, 1839, 1840, 1849, 1850, 1851, 1852, 1853, 1854] H H2 ∧ ((H.1 1826 30) ≤ (H2.1 1826 30) ∧ (H2.1 1826 30) ≤ (H.1 1826 29)) ∧ (0 ≤ (H2.1 1826 35) ∧ (H2.1 1826 35) ≤ 5) ∧ ((H.1 1826 35) ≠ 0 → (H2.1 1826 35) ≠ 0) ∧ (0 ≤ (H2.1 1826 32) ∧ (H2.1 1826 32) ≤ 1000) ∧ agp H H2 ∧ ((H2.1 1826 35) = 0 → PWc H2))) ∧ (∀ (H1 : hp) (r : Nat) (f : Nat) (i : Nat) (kl : Nat) (q : Nat) (kr : Nat), (fr [30, 31, 32, 33, 35, 36, 13, 39, 40, 41, 43, 44, 47] [1836, 1837, 1838, 1839, 1840, 1849, 1850, 1851, 1852, 1853, 1854] H H1) → ((H.1 1826 30) ≤ (H1.1 1826 30) ∧ (H1.1 1826 30) ≤ (H.1 1826 29)) → (0 ≤ (H1.1 1826 35) ∧ (H1.1 1826 35) ≤ 5) → (0 ≤ (H1.1 1826 32) ∧ (H1.1 1826 32) ≤ 1000) → (agp H H1) → ((H.1 1826 35) = 0) → ((H1.1 1826 35) = 0) → ((r : Int) = (H.1 1826 13) ∧ (H.1 1826 13) ≤ 39) → ((f : Int) < (H.1 1826 8)) → ((H1.1 1826 1) = (H.1 1826 1) ∧ (H1.1 1826 3) = (H.1 1826 3) ∧ (H1.1 1826 8) = (H.1 1826 8) ∧ (H1.1 1826 13) = (H.1 1826 13) ∧ (H1.1 1826 19) = (H.1 1826 19)) → (RL H1 r f kl q) → ((H1.1 1840) r = kr) → ((H1.1 1826 43) = kr ∧ kr ≤ 40) → (tm (ma (H1.1 1833) (H1.1 1830)) (m_sg (H1.1 1826 3) (H1.1 1826 8) (H1.1 1826 39)) (H1.1 1851) kr 0 1) → (i ≤ kr) → (∀ x, x < i → (H1.1 1839) (48 * r + x) = (H1.1 1851) x) → (kr - i) < w → hG (zs zC) d mt_186 238 [(0, .inr (.inr 1826)), (1, .inl (f : Int)), (2, .inl (r : Int)), (3, .inl (i : Int))] [] H1 (fun r H2 => r = none ∧ fr [30, 31, 32, 33, 35, 36, 13, 39, 40, 41, 43, 44, 47] [1836, 1837, 1838, 1839, 1840, 1849, 1850, 1851, 1852, 1853, 1854] H H2 ∧ ((H.1 1826 30) ≤ (H2.1 1826 30) ∧ (H2.1 1826 30) ≤ (H.1 1826 29)) ∧ (0 ≤ (H2.1 1826 35) ∧ (H2.1 1826 35) ≤ 5) ∧ ((H.1 1826 35) ≠ 0 → (H2.1 1826 35) ≠ 0) ∧ (0 ≤ (H2.1 1826 32) ∧ (H2.1 1826 32) ≤ 1000) ∧ agp H H2 ∧ ((H2.1 1826 35) = 0 → PWc H2))) := by
  intro w
  induction w with
  | zero => exact ⟨fun _ _ _ _ _ _ _ _ _ _ _ _ _ _ _ _ _ _ _ _ h => absurd h (Nat.not_lt_zero _), fun _ _ _ _ _ _ _ _ _ _ _ _ _ _ _ _ _ _ _ _ _ _ _ h => absurd h (Nat.not_lt_zero _)⟩
  | succ w ih =>
    refine ⟨?_, ?_⟩
    · intro H1 r f i kl q hf ha hk hst1 hag hw0 hgd hr hfu hcn hq9 hrf hi hcp hw
      refine h_rng (fun hrg1 => ?_)
      obtain ⟨⟨pb1, pb2, pb3, pb4, pb5⟩, pw1, pw2, pw3, pw4⟩ := (id hP : PW H (H.1 1826 1) (H.1 1826 3) (H.1 1826 8) (H.1 1826 13) (H.1 1826 19))
      obtain ⟨⟨hp1, hp2, hp3⟩, hp4, hp5, hp6⟩ := id hq9
      refine h_run 3 (pc' := 149) (l' := [(0, .inr (.inr 1826)), (1, .inl (f : Int)), (2, .inl (r : Int)), (3, .inl (i : Int))]) (st' := [.inl (H1.1 1826 43), .inl (i : Int)]) rfl ?_
      have g2 : -2147483648 ≤ (H1.1 1826 43) ∧ (H1.1 1826 43) ≤ 2147483647 := hrg1.1 1826 13 43 _ .int rfl rfl
      refine h_ige (off := 26) (t := 175) rfl rfl (by omega) (by omega) (fun c3 => ?_) (fun c3 => ?_)
      · have hRL0 : RL H1 r f kl q := ⟨⟨hrf.1, hrf.2, hp2, hp3⟩, tm_at hp4 (fun x hx => by rw [Nat.zero_add]; exact hcp x (by omega)), hp5, fun v hv => by obtain ⟨y, hy, e9⟩ := hp6 v hv; exact ⟨y, hy, by rw [hcp y (by omega)]; exact e9⟩⟩
        refine h_run 2 (pc' := 178) (l' := [(0, .inr (.inr 1826)), (1, .inl (f : Int)), (2, .inl (r : Int)), (3, .inl (i : Int))]) (st' := [.inl 61, .inr (.inr 1826)]) rfl ?_
        have g4 : -2147483648 ≤ (H1.1 1826 30) ∧ (H1.1 1826 30) ≤ 2147483647 := hrg1.1 1826 13 30 _ .int rfl rfl
        have g5 : -2147483648 ≤ (H1.1 1826 29) ∧ (H1.1 1826 29) ≤ 2147483647 := hrg1.1 1826 13 29 _ .int rfl rfl
        have e6 : (H1.1 1826 29) = (H.1 1826 29) := hf.2.2 29 (by decide)
        have g7 : -2147483648 ≤ (H1.1 1826 35) ∧ (H1.1 1826 35) ≤ 2147483647 := hrg1.1 1826 13 35 _ .int rfl rfl
        have g8 : -2147483648 ≤ (H1.1 1826 31) ∧ (H1.1 1826 31) ≤ 2147483647 := hrg1.1 1826 13 31 _ .int rfl rfl
        have g10 : -2147483648 ≤ (H1.1 1826 32) ∧ (H1.1 1826 32) ≤ 2147483647 := hrg1.1 1826 13 32 _ .int rfl rfl
        refine h_cv (i := 313) (j := 166) (b := 1826) (M' := mt_166) (xs := [.inl 61]) (rest := []) rfl rfl rfl rfl rfl rfl (Nat.le_of_ble_eq_true rfl) (Nat.le_of_ble_eq_true rfl) (by omega) (m_want (by omega) (by omega : 0 ≤ (H1.1 1826 30) ∧ (H1.1 1826 30) ≤ (H1.1 1826 29) ∧ (H1.1 1826 29) ≤ 1000) (by omega : 0 ≤ (H1.1 1826 35) ∧ (H1.1 1826 35) ≤ 5) (by omega : 0 ≤ (H1.1 1826 32) ∧ (H1.1 1826 32) ≤ 1000) (by omega)) ?_
        rintro _ H9 ⟨rfl, hx9f, hx9a, hx9b, hx9c, hx9d, hx9e, hx9g⟩
        refine h_rng (fun hrg11 => ?_)
        have hf12 : fr [30, 31, 32, 33, 35, 36, 13, 39, 40, 41, 43, 44, 47] [1836, 1837, 1838, 1839, 1840, 1849, 1850, 1851, 1852, 1853, 1854] H H9 := fr_t hf hx9f (by decide) (by decide)
        have ha13 : agp H H9 := agp_tr hag (agp_fr hx9f (by decide) (by decide))
        replace hx9a : (H1.1 1826 30) ≤ (H9.1 1826 30) := hx9a
        replace hx9b : (H9.1 1826 30) ≤ (H1.1 1826 29) := hx9b
        replace hx9d : (H1.1 1826 35) ≠ 0 → (H9.1 1826 35) = (H1.1 1826 35) := hx9d
        replace hx9g : (H9.1 1826 35) = 0 → (H1.1 1826 31) = (61 : Int) ∧ ((H9.1 1826 31) = 0 ∨ (H1.1 1826 30) < (H9.1 1826 30)) := hx9g
        refine h_run 0 (pc' := 181) (l' := [(0, .inr (.inr 1826)), (1, .inl (f : Int)), (2, .inl (r : Int)), (3, .inl (i : Int))]) (st' := []) rfl ?_
        refine h_run 2 (pc' := 183) (l' := [(0, .inr (.inr 1826)), (1, .inl (f : Int)), (2, .inl (r : Int)), (3, .inl (i : Int))]) (st' := [.inl 0, .inr (.inr 1826)]) rfl ?_
        refine h_puti (i := 300) (ci := 13) (k := 40) (a := 1826) (x := 0) rfl rfl rfl rfl rfl rfl (by decide) (by decide) ?_
        refine h_run 2 (pc' := 188) (l' := [(0, .inr (.inr 1826)), (1, .inl (f : Int)), (2, .inl (r : Int)), (3, .inl (i : Int))]) (st' := [.inl 0, .inr (.inr 1826)]) rfl ?_
        refine h_puti (i := 335) (ci := 13) (k := 41) (a := 1826) (x := 0) rfl rfl rfl rfl rfl rfl (by decide) (by decide) ?_
        refine h_run 2 (pc' := 193) (l' := [(0, .inr (.inr 1826)), (1, .inl (f : Int)), (2, .inl (r : Int)), (3, .inl (i : Int))]) (st' := [.inl 0, .inr (.inr 1826)]) rfl ?_
        refine h_puti (i := 303) (ci := 13) (k := 43) (a := 1826) (x := 0) rfl rfl rfl rfl rfl rfl (by decide) (by decide) ?_
        refine h_run 2 (pc' := 198) (l' := [(0, .inr (.inr 1826)), (1, .inl (f : Int)), (2, .inl (r : Int)), (3, .inl (i : Int))]) (st' := [.inl 1, .inr (.inr 1826)]) rfl ?_
        refine h_puti (i := 367) (ci := 13) (k := 44) (a := 1826) (x := 1) rfl rfl rfl rfl rfl rfl (by decide) (by decide) ?_
        refine h_run 1 (pc' := 202) (l' := [(0, .inr (.inr 1826)), (1, .inl (f : Int)), (2, .inl (r : Int)), (3, .inl (i : Int))]) (st' := [.inr (.inr 1826)]) rfl ?_
        have g14 : -2147483648 ≤ (H9.1 1826 35) ∧ (H9.1 1826 35) ≤ 2147483647 := hrg11.1 1826 13 35 _ .int rfl rfl
        refine h_cv (i := 293) (j := 158) (b := 1826) (M' := mt_158) (xs := []) (rest := []) rfl rfl rfl rfl rfl rfl (Nat.le_of_ble_eq_true rfl) (Nat.le_of_ble_eq_true rfl) (by omega) (m_good (by omega)) ?_
        rintro _ _ ⟨⟨rfl, b15⟩ | ⟨rfl, b15⟩, rfl⟩
        · have b15x : (H9.1 1826 35) = 0 := b15
          replace hx9g := hx9g b15x
          refine h_run 0 (pc' := 205) (l' := [(0, .inr (.inr 1826)), (1, .inl (f : Int)), (2, .inl (r : Int)), (3, .inl (i : Int))]) (st' := [.inl 1]) rfl ?_
          refine h_zeq (off := 14) (t := 219) rfl rfl (by decide) (fun c => absurd c (by decide)) (fun _ => ?_)
          have hft := (pw2 f (by omega)).2.1
          refine h_run 4 (pc' := 214) (l' := [(0, .inr (.inr 1826)), (1, .inl (f : Int)), (2, .inl (r : Int)), (3, .inl (i : Int))]) (st' := [.inl (f : Int), .inr (.inr 1835), .inr (.inr 1826)]) rfl ?_
          refine h_ild (c := 1835) (j := f) (i := (f : Int)) rfl rfl (by decide) rfl (by omega) ?_
          have g16 : -2147483648 ≤ (H9.1 1835 f) ∧ (H9.1 1835 f) ≤ 2147483647 := hrg11.2 1835 f 16 .int rfl (by omega)
          have e17 : (H9.1 1835 f) = (H1.1 1835 f) := congrFun (hx9f.2.1 1835 (by decide) (by decide)) f
          have e18 : (H1.1 1835 f) = (H.1 1835 f) := congrFun (hf.2.1 1835 (by decide) (by decide)) f
          refine h_run 0 (pc' := 215) (l' := [(0, .inr (.inr 1826)), (1, .inl (f : Int)), (2, .inl (r : Int)), (3, .inl (i : Int))]) (st' := [.inl (H9.1 1835 f), .inr (.inr 1826)]) rfl ?_
          have g19 : -2147483648 ≤ (H9.1 1826 30) ∧ (H9.1 1826 30) ≤ 2147483647 := hrg11.1 1826 13 30 _ .int rfl rfl
          have g20 : -2147483648 ≤ (H9.1 1826 29) ∧ (H9.1 1826 29) ≤ 2147483647 := hrg11.1 1826 13 29 _ .int rfl rfl
          have e21 : (H9.1 1826 29) = (H1.1 1826 29) := hx9f.2.2 29 (by decide)
          have g22 : -2147483648 ≤ (H9.1 1826 1) ∧ (H9.1 1826 1) ≤ 2147483647 := hrg11.1 1826 13 1 _ .int rfl rfl
          have e23 : (H9.1 1826 1) = (H1.1 1826 1) := hx9f.2.2 1 (by decide)
          have e24 : (H1.1 1826 1) = (H.1 1826 1) := hf.2.2 1 (by decide)
          have g26 : -2147483648 ≤ (H9.1 1826 39) ∧ (H9.1 1826 39) ≤ 2147483647 := hrg11.1 1826 13 39 _ .int rfl rfl
          have e27 : (H9.1 1826 39) = (H1.1 1826 39) := hx9f.2.2 39 (by decide)
          have g28 : -2147483648 ≤ (H9.1 1826 32) ∧ (H9.1 1826 32) ≤ 2147483647 := hrg11.1 1826 13 32 _ .int rfl rfl
          have g29 : -2147483648 ≤ (H9.1 1826 3) ∧ (H9.1 1826 3) ≤ 2147483647 := hrg11.1 1826 13 3 _ .int rfl rfl
          have e30 : (H9.1 1826 3) = (H1.1 1826 3) := hx9f.2.2 3 (by decide)
          have e31 : (H1.1 1826 3) = (H.1 1826 3) := hf.2.2 3 (by decide)
          have g32 : -2147483648 ≤ (H9.1 1826 8) ∧ (H9.1 1826 8) ≤ 2147483647 := hrg11.1 1826 13 8 _ .int rfl rfl
          have e33 : (H9.1 1826 8) = (H1.1 1826 8) := hx9f.2.2 8 (by decide)
          have e34 : (H1.1 1826 8) = (H.1 1826 8) := hf.2.2 8 (by decide)
          have g35 : -2147483648 ≤ (H9.1 1826 13) ∧ (H9.1 1826 13) ≤ 2147483647 := hrg11.1 1826 13 13 _ .int rfl rfl
          have e36 : (H9.1 1826 13) = (H1.1 1826 13) := hx9f.2.2 13 (by decide)
          have g37 : -2147483648 ≤ (H9.1 1826 19) ∧ (H9.1 1826 19) ≤ 2147483647 := hrg11.1 1826 13 19 _ .int rfl rfl
          have e38 : (H9.1 1826 19) = (H1.1 1826 19) := hx9f.2.2 19 (by decide)
          have e39 : (H1.1 1826 19) = (H.1 1826 19) := hf.2.2 19 (by decide)
          refine h_cv (i := 385) (j := 180) (b := 1826) (M' := mt_180) (xs := [.inl (H9.1 1835 f)]) (rest := []) rfl rfl rfl rfl rfl rfl (Nat.le_of_ble_eq_true rfl) (Nat.le_of_ble_eq_true rfl) (by omega) (m_term (by omega) (by omega : 0 ≤ (H9.1 1826 30) ∧ (H9.1 1826 30) ≤ (H9.1 1826 29) ∧ (H9.1 1826 29) ≤ 1000) (by omega : 0 ≤ (H9.1 1826 35) ∧ (H9.1 1826 35) ≤ 5) (by omega : 0 ≤ (H9.1 1826 32) ∧ (H9.1 1826 32) ≤ 1000) (PWc_agp hP (agp_o (agp_o (agp_o (agp_o ha13 (by decide)) (by decide)) (by decide)) (by decide)) ⟨(by omega : (H9.1 1826 1) = (H.1 1826 1)), (by omega : (H9.1 1826 3) = (H.1 1826 3)), (by omega : (H9.1 1826 8) = (H.1 1826 8)), (by omega : (H9.1 1826 13) = (H.1 1826 13)), (by omega : (H9.1 1826 19) = (H.1 1826 19))⟩) (by omega : 1 ≤ (1 : Int) ∧ (1 : Int) ≤ 3) (by omega : -1 ≤ (H9.1 1835 f) ∧ (H9.1 1835 f) < (H9.1 1826 1)) (by omega : 0 ≤ (0 : Int) ∧ (0 : Int) ≤ 10) (fun _ => ⟨rfl, rfl, rfl, (by omega : 0 ≤ (H9.1 1826 39) ∧ (H9.1 1826 39) ≤ 39 ∧ ((1 : Int) = 2 → (H9.1 1826 39) ≤ 6)), fun (q9 : (1 : Int) = 2) => absurd q9 (by decide)⟩)) ?_
          rintro _ H25 ⟨⟨hx25r, rfl, hx25x, hx25y⟩, hx25f, hx25a, hx25c, -, hx25e, hx25v, hx25p⟩
          refine h_rng (fun hrg40 => ?_)
          have hf41 : fr [30, 31, 32, 33, 35, 36, 13, 39, 40, 41, 43, 44, 47] [1836, 1837, 1838, 1839, 1840, 1849, 1850, 1851, 1852, 1853, 1854] H H25 := fr_t (fr_o (fr_o (fr_o (fr_o hf12 (by decide)) (by decide)) (by decide)) (by decide)) hx25f (by decide) (by decide)
          have ha42 : agp H H25 := agp_tr (agp_o (agp_o (agp_o (agp_o ha13 (by decide)) (by decide)) (by decide)) (by decide)) (agp_fr hx25f (by decide) (by decide))
          replace hx25y : hx25r < (H9.1 1826 1) := hx25y
          replace hx25a : (H9.1 1826 30) ≤ (H25.1 1826 30) ∧ (H25.1 1826 30) ≤ (H9.1 1826 29) := hx25a
          replace hx25v : ((1 : Int) ≠ 2 → (H25.1 1826 39) = (H9.1 1826 39)) ∧ (H9.1 1826 39) ≤ (H25.1 1826 39) := hx25v
          have hx25k : (H25.1 1826 35) = 0 → 0 ≤ (H25.1 1826 43) ∧ (H25.1 1826 43) ≤ 40 := fun q9 => by obtain ⟨⟨k9, h9, h8, -⟩, -⟩ := hx25p q9; omega
          have hx25w : (H25.1 1826 35) = 0 → 0 ≤ (H25.1 1826 39) ∧ (H25.1 1826 39) ≤ 39 ∧ ((H25.1 1826 44) = 2 → (H25.1 1826 39) ≤ 6) := fun q9 => (TT_vars (hx25p q9).2).1
          refine h_run 0 (pc' := 218) (l' := [(0, .inr (.inr 1826)), (1, .inl (f : Int)), (2, .inl (r : Int)), (3, .inl (i : Int))]) (st' := [.inl hx25r]) rfl ?_
          refine h_run 2 (pc' := 220) (l' := [(0, .inr (.inr 1826)), (1, .inl (f : Int)), (2, .inl (r : Int)), (3, .inl (i : Int))]) (st' := [.inr (.inr 1826)]) rfl ?_
          have g43 : -2147483648 ≤ (H25.1 1826 35) ∧ (H25.1 1826 35) ≤ 2147483647 := hrg40.1 1826 13 35 _ .int rfl rfl
          refine h_cv (i := 293) (j := 158) (b := 1826) (M' := mt_158) (xs := []) (rest := []) rfl rfl rfl rfl rfl rfl (Nat.le_of_ble_eq_true rfl) (Nat.le_of_ble_eq_true rfl) (by omega) (m_good (by omega)) ?_
          rintro _ _ ⟨⟨rfl, b44⟩ | ⟨rfl, b44⟩, rfl⟩
          · have b44x : (H25.1 1826 35) = 0 := b44
            replace hx25k := hx25k b44x
            replace hx25w := hx25w b44x
            refine h_run 0 (pc' := 223) (l' := [(0, .inr (.inr 1826)), (1, .inl (f : Int)), (2, .inl (r : Int)), (3, .inl (i : Int))]) (st' := [.inl 1]) rfl ?_
            refine h_zeq (off := 56) (t := 279) rfl rfl (by decide) (fun c => absurd c (by decide)) (fun _ => ?_)
            obtain ⟨⟨kr, hk8, hk7, hrt⟩, hT9⟩ := hx25p (by omega)
            have hRL8 := RL_fr hRL0 hx9f (by decide) (by decide) (hx9f.2.2 39 (by decide))
            have hRL9 := RL_fr (id hRL8 : RL (zu (zu (zu (zu H9 1826 (up (H9.1 1826) 40 0)) 1826 (up ((zu H9 1826 (up (H9.1 1826) 40 0)).1 1826) 41 0)) 1826 (up ((zu (zu H9 1826 (up (H9.1 1826) 40 0)) 1826 (up ((zu H9 1826 (up (H9.1 1826) 40 0)).1 1826) 41 0)).1 1826) 43 0)) 1826 (up ((zu (zu (zu H9 1826 (up (H9.1 1826) 40 0)) 1826 (up ((zu H9 1826 (up (H9.1 1826) 40 0)).1 1826) 41 0)) 1826 (up ((zu (zu H9 1826 (up (H9.1 1826) 40 0)) 1826 (up ((zu H9 1826 (up (H9.1 1826) 40 0)).1 1826) 41 0)).1 1826) 43 0)).1 1826) 44 1)) r f kl q) hx25f (by decide) (by decide) (hx25v.1 (by decide))
            refine h_run 5 (pc' := 235) (l' := [(0, .inr (.inr 1826)), (1, .inl (f : Int)), (2, .inl (r : Int)), (3, .inl (i : Int))]) (st' := [.inl (H25.1 1826 43), .inl (r : Int), .inr (.inr 1840)]) rfl ?_
            have g45 : -2147483648 ≤ (H25.1 1826 43) ∧ (H25.1 1826 43) ≤ 2147483647 := hrg40.1 1826 13 43 _ .int rfl rfl
            refine h_ist (c := 1840) (j := r) (i := (r : Int)) (x := (H25.1 1826 43)) rfl rfl (by decide) (by decide) rfl (by omega) (by omega) ?_
            refine h_run 2 (pc' := 238) (l' := [(0, .inr (.inr 1826)), (1, .inl (f : Int)), (2, .inl (r : Int)), (3, .inl 0)]) (st' := []) rfl ?_
            have g46 : -2147483648 ≤ (H25.1 1826 30) ∧ (H25.1 1826 30) ≤ 2147483647 := hrg40.1 1826 13 30 _ .int rfl rfl
            have g47 : -2147483648 ≤ (H25.1 1826 32) ∧ (H25.1 1826 32) ≤ 2147483647 := hrg40.1 1826 13 32 _ .int rfl rfl
            have g48 : -2147483648 ≤ (H25.1 1826 31) ∧ (H25.1 1826 31) ≤ 2147483647 := hrg40.1 1826 13 31 _ .int rfl rfl
            have g49 : -2147483648 ≤ (H25.1 1826 29) ∧ (H25.1 1826 29) ≤ 2147483647 := hrg40.1 1826 13 29 _ .int rfl rfl
            have e50 : (H25.1 1826 29) = (H9.1 1826 29) := hx25f.2.2 29 (by decide)
            have g51 : -2147483648 ≤ (H25.1 1826 1) ∧ (H25.1 1826 1) ≤ 2147483647 := hrg40.1 1826 13 1 _ .int rfl rfl
            have e52 : (H25.1 1826 1) = (H9.1 1826 1) := hx25f.2.2 1 (by decide)
            have g53 : -2147483648 ≤ (H25.1 1826 3) ∧ (H25.1 1826 3) ≤ 2147483647 := hrg40.1 1826 13 3 _ .int rfl rfl
            have e54 : (H25.1 1826 3) = (H9.1 1826 3) := hx25f.2.2 3 (by decide)
            have g55 : -2147483648 ≤ (H25.1 1826 8) ∧ (H25.1 1826 8) ≤ 2147483647 := hrg40.1 1826 13 8 _ .int rfl rfl
            have e56 : (H25.1 1826 8) = (H9.1 1826 8) := hx25f.2.2 8 (by decide)
            have g57 : -2147483648 ≤ (H25.1 1826 13) ∧ (H25.1 1826 13) ≤ 2147483647 := hrg40.1 1826 13 13 _ .int rfl rfl
            have e58 : (H25.1 1826 13) = (H9.1 1826 13) := hx25f.2.2 13 (by decide)
            have g59 : -2147483648 ≤ (H25.1 1826 19) ∧ (H25.1 1826 19) ≤ 2147483647 := hrg40.1 1826 13 19 _ .int rfl rfl
            have e60 : (H25.1 1826 19) = (H9.1 1826 19) := hx25f.2.2 19 (by decide)
            have g61 : -2147483648 ≤ (H25.1 1826 39) ∧ (H25.1 1826 39) ≤ 2147483647 := hrg40.1 1826 13 39 _ .int rfl rfl
            exact ih.2 _ r f 0 (kl) (q) (kr) (fr_a hf41 (by decide)) (by omega : (H.1 1826 30) ≤ (H25.1 1826 30) ∧ (H25.1 1826 30) ≤ (H.1 1826 29)) (by omega : 0 ≤ (H25.1 1826 35) ∧ (H25.1 1826 35) ≤ 5) (by omega : 0 ≤ (H25.1 1826 32) ∧ (H25.1 1826 32) ≤ 1000) (agp_1840 ha42 (by omega : (H.1 1826 13) ≤ ((r : Nat) : Int))) (by omega) (by omega : (H25.1 1826 35) = 0) (by omega : (r : Int) = (H.1 1826 13) ∧ (H.1 1826 13) ≤ 39) (by omega : (f : Int) < (H.1 1826 8)) (by omega : (H25.1 1826 1) = (H.1 1826 1) ∧ (H25.1 1826 3) = (H.1 1826 3) ∧ (H25.1 1826 8) = (H.1 1826 8) ∧ (H25.1 1826 13) = (H.1 1826 13) ∧ (H25.1 1826 19) = (H.1 1826 19)) hRL9 (show up (H25.1 1840) r ((H25.1 1826 43)) r = (kr : Int) by rw [up_eq]; omega) (by omega : (H25.1 1826 43) = (kr) ∧ (kr) ≤ 40) hrt (by omega) (fun x hx => absurd hx (Nat.not_lt_zero _)) (by omega : ((kr) - 0) < w)
          · have b44x : (H25.1 1826 35) ≠ 0 := b44
            clear hx25k
            clear hx25w
            refine h_run 0 (pc' := 223) (l' := [(0, .inr (.inr 1826)), (1, .inl (f : Int)), (2, .inl (r : Int)), (3, .inl (i : Int))]) (st' := [.inl 0]) rfl ?_
            refine h_zeq (off := 56) (t := 279) rfl rfl (by decide) (fun _ => ?_) (fun c => absurd c (by decide))
            refine h_ret rfl rfl ?_
            have g62 : -2147483648 ≤ (H25.1 1826 30) ∧ (H25.1 1826 30) ≤ 2147483647 := hrg40.1 1826 13 30 _ .int rfl rfl
            have g63 : -2147483648 ≤ (H25.1 1826 32) ∧ (H25.1 1826 32) ≤ 2147483647 := hrg40.1 1826 13 32 _ .int rfl rfl
            have g64 : -2147483648 ≤ (H25.1 1826 29) ∧ (H25.1 1826 29) ≤ 2147483647 := hrg40.1 1826 13 29 _ .int rfl rfl
            have e65 : (H25.1 1826 29) = (H9.1 1826 29) := hx25f.2.2 29 (by decide)
            have g66 : -2147483648 ≤ (H25.1 1826 1) ∧ (H25.1 1826 1) ≤ 2147483647 := hrg40.1 1826 13 1 _ .int rfl rfl
            have e67 : (H25.1 1826 1) = (H9.1 1826 1) := hx25f.2.2 1 (by decide)
            have g68 : -2147483648 ≤ (H25.1 1826 3) ∧ (H25.1 1826 3) ≤ 2147483647 := hrg40.1 1826 13 3 _ .int rfl rfl
            have e69 : (H25.1 1826 3) = (H9.1 1826 3) := hx25f.2.2 3 (by decide)
            have g70 : -2147483648 ≤ (H25.1 1826 8) ∧ (H25.1 1826 8) ≤ 2147483647 := hrg40.1 1826 13 8 _ .int rfl rfl
            have e71 : (H25.1 1826 8) = (H9.1 1826 8) := hx25f.2.2 8 (by decide)
            have g72 : -2147483648 ≤ (H25.1 1826 13) ∧ (H25.1 1826 13) ≤ 2147483647 := hrg40.1 1826 13 13 _ .int rfl rfl
            have e73 : (H25.1 1826 13) = (H9.1 1826 13) := hx25f.2.2 13 (by decide)
            have g74 : -2147483648 ≤ (H25.1 1826 19) ∧ (H25.1 1826 19) ≤ 2147483647 := hrg40.1 1826 13 19 _ .int rfl rfl
            have e75 : (H25.1 1826 19) = (H9.1 1826 19) := hx25f.2.2 19 (by decide)
            exact ⟨rfl, hf41, (by omega : (H.1 1826 30) ≤ (H25.1 1826 30) ∧ (H25.1 1826 30) ≤ (H.1 1826 29)), (by omega : 0 ≤ (H25.1 1826 35) ∧ (H25.1 1826 35) ≤ 5), (by omega : (H.1 1826 35) ≠ 0 → (H25.1 1826 35) ≠ 0), (by omega : 0 ≤ (H25.1 1826 32) ∧ (H25.1 1826 32) ≤ 1000), ha42, (fun (q : (H25.1 1826 35) = 0) => absurd q (by omega))⟩
        · have b15x : (H9.1 1826 35) ≠ 0 := b15
          clear hx9g
          refine h_run 0 (pc' := 205) (l' := [(0, .inr (.inr 1826)), (1, .inl (f : Int)), (2, .inl (r : Int)), (3, .inl (i : Int))]) (st' := [.inl 0]) rfl ?_
          refine h_zeq (off := 14) (t := 219) rfl rfl (by decide) (fun _ => ?_) (fun c => absurd c (by decide))
          refine h_run 1 (pc' := 220) (l' := [(0, .inr (.inr 1826)), (1, .inl (f : Int)), (2, .inl (r : Int)), (3, .inl (i : Int))]) (st' := [.inr (.inr 1826)]) rfl ?_
          refine h_cv (i := 293) (j := 158) (b := 1826) (M' := mt_158) (xs := []) (rest := []) rfl rfl rfl rfl rfl rfl (Nat.le_of_ble_eq_true rfl) (Nat.le_of_ble_eq_true rfl) (by omega) (m_good0 (by omega) (by omega : (H9.1 1826 35) ≠ 0)) ?_
          rintro _ _ ⟨rfl, rfl⟩
          refine h_run 0 (pc' := 223) (l' := [(0, .inr (.inr 1826)), (1, .inl (f : Int)), (2, .inl (r : Int)), (3, .inl (i : Int))]) (st' := [.inl 0]) rfl ?_
          refine h_zeq (off := 56) (t := 279) rfl rfl (by decide) (fun _ => ?_) (fun c => absurd c (by decide))
          refine h_ret rfl rfl ?_
          have g76 : -2147483648 ≤ (H9.1 1826 30) ∧ (H9.1 1826 30) ≤ 2147483647 := hrg11.1 1826 13 30 _ .int rfl rfl
          have g77 : -2147483648 ≤ (H9.1 1826 32) ∧ (H9.1 1826 32) ≤ 2147483647 := hrg11.1 1826 13 32 _ .int rfl rfl
          have g78 : -2147483648 ≤ (H9.1 1826 29) ∧ (H9.1 1826 29) ≤ 2147483647 := hrg11.1 1826 13 29 _ .int rfl rfl
          have e79 : (H9.1 1826 29) = (H1.1 1826 29) := hx9f.2.2 29 (by decide)
          have g80 : -2147483648 ≤ (H9.1 1826 1) ∧ (H9.1 1826 1) ≤ 2147483647 := hrg11.1 1826 13 1 _ .int rfl rfl
          have e81 : (H9.1 1826 1) = (H1.1 1826 1) := hx9f.2.2 1 (by decide)
          have e82 : (H1.1 1826 1) = (H.1 1826 1) := hf.2.2 1 (by decide)
          have g83 : -2147483648 ≤ (H9.1 1826 3) ∧ (H9.1 1826 3) ≤ 2147483647 := hrg11.1 1826 13 3 _ .int rfl rfl
          have e84 : (H9.1 1826 3) = (H1.1 1826 3) := hx9f.2.2 3 (by decide)
          have e85 : (H1.1 1826 3) = (H.1 1826 3) := hf.2.2 3 (by decide)
          have g86 : -2147483648 ≤ (H9.1 1826 8) ∧ (H9.1 1826 8) ≤ 2147483647 := hrg11.1 1826 13 8 _ .int rfl rfl
          have e87 : (H9.1 1826 8) = (H1.1 1826 8) := hx9f.2.2 8 (by decide)
          have e88 : (H1.1 1826 8) = (H.1 1826 8) := hf.2.2 8 (by decide)
          have g89 : -2147483648 ≤ (H9.1 1826 13) ∧ (H9.1 1826 13) ≤ 2147483647 := hrg11.1 1826 13 13 _ .int rfl rfl
          have e90 : (H9.1 1826 13) = (H1.1 1826 13) := hx9f.2.2 13 (by decide)
          have g91 : -2147483648 ≤ (H9.1 1826 19) ∧ (H9.1 1826 19) ≤ 2147483647 := hrg11.1 1826 13 19 _ .int rfl rfl
          have e92 : (H9.1 1826 19) = (H1.1 1826 19) := hx9f.2.2 19 (by decide)
          have e93 : (H1.1 1826 19) = (H.1 1826 19) := hf.2.2 19 (by decide)
          exact ⟨rfl, (fr_o (fr_o (fr_o (fr_o hf12 (by decide)) (by decide)) (by decide)) (by decide)), (by omega : (H.1 1826 30) ≤ (H9.1 1826 30) ∧ (H9.1 1826 30) ≤ (H.1 1826 29)), (by omega : 0 ≤ (H9.1 1826 35) ∧ (H9.1 1826 35) ≤ 5), (by omega : (H.1 1826 35) ≠ 0 → (H9.1 1826 35) ≠ 0), (by omega : 0 ≤ (H9.1 1826 32) ∧ (H9.1 1826 32) ≤ 1000), (agp_o (agp_o (agp_o (agp_o ha13 (by decide)) (by decide)) (by decide)) (by decide)), (fun (q : (H9.1 1826 35) = 0) => absurd q (by omega))⟩
      · refine h_run 10 (pc' := 167) (l' := [(0, .inr (.inr 1826)), (1, .inl (f : Int)), (2, .inl (r : Int)), (3, .inl (i : Int))]) (st' := [.inl (i : Int), .inr (.inr 1851), .inl ((48 * (r : Int)) + (i : Int)), .inr (.inr 1837)]) rfl ?_
        refine h_ild (c := 1851) (j := i) (i := (i : Int)) rfl rfl (by decide) rfl (by omega) ?_
        have g94 : -2147483648 ≤ (H1.1 1851 i) ∧ (H1.1 1851 i) ≤ 2147483647 := hrg1.2 1851 i 48 .int rfl (by omega)
        refine h_run 0 (pc' := 168) (l' := [(0, .inr (.inr 1826)), (1, .inl (f : Int)), (2, .inl (r : Int)), (3, .inl (i : Int))]) (st' := [.inl (H1.1 1851 i), .inl ((48 * (r : Int)) + (i : Int)), .inr (.inr 1837)]) rfl ?_
        refine h_ist (c := 1837) (j := ((48 * r) + i)) (i := ((48 * (r : Int)) + (i : Int))) (x := (H1.1 1851 i)) rfl rfl (by decide) (by decide) (by omega) (by omega) (by omega) ?_
        refine h_run 2 (pc' := 144) (l' := [(0, .inr (.inr 1826)), (1, .inl (f : Int)), (2, .inl (r : Int)), (3, .inl ((i : Int) + 1))]) (st' := []) rfl ?_
        have g95 : -2147483648 ≤ (H1.1 1826 30) ∧ (H1.1 1826 30) ≤ 2147483647 := hrg1.1 1826 13 30 _ .int rfl rfl
        have g96 : -2147483648 ≤ (H1.1 1826 35) ∧ (H1.1 1826 35) ≤ 2147483647 := hrg1.1 1826 13 35 _ .int rfl rfl
        have g97 : -2147483648 ≤ (H1.1 1826 32) ∧ (H1.1 1826 32) ≤ 2147483647 := hrg1.1 1826 13 32 _ .int rfl rfl
        have g98 : -2147483648 ≤ (H1.1 1826 31) ∧ (H1.1 1826 31) ≤ 2147483647 := hrg1.1 1826 13 31 _ .int rfl rfl
        have g99 : -2147483648 ≤ (H1.1 1826 29) ∧ (H1.1 1826 29) ≤ 2147483647 := hrg1.1 1826 13 29 _ .int rfl rfl
        have e100 : (H1.1 1826 29) = (H.1 1826 29) := hf.2.2 29 (by decide)
        have g101 : -2147483648 ≤ (H1.1 1826 1) ∧ (H1.1 1826 1) ≤ 2147483647 := hrg1.1 1826 13 1 _ .int rfl rfl
        have e102 : (H1.1 1826 1) = (H.1 1826 1) := hf.2.2 1 (by decide)
        have g103 : -2147483648 ≤ (H1.1 1826 3) ∧ (H1.1 1826 3) ≤ 2147483647 := hrg1.1 1826 13 3 _ .int rfl rfl
        have e104 : (H1.1 1826 3) = (H.1 1826 3) := hf.2.2 3 (by decide)
        have g105 : -2147483648 ≤ (H1.1 1826 8) ∧ (H1.1 1826 8) ≤ 2147483647 := hrg1.1 1826 13 8 _ .int rfl rfl
        have e106 : (H1.1 1826 8) = (H.1 1826 8) := hf.2.2 8 (by decide)
        have g107 : -2147483648 ≤ (H1.1 1826 13) ∧ (H1.1 1826 13) ≤ 2147483647 := hrg1.1 1826 13 13 _ .int rfl rfl
        have g108 : -2147483648 ≤ (H1.1 1826 19) ∧ (H1.1 1826 19) ≤ 2147483647 := hrg1.1 1826 13 19 _ .int rfl rfl
        have e109 : (H1.1 1826 19) = (H.1 1826 19) := hf.2.2 19 (by decide)
        have g110 : -2147483648 ≤ (H1.1 1826 39) ∧ (H1.1 1826 39) ≤ 2147483647 := hrg1.1 1826 13 39 _ .int rfl rfl
        rw [show ((i : Int) + 1) = (((i + 1) : Nat) : Int) by omega]
        exact ih.1 _ r f (i + 1) (kl) (q) (fr_a hf (by decide)) (by omega : (H.1 1826 30) ≤ (H1.1 1826 30) ∧ (H1.1 1826 30) ≤ (H.1 1826 29)) (by omega : 0 ≤ (H1.1 1826 35) ∧ (H1.1 1826 35) ≤ 5) (by omega : 0 ≤ (H1.1 1826 32) ∧ (H1.1 1826 32) ≤ 1000) (agp_1837 hag (by omega : 48 * (H.1 1826 13) ≤ ((((48 * r) + i) : Nat) : Int))) (by omega) (by omega : (H1.1 1826 35) = 0) (by omega : (r : Int) = (H.1 1826 13) ∧ (H.1 1826 13) ≤ 39) (by omega : (f : Int) < (H.1 1826 8)) (by omega : (H1.1 1826 1) = (H.1 1826 1) ∧ (H1.1 1826 3) = (H.1 1826 3) ∧ (H1.1 1826 8) = (H.1 1826 8) ∧ (H1.1 1826 13) = (H.1 1826 13) ∧ (H1.1 1826 19) = (H.1 1826 19)) hq9 hrf (by omega) (cp_up hcp : ∀ x, x < i + 1 → up (H1.1 1837) (48 * r + i) ((H1.1 1851) i) (48 * r + x) = (H1.1 1851) x) (by omega : 1000 + ((kl) - (i + 1)) < w)
    · intro H1 r f i kl q kr hf ha hk hst1 hag hw0 hgd hr hfu hcn hRL hkr hk9 hrt hi hcp hw
      refine h_rng (fun hrg111 => ?_)
      obtain ⟨⟨pb1, pb2, pb3, pb4, pb5⟩, pw1, pw2, pw3, pw4⟩ := (id hP : PW H (H.1 1826 1) (H.1 1826 3) (H.1 1826 8) (H.1 1826 13) (H.1 1826 19))
      refine h_run 3 (pc' := 243) (l' := [(0, .inr (.inr 1826)), (1, .inl (f : Int)), (2, .inl (r : Int)), (3, .inl (i : Int))]) (st' := [.inl (H1.1 1826 43), .inl (i : Int)]) rfl ?_
      have g112 : -2147483648 ≤ (H1.1 1826 43) ∧ (H1.1 1826 43) ≤ 2147483647 := hrg111.1 1826 13 43 _ .int rfl rfl
      refine h_ige (off := 26) (t := 269) rfl rfl (by omega) (by omega) (fun c113 => ?_) (fun c113 => ?_)
      · refine h_run 3 (pc' := 274) (l' := [(0, .inr (.inr 1826)), (1, .inl (f : Int)), (2, .inl (r : Int)), (3, .inl (i : Int))]) (st' := [.inl (H1.1 1826 13), .inr (.inr 1826)]) rfl ?_
        have g114 : -2147483648 ≤ (H1.1 1826 13) ∧ (H1.1 1826 13) ≤ 2147483647 := hrg111.1 1826 13 13 _ .int rfl rfl
        refine h_run 2 (pc' := 276) (l' := [(0, .inr (.inr 1826)), (1, .inl (f : Int)), (2, .inl (r : Int)), (3, .inl (i : Int))]) (st' := [.inl ((H1.1 1826 13) + 1), .inr (.inr 1826)]) rfl ?_
        refine h_puti (i := 376) (ci := 13) (k := 13) (a := 1826) (x := ((H1.1 1826 13) + 1)) rfl rfl rfl rfl rfl rfl (by decide) (by omega) ?_
        refine h_ret rfl rfl ?_
        have g115 : -2147483648 ≤ (H1.1 1826 30) ∧ (H1.1 1826 30) ≤ 2147483647 := hrg111.1 1826 13 30 _ .int rfl rfl
        have g116 : -2147483648 ≤ (H1.1 1826 35) ∧ (H1.1 1826 35) ≤ 2147483647 := hrg111.1 1826 13 35 _ .int rfl rfl
        have g117 : -2147483648 ≤ (H1.1 1826 32) ∧ (H1.1 1826 32) ≤ 2147483647 := hrg111.1 1826 13 32 _ .int rfl rfl
        have g118 : -2147483648 ≤ (H1.1 1826 29) ∧ (H1.1 1826 29) ≤ 2147483647 := hrg111.1 1826 13 29 _ .int rfl rfl
        have e119 : (H1.1 1826 29) = (H.1 1826 29) := hf.2.2 29 (by decide)
        have g120 : -2147483648 ≤ (H1.1 1826 1) ∧ (H1.1 1826 1) ≤ 2147483647 := hrg111.1 1826 13 1 _ .int rfl rfl
        have e121 : (H1.1 1826 1) = (H.1 1826 1) := hf.2.2 1 (by decide)
        have g122 : -2147483648 ≤ (H1.1 1826 3) ∧ (H1.1 1826 3) ≤ 2147483647 := hrg111.1 1826 13 3 _ .int rfl rfl
        have e123 : (H1.1 1826 3) = (H.1 1826 3) := hf.2.2 3 (by decide)
        have g124 : -2147483648 ≤ (H1.1 1826 8) ∧ (H1.1 1826 8) ≤ 2147483647 := hrg111.1 1826 13 8 _ .int rfl rfl
        have e125 : (H1.1 1826 8) = (H.1 1826 8) := hf.2.2 8 (by decide)
        have g126 : -2147483648 ≤ (H1.1 1826 19) ∧ (H1.1 1826 19) ≤ 2147483647 := hrg111.1 1826 13 19 _ .int rfl rfl
        have e127 : (H1.1 1826 19) = (H.1 1826 19) := hf.2.2 19 (by decide)
        exact ⟨rfl, (fr_o hf (by decide)), (by omega : (H.1 1826 30) ≤ (H1.1 1826 30) ∧ (H1.1 1826 30) ≤ (H.1 1826 29)), (by omega : 0 ≤ (H1.1 1826 35) ∧ (H1.1 1826 35) ≤ 5), (by omega : (H.1 1826 35) ≠ 0 → (H1.1 1826 35) ≠ 0), (by omega : 0 ≤ (H1.1 1826 32) ∧ (H1.1 1826 32) ≤ 1000), (agp_n13 hag (by omega : (H.1 1826 13) ≤ ((H1.1 1826 13) + 1))), (fun _ => PW_rule (r := r) (f := f) (kl := kl) (q := q) (kr := kr) hP (agp_n13 hag (by omega : (H.1 1826 13) ≤ ((H1.1 1826 13) + 1))) ⟨hcn.1, hcn.2.1, hcn.2.2.1, hcn.2.2.2.2⟩ ⟨by omega, by omega, (by omega : ((H1.1 1826 13) + 1) = (H.1 1826 13) + 1)⟩ hRL (by omega : (f : Int) < (H1.1 1826 8)) ⟨hkr, by omega⟩ (tm_at hrt (fun x hx => by rw [Nat.zero_add]; exact hcp x (by omega))))⟩
      · refine h_run 10 (pc' := 261) (l' := [(0, .inr (.inr 1826)), (1, .inl (f : Int)), (2, .inl (r : Int)), (3, .inl (i : Int))]) (st' := [.inl (i : Int), .inr (.inr 1851), .inl ((48 * (r : Int)) + (i : Int)), .inr (.inr 1839)]) rfl ?_
        refine h_ild (c := 1851) (j := i) (i := (i : Int)) rfl rfl (by decide) rfl (by omega) ?_
        have g128 : -2147483648 ≤ (H1.1 1851 i) ∧ (H1.1 1851 i) ≤ 2147483647 := hrg111.2 1851 i 48 .int rfl (by omega)
        refine h_run 0 (pc' := 262) (l' := [(0, .inr (.inr 1826)), (1, .inl (f : Int)), (2, .inl (r : Int)), (3, .inl (i : Int))]) (st' := [.inl (H1.1 1851 i), .inl ((48 * (r : Int)) + (i : Int)), .inr (.inr 1839)]) rfl ?_
        refine h_ist (c := 1839) (j := ((48 * r) + i)) (i := ((48 * (r : Int)) + (i : Int))) (x := (H1.1 1851 i)) rfl rfl (by decide) (by decide) (by omega) (by omega) (by omega) ?_
        refine h_run 2 (pc' := 238) (l' := [(0, .inr (.inr 1826)), (1, .inl (f : Int)), (2, .inl (r : Int)), (3, .inl ((i : Int) + 1))]) (st' := []) rfl ?_
        have g129 : -2147483648 ≤ (H1.1 1826 30) ∧ (H1.1 1826 30) ≤ 2147483647 := hrg111.1 1826 13 30 _ .int rfl rfl
        have g130 : -2147483648 ≤ (H1.1 1826 35) ∧ (H1.1 1826 35) ≤ 2147483647 := hrg111.1 1826 13 35 _ .int rfl rfl
        have g131 : -2147483648 ≤ (H1.1 1826 32) ∧ (H1.1 1826 32) ≤ 2147483647 := hrg111.1 1826 13 32 _ .int rfl rfl
        have g132 : -2147483648 ≤ (H1.1 1826 31) ∧ (H1.1 1826 31) ≤ 2147483647 := hrg111.1 1826 13 31 _ .int rfl rfl
        have g133 : -2147483648 ≤ (H1.1 1826 29) ∧ (H1.1 1826 29) ≤ 2147483647 := hrg111.1 1826 13 29 _ .int rfl rfl
        have e134 : (H1.1 1826 29) = (H.1 1826 29) := hf.2.2 29 (by decide)
        have g135 : -2147483648 ≤ (H1.1 1826 1) ∧ (H1.1 1826 1) ≤ 2147483647 := hrg111.1 1826 13 1 _ .int rfl rfl
        have e136 : (H1.1 1826 1) = (H.1 1826 1) := hf.2.2 1 (by decide)
        have g137 : -2147483648 ≤ (H1.1 1826 3) ∧ (H1.1 1826 3) ≤ 2147483647 := hrg111.1 1826 13 3 _ .int rfl rfl
        have e138 : (H1.1 1826 3) = (H.1 1826 3) := hf.2.2 3 (by decide)
        have g139 : -2147483648 ≤ (H1.1 1826 8) ∧ (H1.1 1826 8) ≤ 2147483647 := hrg111.1 1826 13 8 _ .int rfl rfl
        have e140 : (H1.1 1826 8) = (H.1 1826 8) := hf.2.2 8 (by decide)
        have g141 : -2147483648 ≤ (H1.1 1826 13) ∧ (H1.1 1826 13) ≤ 2147483647 := hrg111.1 1826 13 13 _ .int rfl rfl
        have g142 : -2147483648 ≤ (H1.1 1826 19) ∧ (H1.1 1826 19) ≤ 2147483647 := hrg111.1 1826 13 19 _ .int rfl rfl
        have e143 : (H1.1 1826 19) = (H.1 1826 19) := hf.2.2 19 (by decide)
        have g144 : -2147483648 ≤ (H1.1 1826 39) ∧ (H1.1 1826 39) ≤ 2147483647 := hrg111.1 1826 13 39 _ .int rfl rfl
        rw [show ((i : Int) + 1) = (((i + 1) : Nat) : Int) by omega]
        exact ih.2 _ r f (i + 1) (kl) (q) (kr) (fr_a hf (by decide)) (by omega : (H.1 1826 30) ≤ (H1.1 1826 30) ∧ (H1.1 1826 30) ≤ (H.1 1826 29)) (by omega : 0 ≤ (H1.1 1826 35) ∧ (H1.1 1826 35) ≤ 5) (by omega : 0 ≤ (H1.1 1826 32) ∧ (H1.1 1826 32) ≤ 1000) (agp_1839 hag (by omega : 48 * (H.1 1826 13) ≤ ((((48 * r) + i) : Nat) : Int))) (by omega) (by omega : (H1.1 1826 35) = 0) (by omega : (r : Int) = (H.1 1826 13) ∧ (H.1 1826 13) ≤ 39) (by omega : (f : Int) < (H.1 1826 8)) (by omega : (H1.1 1826 1) = (H.1 1826 1) ∧ (H1.1 1826 3) = (H.1 1826 3) ∧ (H1.1 1826 8) = (H.1 1826 8) ∧ (H1.1 1826 13) = (H.1 1826 13) ∧ (H1.1 1826 19) = (H.1 1826 19)) hRL hkr (by omega : (H1.1 1826 43) = (kr) ∧ (kr) ≤ 40) hrt (by omega) (cp_up hcp : ∀ x, x < i + 1 → up (H1.1 1839) (48 * r + i) ((H1.1 1851) i) (48 * r + x) = (H1.1 1851) x) (by omega : ((kr) - (i + 1)) < w)
set_option maxRecDepth 100000 in
theorem m_rulem {zC : Nat → Option zsh} {d : Nat} (hd : 8 ≤ d) {H : hp}  (h0 : 0 ≤ (H.1 1826 30) ∧ (H.1 1826 30) ≤ (H.1 1826 29) ∧ (H.1 1826 29) ≤ 1000) (hw : 0 ≤ (H.1 1826 35) ∧ (H.1 1826 35) ≤ 5) (hst : 0 ≤ (H.1 1826 32) ∧ (H.1 1826 32) ≤ 1000) (hP : PWc H) (hw0 : (H.1 1826 35) = 0) : hG (zs zC) d mt_186 0 (zargs 0 [.inr (.inr 1826)]) [] H (fun r H2 => r = none ∧ fr [30, 31, 32, 33, 35, 36, 13, 39, 40, 41, 43, 44, 47] [1836, 1837, 1838, 1839, 1840, 1849, 1850, 1851, 1852, 1853, 1854] H H2 ∧ ((H.1 1826 30) ≤ (H2.1 1826 30) ∧ (H2.1 1826 30) ≤ (H.1 1826 29)) ∧ (0 ≤ (H2.1 1826 35) ∧ (H2.1 1826 35) ≤ 5) ∧ ((H.1 1826 35) ≠ 0 → (H2.1 1826 35) ≠ 0) ∧ (0 ≤ (H2.1 1826 32) ∧ (H2.1 1826 32) ≤ 1000) ∧ agp H H2 ∧ ((H2.1 1826 35) = 0 → PWc H2)) := by
  refine h_rng (fun hrg0 => ?_)
  refine h_run 0 (pc' := 0) (l' := [(0, .inr (.inr 1826))]) (st' := []) rfl ?_
  obtain ⟨⟨pb1, pb2, pb3, pb4, pb5⟩, pw1, pw2, pw3, pw4⟩ := (id hP : PW H (H.1 1826 1) (H.1 1826 3) (H.1 1826 8) (H.1 1826 13) (H.1 1826 19))
  refine h_run 2 (pc' := 4) (l' := [(0, .inr (.inr 1826))]) (st' := [.inl (H.1 1826 13)]) rfl ?_
  have g145 : -2147483648 ≤ (H.1 1826 13) ∧ (H.1 1826 13) ≤ 2147483647 := hrg0.1 1826 13 13 _ .int rfl rfl
  refine h_run 1 (pc' := 6) (l' := [(0, .inr (.inr 1826))]) (st' := [.inl 40, .inl (H.1 1826 13)]) rfl ?_
  refine h_ine (off := 9) (t := 15) rfl rfl (by omega) (by decide) (fun c146 => ?_) (fun c146 => ?_)
  · refine h_run 1 (pc' := 16) (l' := [(0, .inr (.inr 1826))]) (st' := [.inr (.inr 1826)]) rfl ?_
    have g147 : -2147483648 ≤ (H.1 1826 30) ∧ (H.1 1826 30) ≤ 2147483647 := hrg0.1 1826 13 30 _ .int rfl rfl
    have g148 : -2147483648 ≤ (H.1 1826 29) ∧ (H.1 1826 29) ≤ 2147483647 := hrg0.1 1826 13 29 _ .int rfl rfl
    have g149 : -2147483648 ≤ (H.1 1826 35) ∧ (H.1 1826 35) ≤ 2147483647 := hrg0.1 1826 13 35 _ .int rfl rfl
    have g150 : -2147483648 ≤ (H.1 1826 32) ∧ (H.1 1826 32) ≤ 2147483647 := hrg0.1 1826 13 32 _ .int rfl rfl
    refine h_cv (i := 297) (j := 165) (b := 1826) (M' := mt_165) (xs := []) (rest := []) rfl rfl rfl rfl rfl rfl (Nat.le_of_ble_eq_true rfl) (Nat.le_of_ble_eq_true rfl) (by omega) (m_next (by omega) (by omega : 0 ≤ (H.1 1826 30) ∧ (H.1 1826 30) ≤ (H.1 1826 29) ∧ (H.1 1826 29) ≤ 1000) (by omega : 0 ≤ (H.1 1826 35) ∧ (H.1 1826 35) ≤ 5) (by omega : 0 ≤ (H.1 1826 32) ∧ (H.1 1826 32) ≤ 1000)) ?_
    rintro _ H151 ⟨rfl, hx151f, hx151a, hx151b, hx151c, -, hx151e, hx151g⟩
    refine h_rng (fun hrg152 => ?_)
    have hf153 : fr [30, 31, 32, 33, 35, 36, 13, 39, 40, 41, 43, 44, 47] [1836, 1837, 1838, 1839, 1840, 1849, 1850, 1851, 1852, 1853, 1854] H H151 := fr_t (fr_rf _ _ _) hx151f (by decide) (by decide)
    have ha154 : agp H H151 := agp_tr (agp_rf _) (agp_fr hx151f (by decide) (by decide))
    replace hx151a : (H.1 1826 30) ≤ (H151.1 1826 30) := hx151a
    replace hx151b : (H151.1 1826 30) ≤ (H.1 1826 29) := hx151b
    replace hx151g : (H151.1 1826 35) = 0 → ((H151.1 1826 31) = 0 ∨ (H.1 1826 30) < (H151.1 1826 30)) := hx151g
    refine h_run 0 (pc' := 19) (l' := [(0, .inr (.inr 1826))]) (st' := []) rfl ?_
    refine h_run 1 (pc' := 20) (l' := [(0, .inr (.inr 1826))]) (st' := [.inr (.inr 1826)]) rfl ?_
    have g155 : -2147483648 ≤ (H151.1 1826 35) ∧ (H151.1 1826 35) ≤ 2147483647 := hrg152.1 1826 13 35 _ .int rfl rfl
    refine h_cv (i := 293) (j := 158) (b := 1826) (M' := mt_158) (xs := []) (rest := []) rfl rfl rfl rfl rfl rfl (Nat.le_of_ble_eq_true rfl) (Nat.le_of_ble_eq_true rfl) (by omega) (m_good (by omega)) ?_
    rintro _ _ ⟨⟨rfl, b156⟩ | ⟨rfl, b156⟩, rfl⟩
    · have b156x : (H151.1 1826 35) = 0 := b156
      replace hx151g := hx151g b156x
      refine h_run 0 (pc' := 23) (l' := [(0, .inr (.inr 1826))]) (st' := [.inl 1]) rfl ?_
      refine h_zeq (off := 16) (t := 39) rfl rfl (by decide) (fun c => absurd c (by decide)) (fun _ => ?_)
      refine h_run 2 (pc' := 30) (l' := [(0, .inr (.inr 1826))]) (st' := [.inl (H151.1 1826 31)]) rfl ?_
      have g157 : -2147483648 ≤ (H151.1 1826 31) ∧ (H151.1 1826 31) ≤ 2147483647 := hrg152.1 1826 13 31 _ .int rfl rfl
      refine h_run 1 (pc' := 31) (l' := [(0, .inr (.inr 1826))]) (st' := [.inl 1, .inl (H151.1 1826 31)]) rfl ?_
      refine h_ieq (off := 8) (t := 39) rfl rfl (by omega) (by decide) (fun c158 => ?_) (fun c158 => ?_)
      · refine h_run 1 (pc' := 40) (l' := [(0, .inr (.inr 1826))]) (st' := [.inr (.inr 1826)]) rfl ?_
        refine h_cv (i := 293) (j := 158) (b := 1826) (M' := mt_158) (xs := []) (rest := []) rfl rfl rfl rfl rfl rfl (Nat.le_of_ble_eq_true rfl) (Nat.le_of_ble_eq_true rfl) (by omega) (m_good1 (by omega) (by omega : (H151.1 1826 35) = 0)) ?_
        rintro _ _ ⟨rfl, rfl⟩
        refine h_run 0 (pc' := 43) (l' := [(0, .inr (.inr 1826))]) (st' := [.inl 1]) rfl ?_
        refine h_zeq (off := 21) (t := 64) rfl rfl (by decide) (fun c => absurd c (by decide)) (fun _ => ?_)
        refine h_run 4 (pc' := 54) (l' := [(0, .inr (.inr 1826))]) (st' := [.inl (H151.1 1826 8), .inr (.inr 1832)]) rfl ?_
        have g159 : -2147483648 ≤ (H151.1 1826 8) ∧ (H151.1 1826 8) ≤ 2147483647 := hrg152.1 1826 13 8 _ .int rfl rfl
        have e160 : (H151.1 1826 8) = (H.1 1826 8) := hx151f.2.2 8 (by decide)
        refine h_run 2 (pc' := 58) (l' := [(0, .inr (.inr 1826))]) (st' := [.inr (.inl (H151.1 1826 33)), .inl (H151.1 1826 8), .inr (.inr 1832)]) rfl ?_
        have g161 : -9223372036854775808 ≤ (H151.1 1826 33) ∧ (H151.1 1826 33) ≤ 9223372036854775807 := hrg152.1 1826 13 33 _ .long rfl rfl
        refine h_cs (i := 309) (j := 167) (M' := mt_167) (xs := [.inr (.inl (H151.1 1826 33)), .inl (H151.1 1826 8), .inr (.inr 1832)]) (rest := []) rfl rfl rfl rfl rfl (Nat.le_of_ble_eq_true rfl) (Nat.le_of_ble_eq_true rfl) (by omega) (m_find (by omega) (m := 16) rfl (by omega : 0 ≤ (H151.1 1826 8) ∧ (H151.1 1826 8) ≤ ((16 : Nat) : Int) ∧ 16 ≤ 100) (by omega)) ?_
        rintro _ _ ⟨⟨k162, rfl, f163, f163x⟩ | ⟨rfl, f163⟩, rfl⟩
        · refine h_run 0 (pc' := 61) (l' := [(0, .inr (.inr 1826))]) (st' := [.inl (k162 : Int)]) rfl ?_
          refine h_run 3 (pc' := 67) (l' := [(0, .inr (.inr 1826)), (1, .inl (k162 : Int))]) (st' := [.inr (.inr 1826)]) rfl ?_
          refine h_cv (i := 293) (j := 158) (b := 1826) (M' := mt_158) (xs := []) (rest := []) rfl rfl rfl rfl rfl rfl (Nat.le_of_ble_eq_true rfl) (Nat.le_of_ble_eq_true rfl) (by omega) (m_good1 (by omega) (by omega : (H151.1 1826 35) = 0)) ?_
          rintro _ _ ⟨rfl, rfl⟩
          refine h_run 0 (pc' := 70) (l' := [(0, .inr (.inr 1826)), (1, .inl (k162 : Int))]) (st' := [.inl 1]) rfl ?_
          refine h_zeq (off := 13) (t := 83) rfl rfl (by decide) (fun c => absurd c (by decide)) (fun _ => ?_)
          refine h_run 2 (pc' := 75) (l' := [(0, .inr (.inr 1826)), (1, .inl (k162 : Int))]) (st' := [.inl (-1), .inl (k162 : Int)]) rfl ?_
          refine h_ine (off := 8) (t := 83) rfl rfl (by omega) (by decide) (fun c164 => ?_) (fun c164 => ?_)
          · refine h_run 1 (pc' := 84) (l' := [(0, .inr (.inr 1826)), (1, .inl (k162 : Int))]) (st' := [.inr (.inr 1826)]) rfl ?_
            refine h_cv (i := 293) (j := 158) (b := 1826) (M' := mt_158) (xs := []) (rest := []) rfl rfl rfl rfl rfl rfl (Nat.le_of_ble_eq_true rfl) (Nat.le_of_ble_eq_true rfl) (by omega) (m_good1 (by omega) (by omega : (H151.1 1826 35) = 0)) ?_
            rintro _ _ ⟨rfl, rfl⟩
            refine h_run 0 (pc' := 87) (l' := [(0, .inr (.inr 1826)), (1, .inl (k162 : Int))]) (st' := [.inl 1]) rfl ?_
            refine h_zne (off := 4) (t := 91) rfl rfl (by decide) (fun _ => ?_) (fun c => absurd c (by decide))
            refine h_run 1 (pc' := 92) (l' := [(0, .inr (.inr 1826)), (1, .inl (k162 : Int))]) (st' := [.inr (.inr 1826)]) rfl ?_
            refine h_cv (i := 379) (j := 185) (b := 1826) (M' := mt_185) (xs := []) (rest := []) rfl rfl rfl rfl rfl rfl (Nat.le_of_ble_eq_true rfl) (Nat.le_of_ble_eq_true rfl) (by omega) (m_beginTerm (by omega)) ?_
            rintro _ _ ⟨rfl, rfl⟩
            refine h_run 0 (pc' := 95) (l' := [(0, .inr (.inr 1826)), (1, .inl (k162 : Int))]) (st' := []) rfl ?_
            refine h_run 1 (pc' := 96) (l' := [(0, .inr (.inr 1826)), (1, .inl (k162 : Int))]) (st' := [.inr (.inr 1826)]) rfl ?_
            refine h_cv (i := 344) (j := 168) (b := 1826) (M' := mt_168) (xs := []) (rest := []) rfl rfl rfl rfl rfl rfl (Nat.le_of_ble_eq_true rfl) (Nat.le_of_ble_eq_true rfl) (by omega) (m_countA (by omega) (by omega : (H151.1 1826 35) = 0) (by omega : 0 ≤ (0 : Int) ∧ (0 : Int) ≤ 1000) (by omega : (0 : Int) ≠ 40)) ?_
            rintro _ _ ⟨rfl, rfl⟩
            refine h_run 0 (pc' := 99) (l' := [(0, .inr (.inr 1826)), (1, .inl (k162 : Int))]) (st' := []) rfl ?_
            refine h_run 1 (pc' := 100) (l' := [(0, .inr (.inr 1826)), (1, .inl (k162 : Int))]) (st' := [.inr (.inr 1826)]) rfl ?_
            have g165 : -2147483648 ≤ (H151.1 1826 30) ∧ (H151.1 1826 30) ≤ 2147483647 := hrg152.1 1826 13 30 _ .int rfl rfl
            have g166 : -2147483648 ≤ (H151.1 1826 29) ∧ (H151.1 1826 29) ≤ 2147483647 := hrg152.1 1826 13 29 _ .int rfl rfl
            have e167 : (H151.1 1826 29) = (H.1 1826 29) := hx151f.2.2 29 (by decide)
            have g168 : -2147483648 ≤ (H151.1 1826 32) ∧ (H151.1 1826 32) ≤ 2147483647 := hrg152.1 1826 13 32 _ .int rfl rfl
            refine h_cv (i := 297) (j := 165) (b := 1826) (M' := mt_165) (xs := []) (rest := []) rfl rfl rfl rfl rfl rfl (Nat.le_of_ble_eq_true rfl) (Nat.le_of_ble_eq_true rfl) (by omega) (m_next (by omega) (by omega : 0 ≤ (H151.1 1826 30) ∧ (H151.1 1826 30) ≤ (H151.1 1826 29) ∧ (H151.1 1826 29) ≤ 1000) (by omega : 0 ≤ (H151.1 1826 35) ∧ (H151.1 1826 35) ≤ 5) (by omega : 0 ≤ (H151.1 1826 32) ∧ (H151.1 1826 32) ≤ 1000)) ?_
            rintro _ H169 ⟨rfl, hx169f, hx169a, hx169b, hx169c, -, hx169e, hx169g⟩
            refine h_rng (fun hrg170 => ?_)
            have hf171 : fr [30, 31, 32, 33, 35, 36, 13, 39, 40, 41, 43, 44, 47] [1836, 1837, 1838, 1839, 1840, 1849, 1850, 1851, 1852, 1853, 1854] H H169 := fr_t (fr_o (fr_o (fr_o (fr_o (fr_o hf153 (by decide)) (by decide)) (by decide)) (by decide)) (by decide)) hx169f (by decide) (by decide)
            have ha172 : agp H H169 := agp_tr (agp_o (agp_o (agp_o (agp_o (agp_o ha154 (by decide)) (by decide)) (by decide)) (by decide)) (by decide)) (agp_fr hx169f (by decide) (by decide))
            replace hx169a : (H151.1 1826 30) ≤ (H169.1 1826 30) := hx169a
            replace hx169b : (H169.1 1826 30) ≤ (H151.1 1826 29) := hx169b
            replace hx169g : (H169.1 1826 35) = 0 → ((H169.1 1826 31) = 0 ∨ (H151.1 1826 30) < (H169.1 1826 30)) := hx169g
            refine h_run 0 (pc' := 103) (l' := [(0, .inr (.inr 1826)), (1, .inl (k162 : Int))]) (st' := []) rfl ?_
            refine h_run 2 (pc' := 105) (l' := [(0, .inr (.inr 1826)), (1, .inl (k162 : Int))]) (st' := [.inl 0, .inr (.inr 1826)]) rfl ?_
            refine h_puti (i := 367) (ci := 13) (k := 44) (a := 1826) (x := 0) rfl rfl rfl rfl rfl rfl (by decide) (by decide) ?_
            refine h_run 2 (pc' := 110) (l' := [(0, .inr (.inr 1826)), (1, .inl (k162 : Int))]) (st' := [.inl (k162 : Int), .inr (.inr 1826)]) rfl ?_
            have g173 : -2147483648 ≤ (H169.1 1826 30) ∧ (H169.1 1826 30) ≤ 2147483647 := hrg170.1 1826 13 30 _ .int rfl rfl
            have g174 : -2147483648 ≤ (H169.1 1826 29) ∧ (H169.1 1826 29) ≤ 2147483647 := hrg170.1 1826 13 29 _ .int rfl rfl
            have e175 : (H169.1 1826 29) = (H151.1 1826 29) := hx169f.2.2 29 (by decide)
            have g176 : -2147483648 ≤ (H169.1 1826 35) ∧ (H169.1 1826 35) ≤ 2147483647 := hrg170.1 1826 13 35 _ .int rfl rfl
            have g177 : -2147483648 ≤ (H169.1 1826 8) ∧ (H169.1 1826 8) ≤ 2147483647 := hrg170.1 1826 13 8 _ .int rfl rfl
            have e178 : (H169.1 1826 8) = (H151.1 1826 8) := hx169f.2.2 8 (by decide)
            have g180 : -2147483648 ≤ (H169.1 1826 32) ∧ (H169.1 1826 32) ≤ 2147483647 := hrg170.1 1826 13 32 _ .int rfl rfl
            have g181 : -2147483648 ≤ (H169.1 1826 1) ∧ (H169.1 1826 1) ≤ 2147483647 := hrg170.1 1826 13 1 _ .int rfl rfl
            have e182 : (H169.1 1826 1) = (H151.1 1826 1) := hx169f.2.2 1 (by decide)
            have e183 : (H151.1 1826 1) = (H.1 1826 1) := hx151f.2.2 1 (by decide)
            have g184 : -2147483648 ≤ (H169.1 1826 3) ∧ (H169.1 1826 3) ≤ 2147483647 := hrg170.1 1826 13 3 _ .int rfl rfl
            have e185 : (H169.1 1826 3) = (H151.1 1826 3) := hx169f.2.2 3 (by decide)
            have e186 : (H151.1 1826 3) = (H.1 1826 3) := hx151f.2.2 3 (by decide)
            have g187 : -2147483648 ≤ (H169.1 1826 13) ∧ (H169.1 1826 13) ≤ 2147483647 := hrg170.1 1826 13 13 _ .int rfl rfl
            have e188 : (H169.1 1826 13) = (H151.1 1826 13) := hx169f.2.2 13 (by decide)
            have e189 : (H151.1 1826 13) = (H.1 1826 13) := hx151f.2.2 13 (by decide)
            have g190 : -2147483648 ≤ (H169.1 1826 19) ∧ (H169.1 1826 19) ≤ 2147483647 := hrg170.1 1826 13 19 _ .int rfl rfl
            have e191 : (H169.1 1826 19) = (H151.1 1826 19) := hx169f.2.2 19 (by decide)
            have e192 : (H151.1 1826 19) = (H.1 1826 19) := hx151f.2.2 19 (by decide)
            refine h_cv (i := 382) (j := 178) (b := 1826) (M' := mt_178) (xs := [.inl (k162 : Int)]) (rest := []) rfl rfl rfl rfl rfl rfl (Nat.le_of_ble_eq_true rfl) (Nat.le_of_ble_eq_true rfl) (by omega) (m_patterns (by omega) (by omega : 0 ≤ (H169.1 1826 30) ∧ (H169.1 1826 30) ≤ (H169.1 1826 29) ∧ (H169.1 1826 29) ≤ 1000) (by omega : 0 ≤ (H169.1 1826 35) ∧ (H169.1 1826 35) ≤ 5) (by omega : 0 ≤ (H169.1 1826 32) ∧ (H169.1 1826 32) ≤ 1000) (PWc_agp hP (agp_o ha172 (by decide)) ⟨(by omega : (H169.1 1826 1) = (H.1 1826 1)), (by omega : (H169.1 1826 3) = (H.1 1826 3)), (by omega : (H169.1 1826 8) = (H.1 1826 8)), (by omega : (H169.1 1826 13) = (H.1 1826 13)), (by omega : (H169.1 1826 19) = (H.1 1826 19))⟩) (by omega : (k162 : Int) < (H169.1 1826 8)) (fun _ => ⟨(hx169f.2.2 40 (by decide)), (hx169f.2.2 43 (by decide)), (hx169f.2.2 39 (by decide)), (hx169f.2.2 41 (by decide))⟩)) ?_
            rintro _ H179 ⟨rfl, hx179f, hx179a, hx179c, hx179d, hx179e, hx179p⟩
            refine h_rng (fun hrg193 => ?_)
            have hf194 : fr [30, 31, 32, 33, 35, 36, 13, 39, 40, 41, 43, 44, 47] [1836, 1837, 1838, 1839, 1840, 1849, 1850, 1851, 1852, 1853, 1854] H H179 := fr_t (fr_o hf171 (by decide)) hx179f (by decide) (by decide)
            have ha195 : agp H H179 := agp_tr (agp_o ha172 (by decide)) (agp_fr hx179f (by decide) (by decide))
            replace hx179a : (H169.1 1826 30) ≤ (H179.1 1826 30) ∧ (H179.1 1826 30) ≤ (H169.1 1826 29) := hx179a
            replace hx179d : (H169.1 1826 35) ≠ 0 → (H179.1 1826 35) ≠ 0 := hx179d
            refine h_run 0 (pc' := 113) (l' := [(0, .inr (.inr 1826)), (1, .inl (k162 : Int))]) (st' := []) rfl ?_
            refine h_run 2 (pc' := 117) (l' := [(0, .inr (.inr 1826)), (1, .inl (k162 : Int))]) (st' := [.inl (H179.1 1826 13)]) rfl ?_
            have g196 : -2147483648 ≤ (H179.1 1826 13) ∧ (H179.1 1826 13) ≤ 2147483647 := hrg193.1 1826 13 13 _ .int rfl rfl
            have e197 : (H179.1 1826 13) = (H169.1 1826 13) := hx179f.2.2 13 (by decide)
            refine h_run 2 (pc' := 119) (l' := [(0, .inr (.inr 1826)), (1, .inl (k162 : Int)), (2, .inl (H179.1 1826 13))]) (st' := [.inr (.inr 1826)]) rfl ?_
            have g198 : -2147483648 ≤ (H179.1 1826 35) ∧ (H179.1 1826 35) ≤ 2147483647 := hrg193.1 1826 13 35 _ .int rfl rfl
            refine h_cv (i := 293) (j := 158) (b := 1826) (M' := mt_158) (xs := []) (rest := []) rfl rfl rfl rfl rfl rfl (Nat.le_of_ble_eq_true rfl) (Nat.le_of_ble_eq_true rfl) (by omega) (m_good (by omega)) ?_
            rintro _ _ ⟨⟨rfl, b199⟩ | ⟨rfl, b199⟩, rfl⟩
            · have b199x : (H179.1 1826 35) = 0 := b199
              refine h_run 0 (pc' := 122) (l' := [(0, .inr (.inr 1826)), (1, .inl (k162 : Int)), (2, .inl (H179.1 1826 13))]) (st' := [.inl 1]) rfl ?_
              refine h_zeq (off := 53) (t := 175) rfl rfl (by decide) (fun c => absurd c (by decide)) (fun _ => ?_)
              obtain ⟨kl, q, hp1, hp2, hp3, hp4, hp5, hp6⟩ := hx179p (by omega)
              refine h_run 4 (pc' := 131) (l' := [(0, .inr (.inr 1826)), (1, .inl (k162 : Int)), (2, .inl (H179.1 1826 13))]) (st' := [.inl (k162 : Int), .inl (H179.1 1826 13), .inr (.inr 1836)]) rfl ?_
              refine h_ist (c := 1836) (j := ((H179.1 1826 13)).toNat) (i := (H179.1 1826 13)) (x := (k162 : Int)) rfl rfl (by decide) (by decide) (by omega) (by omega) (by omega) ?_
              refine h_run 5 (pc' := 141) (l' := [(0, .inr (.inr 1826)), (1, .inl (k162 : Int)), (2, .inl (H179.1 1826 13))]) (st' := [.inl (H179.1 1826 43), .inl (H179.1 1826 13), .inr (.inr 1838)]) rfl ?_
              have g200 : -2147483648 ≤ (H179.1 1826 43) ∧ (H179.1 1826 43) ≤ 2147483647 := hrg193.1 1826 13 43 _ .int rfl rfl
              refine h_ist (c := 1838) (j := ((H179.1 1826 13)).toNat) (i := (H179.1 1826 13)) (x := (H179.1 1826 43)) rfl rfl (by decide) (by decide) (by omega) (by omega) (by omega) ?_
              refine h_run 2 (pc' := 144) (l' := [(0, .inr (.inr 1826)), (1, .inl (k162 : Int)), (2, .inl (H179.1 1826 13)), (3, .inl 0)]) (st' := []) rfl ?_
              have g201 : -2147483648 ≤ (H179.1 1826 30) ∧ (H179.1 1826 30) ≤ 2147483647 := hrg193.1 1826 13 30 _ .int rfl rfl
              have g202 : -2147483648 ≤ (H179.1 1826 32) ∧ (H179.1 1826 32) ≤ 2147483647 := hrg193.1 1826 13 32 _ .int rfl rfl
              have g203 : -2147483648 ≤ (H179.1 1826 31) ∧ (H179.1 1826 31) ≤ 2147483647 := hrg193.1 1826 13 31 _ .int rfl rfl
              have g204 : -2147483648 ≤ (H179.1 1826 29) ∧ (H179.1 1826 29) ≤ 2147483647 := hrg193.1 1826 13 29 _ .int rfl rfl
              have e205 : (H179.1 1826 29) = (H169.1 1826 29) := hx179f.2.2 29 (by decide)
              have g206 : -2147483648 ≤ (H179.1 1826 1) ∧ (H179.1 1826 1) ≤ 2147483647 := hrg193.1 1826 13 1 _ .int rfl rfl
              have e207 : (H179.1 1826 1) = (H169.1 1826 1) := hx179f.2.2 1 (by decide)
              have g208 : -2147483648 ≤ (H179.1 1826 3) ∧ (H179.1 1826 3) ≤ 2147483647 := hrg193.1 1826 13 3 _ .int rfl rfl
              have e209 : (H179.1 1826 3) = (H169.1 1826 3) := hx179f.2.2 3 (by decide)
              have g210 : -2147483648 ≤ (H179.1 1826 8) ∧ (H179.1 1826 8) ≤ 2147483647 := hrg193.1 1826 13 8 _ .int rfl rfl
              have e211 : (H179.1 1826 8) = (H169.1 1826 8) := hx179f.2.2 8 (by decide)
              have g212 : -2147483648 ≤ (H179.1 1826 19) ∧ (H179.1 1826 19) ≤ 2147483647 := hrg193.1 1826 13 19 _ .int rfl rfl
              have e213 : (H179.1 1826 19) = (H169.1 1826 19) := hx179f.2.2 19 (by decide)
              have g214 : -2147483648 ≤ (H179.1 1826 39) ∧ (H179.1 1826 39) ≤ 2147483647 := hrg193.1 1826 13 39 _ .int rfl rfl
              rw [show (H179.1 1826 13) = ((((H179.1 1826 13)).toNat : Nat) : Int) by omega]
              exact (m_rulem_cut hd h0 hw hst hP hw0 _).1 _ ((H179.1 1826 13)).toNat k162 0 (kl) (q) (fr_a (fr_a hf194 (by decide)) (by decide)) (by omega : (H.1 1826 30) ≤ (H179.1 1826 30) ∧ (H179.1 1826 30) ≤ (H.1 1826 29)) (by omega : 0 ≤ (H179.1 1826 35) ∧ (H179.1 1826 35) ≤ 5) (by omega : 0 ≤ (H179.1 1826 32) ∧ (H179.1 1826 32) ≤ 1000) (agp_1838 (agp_1836 ha195 (by omega : (H.1 1826 13) ≤ ((((H179.1 1826 13)).toNat : Nat) : Int))) (by omega : (H.1 1826 13) ≤ ((((H179.1 1826 13)).toNat : Nat) : Int))) (by omega) (by omega : (H179.1 1826 35) = 0) (by omega : (((H179.1 1826 13)).toNat : Int) = (H.1 1826 13) ∧ (H.1 1826 13) ≤ 39) (by omega : (k162 : Int) < (H.1 1826 8)) (by omega : (H179.1 1826 1) = (H.1 1826 1) ∧ (H179.1 1826 3) = (H.1 1826 3) ∧ (H179.1 1826 8) = (H.1 1826 8) ∧ (H179.1 1826 13) = (H.1 1826 13) ∧ (H179.1 1826 19) = (H.1 1826 19)) ⟨⟨hp1, hp2, hp3⟩, hp4, hp5, hp6⟩ ⟨up_eq _ _ _, (show up (H179.1 1838) ((H179.1 1826 13)).toNat ((H179.1 1826 43)) _ = (kl : Int) by rw [up_eq]; omega)⟩ (by omega) (fun x hx => absurd hx (Nat.not_lt_zero _)) (Nat.lt_succ_self _)
            · have b199x : (H179.1 1826 35) ≠ 0 := b199
              refine h_run 0 (pc' := 122) (l' := [(0, .inr (.inr 1826)), (1, .inl (k162 : Int)), (2, .inl (H179.1 1826 13))]) (st' := [.inl 0]) rfl ?_
              refine h_zeq (off := 53) (t := 175) rfl rfl (by decide) (fun _ => ?_) (fun c => absurd c (by decide))
              skip
              refine h_run 2 (pc' := 178) (l' := [(0, .inr (.inr 1826)), (1, .inl (k162 : Int)), (2, .inl (H179.1 1826 13))]) (st' := [.inl 61, .inr (.inr 1826)]) rfl ?_
              have g215 : -2147483648 ≤ (H179.1 1826 30) ∧ (H179.1 1826 30) ≤ 2147483647 := hrg193.1 1826 13 30 _ .int rfl rfl
              have g216 : -2147483648 ≤ (H179.1 1826 29) ∧ (H179.1 1826 29) ≤ 2147483647 := hrg193.1 1826 13 29 _ .int rfl rfl
              have e217 : (H179.1 1826 29) = (H169.1 1826 29) := hx179f.2.2 29 (by decide)
              have g218 : -2147483648 ≤ (H179.1 1826 31) ∧ (H179.1 1826 31) ≤ 2147483647 := hrg193.1 1826 13 31 _ .int rfl rfl
              have g220 : -2147483648 ≤ (H179.1 1826 32) ∧ (H179.1 1826 32) ≤ 2147483647 := hrg193.1 1826 13 32 _ .int rfl rfl
              refine h_cv (i := 313) (j := 166) (b := 1826) (M' := mt_166) (xs := [.inl 61]) (rest := []) rfl rfl rfl rfl rfl rfl (Nat.le_of_ble_eq_true rfl) (Nat.le_of_ble_eq_true rfl) (by omega) (m_want (by omega) (by omega : 0 ≤ (H179.1 1826 30) ∧ (H179.1 1826 30) ≤ (H179.1 1826 29) ∧ (H179.1 1826 29) ≤ 1000) (by omega : 0 ≤ (H179.1 1826 35) ∧ (H179.1 1826 35) ≤ 5) (by omega : 0 ≤ (H179.1 1826 32) ∧ (H179.1 1826 32) ≤ 1000) (by omega)) ?_
              rintro _ H219 ⟨rfl, hx219f, hx219a, hx219b, hx219c, hx219d, hx219e, hx219g⟩
              refine h_rng (fun hrg221 => ?_)
              have hf222 : fr [30, 31, 32, 33, 35, 36, 13, 39, 40, 41, 43, 44, 47] [1836, 1837, 1838, 1839, 1840, 1849, 1850, 1851, 1852, 1853, 1854] H H219 := fr_t hf194 hx219f (by decide) (by decide)
              have ha223 : agp H H219 := agp_tr ha195 (agp_fr hx219f (by decide) (by decide))
              replace hx219a : (H179.1 1826 30) ≤ (H219.1 1826 30) := hx219a
              replace hx219b : (H219.1 1826 30) ≤ (H179.1 1826 29) := hx219b
              replace hx219d : (H219.1 1826 35) = (H179.1 1826 35) := hx219d (by omega : (H179.1 1826 35) ≠ 0)
              replace hx219g : (H219.1 1826 35) = 0 → (H179.1 1826 31) = (61 : Int) ∧ ((H219.1 1826 31) = 0 ∨ (H179.1 1826 30) < (H219.1 1826 30)) := hx219g
              refine h_run 0 (pc' := 181) (l' := [(0, .inr (.inr 1826)), (1, .inl (k162 : Int)), (2, .inl (H179.1 1826 13))]) (st' := []) rfl ?_
              refine h_run 2 (pc' := 183) (l' := [(0, .inr (.inr 1826)), (1, .inl (k162 : Int)), (2, .inl (H179.1 1826 13))]) (st' := [.inl 0, .inr (.inr 1826)]) rfl ?_
              refine h_puti (i := 300) (ci := 13) (k := 40) (a := 1826) (x := 0) rfl rfl rfl rfl rfl rfl (by decide) (by decide) ?_
              refine h_run 2 (pc' := 188) (l' := [(0, .inr (.inr 1826)), (1, .inl (k162 : Int)), (2, .inl (H179.1 1826 13))]) (st' := [.inl 0, .inr (.inr 1826)]) rfl ?_
              refine h_puti (i := 335) (ci := 13) (k := 41) (a := 1826) (x := 0) rfl rfl rfl rfl rfl rfl (by decide) (by decide) ?_
              refine h_run 2 (pc' := 193) (l' := [(0, .inr (.inr 1826)), (1, .inl (k162 : Int)), (2, .inl (H179.1 1826 13))]) (st' := [.inl 0, .inr (.inr 1826)]) rfl ?_
              refine h_puti (i := 303) (ci := 13) (k := 43) (a := 1826) (x := 0) rfl rfl rfl rfl rfl rfl (by decide) (by decide) ?_
              refine h_run 2 (pc' := 198) (l' := [(0, .inr (.inr 1826)), (1, .inl (k162 : Int)), (2, .inl (H179.1 1826 13))]) (st' := [.inl 1, .inr (.inr 1826)]) rfl ?_
              refine h_puti (i := 367) (ci := 13) (k := 44) (a := 1826) (x := 1) rfl rfl rfl rfl rfl rfl (by decide) (by decide) ?_
              refine h_run 1 (pc' := 202) (l' := [(0, .inr (.inr 1826)), (1, .inl (k162 : Int)), (2, .inl (H179.1 1826 13))]) (st' := [.inr (.inr 1826)]) rfl ?_
              have g224 : -2147483648 ≤ (H219.1 1826 35) ∧ (H219.1 1826 35) ≤ 2147483647 := hrg221.1 1826 13 35 _ .int rfl rfl
              refine h_cv (i := 293) (j := 158) (b := 1826) (M' := mt_158) (xs := []) (rest := []) rfl rfl rfl rfl rfl rfl (Nat.le_of_ble_eq_true rfl) (Nat.le_of_ble_eq_true rfl) (by omega) (m_good0 (by omega) (by omega : (H219.1 1826 35) ≠ 0)) ?_
              rintro _ _ ⟨rfl, rfl⟩
              refine h_run 0 (pc' := 205) (l' := [(0, .inr (.inr 1826)), (1, .inl (k162 : Int)), (2, .inl (H179.1 1826 13))]) (st' := [.inl 0]) rfl ?_
              refine h_zeq (off := 14) (t := 219) rfl rfl (by decide) (fun _ => ?_) (fun c => absurd c (by decide))
              refine h_run 1 (pc' := 220) (l' := [(0, .inr (.inr 1826)), (1, .inl (k162 : Int)), (2, .inl (H179.1 1826 13))]) (st' := [.inr (.inr 1826)]) rfl ?_
              refine h_cv (i := 293) (j := 158) (b := 1826) (M' := mt_158) (xs := []) (rest := []) rfl rfl rfl rfl rfl rfl (Nat.le_of_ble_eq_true rfl) (Nat.le_of_ble_eq_true rfl) (by omega) (m_good0 (by omega) (by omega : (H219.1 1826 35) ≠ 0)) ?_
              rintro _ _ ⟨rfl, rfl⟩
              refine h_run 0 (pc' := 223) (l' := [(0, .inr (.inr 1826)), (1, .inl (k162 : Int)), (2, .inl (H179.1 1826 13))]) (st' := [.inl 0]) rfl ?_
              refine h_zeq (off := 56) (t := 279) rfl rfl (by decide) (fun _ => ?_) (fun c => absurd c (by decide))
              refine h_ret rfl rfl ?_
              have g225 : -2147483648 ≤ (H219.1 1826 30) ∧ (H219.1 1826 30) ≤ 2147483647 := hrg221.1 1826 13 30 _ .int rfl rfl
              have g226 : -2147483648 ≤ (H219.1 1826 32) ∧ (H219.1 1826 32) ≤ 2147483647 := hrg221.1 1826 13 32 _ .int rfl rfl
              have g227 : -2147483648 ≤ (H219.1 1826 29) ∧ (H219.1 1826 29) ≤ 2147483647 := hrg221.1 1826 13 29 _ .int rfl rfl
              have e228 : (H219.1 1826 29) = (H179.1 1826 29) := hx219f.2.2 29 (by decide)
              have g229 : -2147483648 ≤ (H219.1 1826 1) ∧ (H219.1 1826 1) ≤ 2147483647 := hrg221.1 1826 13 1 _ .int rfl rfl
              have e230 : (H219.1 1826 1) = (H179.1 1826 1) := hx219f.2.2 1 (by decide)
              have e231 : (H179.1 1826 1) = (H169.1 1826 1) := hx179f.2.2 1 (by decide)
              have g232 : -2147483648 ≤ (H219.1 1826 3) ∧ (H219.1 1826 3) ≤ 2147483647 := hrg221.1 1826 13 3 _ .int rfl rfl
              have e233 : (H219.1 1826 3) = (H179.1 1826 3) := hx219f.2.2 3 (by decide)
              have e234 : (H179.1 1826 3) = (H169.1 1826 3) := hx179f.2.2 3 (by decide)
              have g235 : -2147483648 ≤ (H219.1 1826 8) ∧ (H219.1 1826 8) ≤ 2147483647 := hrg221.1 1826 13 8 _ .int rfl rfl
              have e236 : (H219.1 1826 8) = (H179.1 1826 8) := hx219f.2.2 8 (by decide)
              have e237 : (H179.1 1826 8) = (H169.1 1826 8) := hx179f.2.2 8 (by decide)
              have g238 : -2147483648 ≤ (H219.1 1826 13) ∧ (H219.1 1826 13) ≤ 2147483647 := hrg221.1 1826 13 13 _ .int rfl rfl
              have e239 : (H219.1 1826 13) = (H179.1 1826 13) := hx219f.2.2 13 (by decide)
              have g240 : -2147483648 ≤ (H219.1 1826 19) ∧ (H219.1 1826 19) ≤ 2147483647 := hrg221.1 1826 13 19 _ .int rfl rfl
              have e241 : (H219.1 1826 19) = (H179.1 1826 19) := hx219f.2.2 19 (by decide)
              have e242 : (H179.1 1826 19) = (H169.1 1826 19) := hx179f.2.2 19 (by decide)
              exact ⟨rfl, (fr_o (fr_o (fr_o (fr_o hf222 (by decide)) (by decide)) (by decide)) (by decide)), (by omega : (H.1 1826 30) ≤ (H219.1 1826 30) ∧ (H219.1 1826 30) ≤ (H.1 1826 29)), (by omega : 0 ≤ (H219.1 1826 35) ∧ (H219.1 1826 35) ≤ 5), (by omega : (H.1 1826 35) ≠ 0 → (H219.1 1826 35) ≠ 0), (by omega : 0 ≤ (H219.1 1826 32) ∧ (H219.1 1826 32) ≤ 1000), (agp_o (agp_o (agp_o (agp_o ha223 (by decide)) (by decide)) (by decide)) (by decide)), (fun (q : (H219.1 1826 35) = 0) => absurd q (by omega))⟩
          · refine h_run 2 (pc' := 80) (l' := [(0, .inr (.inr 1826)), (1, .inl (k162 : Int))]) (st' := [.inl 3, .inr (.inr 1826)]) rfl ?_
            refine h_cv (i := 278) (j := 159) (b := 1826) (M' := mt_159) (xs := [.inl 3]) (rest := []) rfl rfl rfl rfl rfl rfl (Nat.le_of_ble_eq_true rfl) (Nat.le_of_ble_eq_true rfl) (by omega) (m_bad0 (by omega) (by omega) (by omega : (H151.1 1826 35) = 0)) ?_
            rintro _ _ ⟨rfl, rfl⟩
            refine h_run 0 (pc' := 83) (l' := [(0, .inr (.inr 1826)), (1, .inl (k162 : Int))]) (st' := []) rfl ?_
            refine h_run 1 (pc' := 84) (l' := [(0, .inr (.inr 1826)), (1, .inl (k162 : Int))]) (st' := [.inr (.inr 1826)]) rfl ?_
            refine h_cv (i := 293) (j := 158) (b := 1826) (M' := mt_158) (xs := []) (rest := []) rfl rfl rfl rfl rfl rfl (Nat.le_of_ble_eq_true rfl) (Nat.le_of_ble_eq_true rfl) (by omega) (m_good0 (by omega) (by omega : (3 : Int) ≠ 0)) ?_
            rintro _ _ ⟨rfl, rfl⟩
            refine h_run 0 (pc' := 87) (l' := [(0, .inr (.inr 1826)), (1, .inl (k162 : Int))]) (st' := [.inl 0]) rfl ?_
            refine h_zne (off := 4) (t := 91) rfl rfl (by decide) (fun c => absurd c (by decide)) (fun _ => ?_)
            refine h_ret rfl rfl ?_
            have g243 : -2147483648 ≤ (H151.1 1826 30) ∧ (H151.1 1826 30) ≤ 2147483647 := hrg152.1 1826 13 30 _ .int rfl rfl
            have g244 : -2147483648 ≤ (H151.1 1826 32) ∧ (H151.1 1826 32) ≤ 2147483647 := hrg152.1 1826 13 32 _ .int rfl rfl
            have g245 : -2147483648 ≤ (H151.1 1826 29) ∧ (H151.1 1826 29) ≤ 2147483647 := hrg152.1 1826 13 29 _ .int rfl rfl
            have e246 : (H151.1 1826 29) = (H.1 1826 29) := hx151f.2.2 29 (by decide)
            have g247 : -2147483648 ≤ (H151.1 1826 1) ∧ (H151.1 1826 1) ≤ 2147483647 := hrg152.1 1826 13 1 _ .int rfl rfl
            have e248 : (H151.1 1826 1) = (H.1 1826 1) := hx151f.2.2 1 (by decide)
            have g249 : -2147483648 ≤ (H151.1 1826 3) ∧ (H151.1 1826 3) ≤ 2147483647 := hrg152.1 1826 13 3 _ .int rfl rfl
            have e250 : (H151.1 1826 3) = (H.1 1826 3) := hx151f.2.2 3 (by decide)
            have g251 : -2147483648 ≤ (H151.1 1826 13) ∧ (H151.1 1826 13) ≤ 2147483647 := hrg152.1 1826 13 13 _ .int rfl rfl
            have e252 : (H151.1 1826 13) = (H.1 1826 13) := hx151f.2.2 13 (by decide)
            have g253 : -2147483648 ≤ (H151.1 1826 19) ∧ (H151.1 1826 19) ≤ 2147483647 := hrg152.1 1826 13 19 _ .int rfl rfl
            have e254 : (H151.1 1826 19) = (H.1 1826 19) := hx151f.2.2 19 (by decide)
            exact ⟨rfl, (fr_o (fr_o hf153 (by decide)) (by decide)), (by omega : (H.1 1826 30) ≤ (H151.1 1826 30) ∧ (H151.1 1826 30) ≤ (H.1 1826 29)), (by omega : 0 ≤ (3 : Int) ∧ (3 : Int) ≤ 5), (by omega : (H.1 1826 35) ≠ 0 → (3 : Int) ≠ 0), (by omega : 0 ≤ (H151.1 1826 32) ∧ (H151.1 1826 32) ≤ 1000), (agp_o (agp_o ha154 (by decide)) (by decide)), (fun (q : (3 : Int) = 0) => absurd q (by omega))⟩
        · refine h_run 0 (pc' := 61) (l' := [(0, .inr (.inr 1826))]) (st' := [.inl (-1)]) rfl ?_
          refine h_run 3 (pc' := 67) (l' := [(0, .inr (.inr 1826)), (1, .inl (-1))]) (st' := [.inr (.inr 1826)]) rfl ?_
          refine h_cv (i := 293) (j := 158) (b := 1826) (M' := mt_158) (xs := []) (rest := []) rfl rfl rfl rfl rfl rfl (Nat.le_of_ble_eq_true rfl) (Nat.le_of_ble_eq_true rfl) (by omega) (m_good1 (by omega) (by omega : (H151.1 1826 35) = 0)) ?_
          rintro _ _ ⟨rfl, rfl⟩
          refine h_run 0 (pc' := 70) (l' := [(0, .inr (.inr 1826)), (1, .inl (-1))]) (st' := [.inl 1]) rfl ?_
          refine h_zeq (off := 13) (t := 83) rfl rfl (by decide) (fun c => absurd c (by decide)) (fun _ => ?_)
          refine h_run 2 (pc' := 75) (l' := [(0, .inr (.inr 1826)), (1, .inl (-1))]) (st' := [.inl (-1), .inl (-1)]) rfl ?_
          refine h_ine (off := 8) (t := 83) rfl rfl (by decide) (by decide) (fun c => absurd c (by decide)) (fun _ => ?_)
          refine h_run 2 (pc' := 80) (l' := [(0, .inr (.inr 1826)), (1, .inl (-1))]) (st' := [.inl 3, .inr (.inr 1826)]) rfl ?_
          refine h_cv (i := 278) (j := 159) (b := 1826) (M' := mt_159) (xs := [.inl 3]) (rest := []) rfl rfl rfl rfl rfl rfl (Nat.le_of_ble_eq_true rfl) (Nat.le_of_ble_eq_true rfl) (by omega) (m_bad0 (by omega) (by omega) (by omega : (H151.1 1826 35) = 0)) ?_
          rintro _ _ ⟨rfl, rfl⟩
          refine h_run 0 (pc' := 83) (l' := [(0, .inr (.inr 1826)), (1, .inl (-1))]) (st' := []) rfl ?_
          refine h_run 1 (pc' := 84) (l' := [(0, .inr (.inr 1826)), (1, .inl (-1))]) (st' := [.inr (.inr 1826)]) rfl ?_
          refine h_cv (i := 293) (j := 158) (b := 1826) (M' := mt_158) (xs := []) (rest := []) rfl rfl rfl rfl rfl rfl (Nat.le_of_ble_eq_true rfl) (Nat.le_of_ble_eq_true rfl) (by omega) (m_good0 (by omega) (by omega : (3 : Int) ≠ 0)) ?_
          rintro _ _ ⟨rfl, rfl⟩
          refine h_run 0 (pc' := 87) (l' := [(0, .inr (.inr 1826)), (1, .inl (-1))]) (st' := [.inl 0]) rfl ?_
          refine h_zne (off := 4) (t := 91) rfl rfl (by decide) (fun c => absurd c (by decide)) (fun _ => ?_)
          refine h_ret rfl rfl ?_
          have g255 : -2147483648 ≤ (H151.1 1826 30) ∧ (H151.1 1826 30) ≤ 2147483647 := hrg152.1 1826 13 30 _ .int rfl rfl
          have g256 : -2147483648 ≤ (H151.1 1826 32) ∧ (H151.1 1826 32) ≤ 2147483647 := hrg152.1 1826 13 32 _ .int rfl rfl
          have g257 : -2147483648 ≤ (H151.1 1826 29) ∧ (H151.1 1826 29) ≤ 2147483647 := hrg152.1 1826 13 29 _ .int rfl rfl
          have e258 : (H151.1 1826 29) = (H.1 1826 29) := hx151f.2.2 29 (by decide)
          have g259 : -2147483648 ≤ (H151.1 1826 1) ∧ (H151.1 1826 1) ≤ 2147483647 := hrg152.1 1826 13 1 _ .int rfl rfl
          have e260 : (H151.1 1826 1) = (H.1 1826 1) := hx151f.2.2 1 (by decide)
          have g261 : -2147483648 ≤ (H151.1 1826 3) ∧ (H151.1 1826 3) ≤ 2147483647 := hrg152.1 1826 13 3 _ .int rfl rfl
          have e262 : (H151.1 1826 3) = (H.1 1826 3) := hx151f.2.2 3 (by decide)
          have g263 : -2147483648 ≤ (H151.1 1826 13) ∧ (H151.1 1826 13) ≤ 2147483647 := hrg152.1 1826 13 13 _ .int rfl rfl
          have e264 : (H151.1 1826 13) = (H.1 1826 13) := hx151f.2.2 13 (by decide)
          have g265 : -2147483648 ≤ (H151.1 1826 19) ∧ (H151.1 1826 19) ≤ 2147483647 := hrg152.1 1826 13 19 _ .int rfl rfl
          have e266 : (H151.1 1826 19) = (H.1 1826 19) := hx151f.2.2 19 (by decide)
          exact ⟨rfl, (fr_o (fr_o hf153 (by decide)) (by decide)), (by omega : (H.1 1826 30) ≤ (H151.1 1826 30) ∧ (H151.1 1826 30) ≤ (H.1 1826 29)), (by omega : 0 ≤ (3 : Int) ∧ (3 : Int) ≤ 5), (by omega : (H.1 1826 35) ≠ 0 → (3 : Int) ≠ 0), (by omega : 0 ≤ (H151.1 1826 32) ∧ (H151.1 1826 32) ≤ 1000), (agp_o (agp_o ha154 (by decide)) (by decide)), (fun (q : (3 : Int) = 0) => absurd q (by omega))⟩
      · refine h_run 2 (pc' := 36) (l' := [(0, .inr (.inr 1826))]) (st' := [.inl 2, .inr (.inr 1826)]) rfl ?_
        refine h_cv (i := 278) (j := 159) (b := 1826) (M' := mt_159) (xs := [.inl 2]) (rest := []) rfl rfl rfl rfl rfl rfl (Nat.le_of_ble_eq_true rfl) (Nat.le_of_ble_eq_true rfl) (by omega) (m_bad0 (by omega) (by omega) (by omega : (H151.1 1826 35) = 0)) ?_
        rintro _ _ ⟨rfl, rfl⟩
        refine h_run 0 (pc' := 39) (l' := [(0, .inr (.inr 1826))]) (st' := []) rfl ?_
        refine h_run 1 (pc' := 40) (l' := [(0, .inr (.inr 1826))]) (st' := [.inr (.inr 1826)]) rfl ?_
        refine h_cv (i := 293) (j := 158) (b := 1826) (M' := mt_158) (xs := []) (rest := []) rfl rfl rfl rfl rfl rfl (Nat.le_of_ble_eq_true rfl) (Nat.le_of_ble_eq_true rfl) (by omega) (m_good0 (by omega) (by omega : (2 : Int) ≠ 0)) ?_
        rintro _ _ ⟨rfl, rfl⟩
        refine h_run 0 (pc' := 43) (l' := [(0, .inr (.inr 1826))]) (st' := [.inl 0]) rfl ?_
        refine h_zeq (off := 21) (t := 64) rfl rfl (by decide) (fun _ => ?_) (fun c => absurd c (by decide))
        refine h_run 3 (pc' := 67) (l' := [(0, .inr (.inr 1826)), (1, .inl (-1))]) (st' := [.inr (.inr 1826)]) rfl ?_
        refine h_cv (i := 293) (j := 158) (b := 1826) (M' := mt_158) (xs := []) (rest := []) rfl rfl rfl rfl rfl rfl (Nat.le_of_ble_eq_true rfl) (Nat.le_of_ble_eq_true rfl) (by omega) (m_good0 (by omega) (by omega : (2 : Int) ≠ 0)) ?_
        rintro _ _ ⟨rfl, rfl⟩
        refine h_run 0 (pc' := 70) (l' := [(0, .inr (.inr 1826)), (1, .inl (-1))]) (st' := [.inl 0]) rfl ?_
        refine h_zeq (off := 13) (t := 83) rfl rfl (by decide) (fun _ => ?_) (fun c => absurd c (by decide))
        refine h_run 1 (pc' := 84) (l' := [(0, .inr (.inr 1826)), (1, .inl (-1))]) (st' := [.inr (.inr 1826)]) rfl ?_
        refine h_cv (i := 293) (j := 158) (b := 1826) (M' := mt_158) (xs := []) (rest := []) rfl rfl rfl rfl rfl rfl (Nat.le_of_ble_eq_true rfl) (Nat.le_of_ble_eq_true rfl) (by omega) (m_good0 (by omega) (by omega : (2 : Int) ≠ 0)) ?_
        rintro _ _ ⟨rfl, rfl⟩
        refine h_run 0 (pc' := 87) (l' := [(0, .inr (.inr 1826)), (1, .inl (-1))]) (st' := [.inl 0]) rfl ?_
        refine h_zne (off := 4) (t := 91) rfl rfl (by decide) (fun c => absurd c (by decide)) (fun _ => ?_)
        refine h_ret rfl rfl ?_
        have g267 : -2147483648 ≤ (H151.1 1826 30) ∧ (H151.1 1826 30) ≤ 2147483647 := hrg152.1 1826 13 30 _ .int rfl rfl
        have g268 : -2147483648 ≤ (H151.1 1826 32) ∧ (H151.1 1826 32) ≤ 2147483647 := hrg152.1 1826 13 32 _ .int rfl rfl
        have g269 : -2147483648 ≤ (H151.1 1826 29) ∧ (H151.1 1826 29) ≤ 2147483647 := hrg152.1 1826 13 29 _ .int rfl rfl
        have e270 : (H151.1 1826 29) = (H.1 1826 29) := hx151f.2.2 29 (by decide)
        have g271 : -2147483648 ≤ (H151.1 1826 1) ∧ (H151.1 1826 1) ≤ 2147483647 := hrg152.1 1826 13 1 _ .int rfl rfl
        have e272 : (H151.1 1826 1) = (H.1 1826 1) := hx151f.2.2 1 (by decide)
        have g273 : -2147483648 ≤ (H151.1 1826 3) ∧ (H151.1 1826 3) ≤ 2147483647 := hrg152.1 1826 13 3 _ .int rfl rfl
        have e274 : (H151.1 1826 3) = (H.1 1826 3) := hx151f.2.2 3 (by decide)
        have g275 : -2147483648 ≤ (H151.1 1826 8) ∧ (H151.1 1826 8) ≤ 2147483647 := hrg152.1 1826 13 8 _ .int rfl rfl
        have e276 : (H151.1 1826 8) = (H.1 1826 8) := hx151f.2.2 8 (by decide)
        have g277 : -2147483648 ≤ (H151.1 1826 13) ∧ (H151.1 1826 13) ≤ 2147483647 := hrg152.1 1826 13 13 _ .int rfl rfl
        have e278 : (H151.1 1826 13) = (H.1 1826 13) := hx151f.2.2 13 (by decide)
        have g279 : -2147483648 ≤ (H151.1 1826 19) ∧ (H151.1 1826 19) ≤ 2147483647 := hrg152.1 1826 13 19 _ .int rfl rfl
        have e280 : (H151.1 1826 19) = (H.1 1826 19) := hx151f.2.2 19 (by decide)
        exact ⟨rfl, (fr_o (fr_o hf153 (by decide)) (by decide)), (by omega : (H.1 1826 30) ≤ (H151.1 1826 30) ∧ (H151.1 1826 30) ≤ (H.1 1826 29)), (by omega : 0 ≤ (2 : Int) ∧ (2 : Int) ≤ 5), (by omega : (H.1 1826 35) ≠ 0 → (2 : Int) ≠ 0), (by omega : 0 ≤ (H151.1 1826 32) ∧ (H151.1 1826 32) ≤ 1000), (agp_o (agp_o ha154 (by decide)) (by decide)), (fun (q : (2 : Int) = 0) => absurd q (by omega))⟩
    · have b156x : (H151.1 1826 35) ≠ 0 := b156
      clear hx151g
      refine h_run 0 (pc' := 23) (l' := [(0, .inr (.inr 1826))]) (st' := [.inl 0]) rfl ?_
      refine h_zeq (off := 16) (t := 39) rfl rfl (by decide) (fun _ => ?_) (fun c => absurd c (by decide))
      refine h_run 1 (pc' := 40) (l' := [(0, .inr (.inr 1826))]) (st' := [.inr (.inr 1826)]) rfl ?_
      refine h_cv (i := 293) (j := 158) (b := 1826) (M' := mt_158) (xs := []) (rest := []) rfl rfl rfl rfl rfl rfl (Nat.le_of_ble_eq_true rfl) (Nat.le_of_ble_eq_true rfl) (by omega) (m_good0 (by omega) (by omega : (H151.1 1826 35) ≠ 0)) ?_
      rintro _ _ ⟨rfl, rfl⟩
      refine h_run 0 (pc' := 43) (l' := [(0, .inr (.inr 1826))]) (st' := [.inl 0]) rfl ?_
      refine h_zeq (off := 21) (t := 64) rfl rfl (by decide) (fun _ => ?_) (fun c => absurd c (by decide))
      refine h_run 3 (pc' := 67) (l' := [(0, .inr (.inr 1826)), (1, .inl (-1))]) (st' := [.inr (.inr 1826)]) rfl ?_
      refine h_cv (i := 293) (j := 158) (b := 1826) (M' := mt_158) (xs := []) (rest := []) rfl rfl rfl rfl rfl rfl (Nat.le_of_ble_eq_true rfl) (Nat.le_of_ble_eq_true rfl) (by omega) (m_good0 (by omega) (by omega : (H151.1 1826 35) ≠ 0)) ?_
      rintro _ _ ⟨rfl, rfl⟩
      refine h_run 0 (pc' := 70) (l' := [(0, .inr (.inr 1826)), (1, .inl (-1))]) (st' := [.inl 0]) rfl ?_
      refine h_zeq (off := 13) (t := 83) rfl rfl (by decide) (fun _ => ?_) (fun c => absurd c (by decide))
      refine h_run 1 (pc' := 84) (l' := [(0, .inr (.inr 1826)), (1, .inl (-1))]) (st' := [.inr (.inr 1826)]) rfl ?_
      refine h_cv (i := 293) (j := 158) (b := 1826) (M' := mt_158) (xs := []) (rest := []) rfl rfl rfl rfl rfl rfl (Nat.le_of_ble_eq_true rfl) (Nat.le_of_ble_eq_true rfl) (by omega) (m_good0 (by omega) (by omega : (H151.1 1826 35) ≠ 0)) ?_
      rintro _ _ ⟨rfl, rfl⟩
      refine h_run 0 (pc' := 87) (l' := [(0, .inr (.inr 1826)), (1, .inl (-1))]) (st' := [.inl 0]) rfl ?_
      refine h_zne (off := 4) (t := 91) rfl rfl (by decide) (fun c => absurd c (by decide)) (fun _ => ?_)
      refine h_ret rfl rfl ?_
      have g281 : -2147483648 ≤ (H151.1 1826 30) ∧ (H151.1 1826 30) ≤ 2147483647 := hrg152.1 1826 13 30 _ .int rfl rfl
      have g282 : -2147483648 ≤ (H151.1 1826 32) ∧ (H151.1 1826 32) ≤ 2147483647 := hrg152.1 1826 13 32 _ .int rfl rfl
      have g283 : -2147483648 ≤ (H151.1 1826 29) ∧ (H151.1 1826 29) ≤ 2147483647 := hrg152.1 1826 13 29 _ .int rfl rfl
      have e284 : (H151.1 1826 29) = (H.1 1826 29) := hx151f.2.2 29 (by decide)
      have g285 : -2147483648 ≤ (H151.1 1826 1) ∧ (H151.1 1826 1) ≤ 2147483647 := hrg152.1 1826 13 1 _ .int rfl rfl
      have e286 : (H151.1 1826 1) = (H.1 1826 1) := hx151f.2.2 1 (by decide)
      have g287 : -2147483648 ≤ (H151.1 1826 3) ∧ (H151.1 1826 3) ≤ 2147483647 := hrg152.1 1826 13 3 _ .int rfl rfl
      have e288 : (H151.1 1826 3) = (H.1 1826 3) := hx151f.2.2 3 (by decide)
      have g289 : -2147483648 ≤ (H151.1 1826 8) ∧ (H151.1 1826 8) ≤ 2147483647 := hrg152.1 1826 13 8 _ .int rfl rfl
      have e290 : (H151.1 1826 8) = (H.1 1826 8) := hx151f.2.2 8 (by decide)
      have g291 : -2147483648 ≤ (H151.1 1826 13) ∧ (H151.1 1826 13) ≤ 2147483647 := hrg152.1 1826 13 13 _ .int rfl rfl
      have e292 : (H151.1 1826 13) = (H.1 1826 13) := hx151f.2.2 13 (by decide)
      have g293 : -2147483648 ≤ (H151.1 1826 19) ∧ (H151.1 1826 19) ≤ 2147483647 := hrg152.1 1826 13 19 _ .int rfl rfl
      have e294 : (H151.1 1826 19) = (H.1 1826 19) := hx151f.2.2 19 (by decide)
      exact ⟨rfl, hf153, (by omega : (H.1 1826 30) ≤ (H151.1 1826 30) ∧ (H151.1 1826 30) ≤ (H.1 1826 29)), (by omega : 0 ≤ (H151.1 1826 35) ∧ (H151.1 1826 35) ≤ 5), (by omega : (H.1 1826 35) ≠ 0 → (H151.1 1826 35) ≠ 0), (by omega : 0 ≤ (H151.1 1826 32) ∧ (H151.1 1826 32) ≤ 1000), ha154, (fun (q : (H151.1 1826 35) = 0) => absurd q (by omega))⟩
  · refine h_run 2 (pc' := 11) (l' := [(0, .inr (.inr 1826))]) (st' := [.inl 5, .inr (.inr 1826)]) rfl ?_
    have g295 : -2147483648 ≤ (H.1 1826 35) ∧ (H.1 1826 35) ≤ 2147483647 := hrg0.1 1826 13 35 _ .int rfl rfl
    refine h_cv (i := 278) (j := 159) (b := 1826) (M' := mt_159) (xs := [.inl 5]) (rest := []) rfl rfl rfl rfl rfl rfl (Nat.le_of_ble_eq_true rfl) (Nat.le_of_ble_eq_true rfl) (by omega) (m_bad0 (by omega) (by omega) (by omega : (H.1 1826 35) = 0)) ?_
    rintro _ _ ⟨rfl, rfl⟩
    refine h_run 0 (pc' := 14) (l' := [(0, .inr (.inr 1826))]) (st' := []) rfl ?_
    refine h_ret rfl rfl ?_
    have g296 : -2147483648 ≤ (H.1 1826 30) ∧ (H.1 1826 30) ≤ 2147483647 := hrg0.1 1826 13 30 _ .int rfl rfl
    have g297 : -2147483648 ≤ (H.1 1826 32) ∧ (H.1 1826 32) ≤ 2147483647 := hrg0.1 1826 13 32 _ .int rfl rfl
    have g298 : -2147483648 ≤ (H.1 1826 29) ∧ (H.1 1826 29) ≤ 2147483647 := hrg0.1 1826 13 29 _ .int rfl rfl
    have g299 : -2147483648 ≤ (H.1 1826 1) ∧ (H.1 1826 1) ≤ 2147483647 := hrg0.1 1826 13 1 _ .int rfl rfl
    have g300 : -2147483648 ≤ (H.1 1826 3) ∧ (H.1 1826 3) ≤ 2147483647 := hrg0.1 1826 13 3 _ .int rfl rfl
    have g301 : -2147483648 ≤ (H.1 1826 8) ∧ (H.1 1826 8) ≤ 2147483647 := hrg0.1 1826 13 8 _ .int rfl rfl
    have g302 : -2147483648 ≤ (H.1 1826 19) ∧ (H.1 1826 19) ≤ 2147483647 := hrg0.1 1826 13 19 _ .int rfl rfl
    exact ⟨rfl, (fr_o (fr_o (fr_rf _ _ _) (by decide)) (by decide)), (by omega : (H.1 1826 30) ≤ (H.1 1826 30) ∧ (H.1 1826 30) ≤ (H.1 1826 29)), (by omega : 0 ≤ (5 : Int) ∧ (5 : Int) ≤ 5), (by omega : (H.1 1826 35) ≠ 0 → (5 : Int) ≠ 0), (by omega : 0 ≤ (H.1 1826 32) ∧ (H.1 1826 32) ≤ 1000), (agp_o (agp_o (agp_rf _) (by decide)) (by decide)), (fun (q : (5 : Int) = 0) => absurd q (by omega))⟩
