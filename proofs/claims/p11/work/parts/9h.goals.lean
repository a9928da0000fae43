/-! the reference: new variables -/
theorem z_or_0 {b : Nat} (h : b ≤ 1) : z_or b 0 = ((b : Nat) : Int) := by
  rcases (show b = 0 ∨ b = 1 by omega) with rfl | rfl <;> decide
theorem z_or_1 {b : Nat} (h : b ≤ 1) : z_or b 1 = ((1 : Nat) : Int) := by
  rcases (show b = 0 ∨ b = 1 by omega) with rfl | rfl <;> decide
theorem tm_vars {fA cA a : Nat → Int} {ok : Int → Prop} (ho : ∀ s, 1000 ≤ s ∧ s < 1060 → ok s) : ∀ {q i : Nat}, (∀ x, x < q → 1000 ≤ a (i + x) ∧ a (i + x) < 1060) → tm (ma fA cA) ok a q i q
  | 0, _, _ => rfl
  | q + 1, i, h => by
    have h0 := h 0 (by omega)
    rw [Nat.add_zero] at h0
    refine ⟨by omega, ho _ h0, 0, ma_0 (Or.inl h0.1), by omega, ?_⟩
    rw [show q + 1 - 1 + 0 = q by omega]
    refine tm_vars ho (fun x hx => ?_)
    rw [show i + 1 + x = i + (x + 1) by omega]
    exact h (x + 1) (by omega)

/-! hasVariable -/
set_option maxRecDepth 100000 in
theorem m_hasVariable_cut {zC : Nat → Option zsh} {d : Nat} (hd : 2 ≤ d) {H : hp} {g k0 k1 : Nat} {v : Int} (hg : g < 40) (hv : 0 ≤ v ∧ v ≤ 60) (hk : (H.1 1874) (2 * g + 0) = k0 ∧ k0 ≤ 64 ∧ (H.1 1874) (2 * g + 1) = k1 ∧ k1 ≤ 64) : ∀ w : Nat, (∀ (b : Nat) (s : Nat), (b ≤ 1) → (s ≤ 2) → 1000 * (2 - s) + 500 < w → hG (zs zC) d mt_247 5 [(0, .inr (.inr 1826)), (1, .inl (g : Int)), (2, .inl v), (3, .inl (b : Int)), (4, .inl (s : Int))] [] H (fun r9 H2 => (r9 = some (.inl 0) ∨ r9 = some (.inl 1)) ∧ H = H2)) ∧ (∀ (b : Nat) (s : Nat) (x : Nat), (b ≤ 1) → (s < 2) → (x ≤ 64) → 1000 * (2 - s) + (64 - x) < w → hG (zs zC) d mt_247 14 [(0, .inr (.inr 1826)), (1, .inl (g : Int)), (2, .inl v), (3, .inl (b : Int)), (4, .inl (s : Int)), (5, .inl (x : Int))] [] H (fun r9 H2 => (r9 = some (.inl 0) ∨ r9 = some (.inl 1)) ∧ H = H2)) := by
  intro w
  induction w with
  | zero => exact ⟨fun _ _ _ _ h => absurd h (Nat.not_lt_zero _), fun _ _ _ _ _ _ h => absurd h (Nat.not_lt_zero _)⟩
  | succ w ih =>
    refine ⟨?_, ?_⟩
    · intro b s hb hs hw
      refine h_rng (fun hrg1 => ?_)
      refine h_run 2 (pc' := 8) (l' := [(0, .inr (.inr 1826)), (1, .inl (g : Int)), (2, .inl v), (3, .inl (b : Int)), (4, .inl (s : Int))]) (st' := [.inl 2, .inl (s : Int)]) rfl ?_
      refine h_ige (off := 65) (t := 73) rfl rfl (by omega) (by decide) (fun c2 => ?_) (fun c2 => ?_)
      · refine h_run 1 (pc' := 74) (l' := [(0, .inr (.inr 1826)), (1, .inl (g : Int)), (2, .inl v), (3, .inl (b : Int)), (4, .inl (s : Int))]) (st' := [.inl (b : Int)]) rfl ?_
        refine h_retz (x := (b : Int)) rfl rfl (by first | omega | decide) ?_
        refine ⟨?_, rfl⟩
        rcases (show b = 0 ∨ b = 1 by omega) with rfl | rfl
        · exact Or.inl rfl
        · exact Or.inr rfl
      · refine h_run 2 (pc' := 14) (l' := [(0, .inr (.inr 1826)), (1, .inl (g : Int)), (2, .inl v), (3, .inl (b : Int)), (4, .inl (s : Int)), (5, .inl 0)]) (st' := []) rfl ?_
        exact ih.2 b s 0 (by omega) (by omega) (by omega) (by omega : 1000 * (2 - s) + (64 - 0) < w)
    · intro b s x hb hs hx hw
      refine h_rng (fun hrg3 => ?_)
      have hsz : (H.1 1874) (2 * g + s) ≤ 64 := by rcases (show s = 0 ∨ s = 1 by omega) with rfl | rfl <;> omega
      refine h_run 8 (pc' := 26) (l' := [(0, .inr (.inr 1826)), (1, .inl (g : Int)), (2, .inl v), (3, .inl (b : Int)), (4, .inl (s : Int)), (5, .inl (x : Int))]) (st' := [.inl ((2 * (g : Int)) + (s : Int)), .inr (.inr 1874), .inl (x : Int)]) rfl ?_
      refine h_ild (c := 1874) (j := ((2 * g) + s)) (i := ((2 * (g : Int)) + (s : Int))) rfl rfl (by decide) (by omega) (by omega) ?_
      have g4 : -2147483648 ≤ (H.1 1874 ((2 * g) + s)) ∧ (H.1 1874 ((2 * g) + s)) ≤ 2147483647 := hrg3.2 1874 ((2 * g) + s) 80 .int rfl (by omega)
      refine h_run 0 (pc' := 27) (l' := [(0, .inr (.inr 1826)), (1, .inl (g : Int)), (2, .inl v), (3, .inl (b : Int)), (4, .inl (s : Int)), (5, .inl (x : Int))]) (st' := [.inl (H.1 1874 ((2 * g) + s)), .inl (x : Int)]) rfl ?_
      refine h_ige (off := 40) (t := 67) rfl rfl (by omega) (by omega) (fun c5 => ?_) (fun c5 => ?_)
      · refine h_run 2 (pc' := 5) (l' := [(0, .inr (.inr 1826)), (1, .inl (g : Int)), (2, .inl v), (3, .inl (b : Int)), (4, .inl ((s : Int) + 1)), (5, .inl (x : Int))]) (st' := []) rfl ?_
        refine h_loc [0, 1, 2, 3, 4] rfl ?_
        rw [show ((s : Int) + 1) = (((s + 1) : Nat) : Int) by omega]
        exact ih.1 b (s + 1) (by omega) (by omega) (by omega : 1000 * (2 - (s + 1)) + 500 < w)
      · refine h_run 6 (pc' := 39) (l' := [(0, .inr (.inr 1826)), (1, .inl (g : Int)), (2, .inl v), (3, .inl (b : Int)), (4, .inl (s : Int)), (5, .inl (x : Int))]) (st' := [.inl (s : Int), .inl (g : Int), .inr (.inr 1826), .inr (.inr 1873), .inl (b : Int)]) rfl ?_
        refine h_cv (i := 528) (j := 221) (b := 1826) (M' := mt_221) (xs := [.inl (s : Int), .inl (g : Int)]) (rest := [.inr (.inr 1873), .inl (b : Int)]) rfl rfl rfl rfl rfl rfl (Nat.le_of_ble_eq_true rfl) (Nat.le_of_ble_eq_true rfl) (by omega) (m_sideAt (by omega)) ?_
        rintro _ _ ⟨rfl, rfl⟩
        refine h_run 0 (pc' := 42) (l' := [(0, .inr (.inr 1826)), (1, .inl (g : Int)), (2, .inl v), (3, .inl (b : Int)), (4, .inl (s : Int)), (5, .inl (x : Int))]) (st' := [.inl (64 * ((2 * (g : Int)) + (s : Int))), .inr (.inr 1873), .inl (b : Int)]) rfl ?_
        refine h_run 2 (pc' := 45) (l' := [(0, .inr (.inr 1826)), (1, .inl (g : Int)), (2, .inl v), (3, .inl (b : Int)), (4, .inl (s : Int)), (5, .inl (x : Int))]) (st' := [.inl ((64 * ((2 * (g : Int)) + (s : Int))) + (x : Int)), .inr (.inr 1873), .inl (b : Int)]) rfl ?_
        refine h_ild (c := 1873) (j := ((64 * ((2 * g) + s)) + x)) (i := ((64 * ((2 * (g : Int)) + (s : Int))) + (x : Int))) rfl rfl (by decide) (by omega) (by omega) ?_
        have g6 : -2147483648 ≤ (H.1 1873 ((64 * ((2 * g) + s)) + x)) ∧ (H.1 1873 ((64 * ((2 * g) + s)) + x)) ≤ 2147483647 := hrg3.2 1873 ((64 * ((2 * g) + s)) + x) 5120 .int rfl (by omega)
        refine h_run 0 (pc' := 46) (l' := [(0, .inr (.inr 1826)), (1, .inl (g : Int)), (2, .inl v), (3, .inl (b : Int)), (4, .inl (s : Int)), (5, .inl (x : Int))]) (st' := [.inl (H.1 1873 ((64 * ((2 * g) + s)) + x)), .inl (b : Int)]) rfl ?_
        refine h_run 3 (pc' := 51) (l' := [(0, .inr (.inr 1826)), (1, .inl (g : Int)), (2, .inl v), (3, .inl (b : Int)), (4, .inl (s : Int)), (5, .inl (x : Int))]) (st' := [.inl (1000 + v), .inl (H.1 1873 ((64 * ((2 * g) + s)) + x)), .inl (b : Int)]) rfl ?_
        refine h_ine (off := 7) (t := 58) rfl rfl (by omega) (by omega) (fun c7 => ?_) (fun c7 => ?_)
        · refine h_run 2 (pc' := 60) (l' := [(0, .inr (.inr 1826)), (1, .inl (g : Int)), (2, .inl v), (3, .inl (b : Int)), (4, .inl (s : Int)), (5, .inl (x : Int))]) (st' := [.inl (z_or (b : Int) 0)]) rfl ?_
          rw [show (z_or (b : Int) 0) = ((b : Nat) : Int) from (z_or_0 (by omega))]
          refine h_run 3 (pc' := 14) (l' := [(0, .inr (.inr 1826)), (1, .inl (g : Int)), (2, .inl v), (3, .inl (b : Int)), (4, .inl (s : Int)), (5, .inl ((x : Int) + 1))]) (st' := []) rfl ?_
          rw [show ((x : Int) + 1) = (((x + 1) : Nat) : Int) by omega]
          exact ih.2 b s (x + 1) (by omega) (by omega) (by omega) (by omega : 1000 * (2 - s) + (64 - (x + 1)) < w)
        · refine h_run 3 (pc' := 60) (l' := [(0, .inr (.inr 1826)), (1, .inl (g : Int)), (2, .inl v), (3, .inl (b : Int)), (4, .inl (s : Int)), (5, .inl (x : Int))]) (st' := [.inl (z_or (b : Int) 1)]) rfl ?_
          rw [show (z_or (b : Int) 1) = ((1 : Nat) : Int) from (z_or_1 (by omega))]
          refine h_run 3 (pc' := 14) (l' := [(0, .inr (.inr 1826)), (1, .inl (g : Int)), (2, .inl v), (3, .inl (1 : Int)), (4, .inl (s : Int)), (5, .inl ((x : Int) + 1))]) (st' := []) rfl ?_
          rw [show ((x : Int) + 1) = (((x + 1) : Nat) : Int) by omega]
          exact ih.2 1 s (x + 1) (by omega) (by omega) (by omega) (by omega : 1000 * (2 - s) + (64 - (x + 1)) < w)
set_option maxRecDepth 100000 in
theorem m_hasVariable {zC : Nat → Option zsh} {d : Nat} (hd : 2 ≤ d) {H : hp} {g k0 k1 : Nat} {v : Int} (hg : g < 40) (hv : 0 ≤ v ∧ v ≤ 60) (hk : (H.1 1874) (2 * g + 0) = k0 ∧ k0 ≤ 64 ∧ (H.1 1874) (2 * g + 1) = k1 ∧ k1 ≤ 64) : hG (zs zC) d mt_247 0 (zargs 0 [.inr (.inr 1826), .inl (g : Int), .inl v]) [] H (fun r9 H2 => (r9 = some (.inl 0) ∨ r9 = some (.inl 1)) ∧ H = H2) := by
  refine h_rng (fun hrg0 => ?_)
  refine h_run 0 (pc' := 0) (l' := [(0, .inr (.inr 1826)), (1, .inl (g : Int)), (2, .inl v)]) (st' := []) rfl ?_
  refine h_run 4 (pc' := 5) (l' := [(0, .inr (.inr 1826)), (1, .inl (g : Int)), (2, .inl v), (3, .inl 0), (4, .inl 0)]) (st' := []) rfl ?_
  exact (m_hasVariable_cut hd hg hv hk _).1 0 0 (by omega) (by omega) (Nat.lt_succ_self _)

/-! isNew -/
set_option maxRecDepth 100000 in
theorem m_isNew_cut {zC : Nat → Option zsh} {d : Nat} (hd : 1 ≤ d) {H : hp} {c q : Nat} {su : Int} (hP : PWc H) (hc : (c : Int) < (H.1 1826 3)) (hq : (H.1 1830) c = q) (hv : 0 ≤ (H.1 1826 89) ∧ (H.1 1826 89) ≤ 60) (hsu : 0 ≤ su ∧ su ≤ 1) : ∀ w : Nat, (∀ (H1 : hp) (j : Nat), (fr [89, 99] [1882, 1883, 1887] H H1) → (j ≤ q ∧ (H.1 1826 89) + q ≤ 60) → ((H1.1 1826 89) = (H.1 1826 89) + (j : Int)) → ((H1.1 1826 99) = 1 + (q : Int)) → ((H1.1 1887) 0 = 1 + (c : Int)) → (∀ x, x < j → 1000 ≤ (H1.1 1887) (1 + x) ∧ (H1.1 1887) (1 + x) < 1060) → q - j < w → hG (zs zC) d mt_249 41 [(0, .inr (.inr 1826)), (1, .inl (c : Int)), (2, .inl su), (3, .inl (j : Int))] [] H1 (fun r9 H2 => fr [89, 99] [1882, 1883, 1887] H H2 ∧ (H2.1 1826 99) = 1 + (q : Int) ∧ ((r9 = some (.inl 0) ∧ (H2.1 1826 89) = (H.1 1826 89)) ∨ (r9 = some (.inl 1) ∧ (H2.1 1826 89) = (H.1 1826 89) + q ∧ (H.1 1826 89) + q ≤ 60 ∧ tm (ma (H.1 1833) (H.1 1830)) (m_sg (H.1 1826 3) (H.1 1826 8) 60) (H2.1 1887) (1 + q) 0 1)))) := by
  intro w
  induction w with
  | zero => exact fun _ _ _ _ _ _ _ _ h => absurd h (Nat.not_lt_zero _)
  | succ w ih =>
    intro H1 j hf hj hvj hss h0 hst hw
    refine h_rng (fun hrg1 => ?_)
    obtain ⟨⟨pb1, pb2, pb3, pb4, pb5⟩, pw1, pw2, pw3, pw4⟩ := (id hP : PW H (H.1 1826 1) (H.1 1826 3) (H.1 1826 8) (H.1 1826 13) (H.1 1826 19))
    have hca := (pw1 c (by omega)).1
    have e_ca : (H1.1 1830) c = (H.1 1830) c := congrFun (hf.2.1 1830 (by decide) (by decide)) c
    refine h_run 4 (pc' := 47) (l' := [(0, .inr (.inr 1826)), (1, .inl (c : Int)), (2, .inl su), (3, .inl (j : Int))]) (st' := [.inl (c : Int), .inr (.inr 1830), .inl (j : Int)]) rfl ?_
    refine h_ild (c := 1830) (j := c) (i := (c : Int)) rfl rfl (by decide) rfl (by omega) ?_
    have g2 : -2147483648 ≤ (H1.1 1830 c) ∧ (H1.1 1830 c) ≤ 2147483647 := hrg1.2 1830 c 16 .int rfl (by omega)
    have e3 : (H1.1 1830 c) = (H.1 1830 c) := congrFun (hf.2.1 1830 (by decide) (by decide)) c
    refine h_run 0 (pc' := 48) (l' := [(0, .inr (.inr 1826)), (1, .inl (c : Int)), (2, .inl su), (3, .inl (j : Int))]) (st' := [.inl (H1.1 1830 c), .inl (j : Int)]) rfl ?_
    refine h_ige (off := 64) (t := 112) rfl rfl (by omega) (by omega) (fun c4 => ?_) (fun c4 => ?_)
    · refine h_run 1 (pc' := 113) (l' := [(0, .inr (.inr 1826)), (1, .inl (c : Int)), (2, .inl su), (3, .inl (j : Int))]) (st' := [.inl 1]) rfl ?_
      refine h_retz (x := 1) rfl rfl (by decide) ?_
      refine ⟨hf, hss, Or.inr ⟨rfl, by omega, by omega, ?_⟩⟩
      rw [show 1 + q = q + 1 by omega]
      refine ⟨by omega, by rw [h0]; exact Or.inr (Or.inl ⟨by omega, by omega⟩), q, by rw [h0, ma_c (by omega), show ((1 : Int) + c - 1).toNat = c by omega]; exact hq, by omega, ?_⟩
      rw [show 1 - 1 + q = q by omega]
      exact tm_vars (fun s9 h9 => Or.inr (Or.inr (Or.inr (by omega)))) (fun x hx => by rw [Nat.zero_add]; exact hst x (by omega))
    · refine h_run 4 (pc' := 59) (l' := [(0, .inr (.inr 1826)), (1, .inl (c : Int)), (2, .inl su), (3, .inl (j : Int))]) (st' := [.inl (H1.1 1826 89), .inr (.inr 1882)]) rfl ?_
      have g5 : -2147483648 ≤ (H1.1 1826 89) ∧ (H1.1 1826 89) ≤ 2147483647 := hrg1.1 1826 13 89 _ .int rfl rfl
      refine h_run 7 (pc' := 68) (l' := [(0, .inr (.inr 1826)), (1, .inl (c : Int)), (2, .inl su), (3, .inl (j : Int))]) (st' := [.inl ((3 * (c : Int)) + (j : Int)), .inr (.inr 1831), .inl (H1.1 1826 89), .inr (.inr 1882)]) rfl ?_
      refine h_ild (c := 1831) (j := ((3 * c) + j)) (i := ((3 * (c : Int)) + (j : Int))) rfl rfl (by decide) (by omega) (by omega) ?_
      have g6 : -2147483648 ≤ (H1.1 1831 ((3 * c) + j)) ∧ (H1.1 1831 ((3 * c) + j)) ≤ 2147483647 := hrg1.2 1831 ((3 * c) + j) 48 .int rfl (by omega)
      have e7 : (H1.1 1831 ((3 * c) + j)) = (H.1 1831 ((3 * c) + j)) := congrFun (hf.2.1 1831 (by decide) (by decide)) ((3 * c) + j)
      refine h_run 0 (pc' := 69) (l' := [(0, .inr (.inr 1826)), (1, .inl (c : Int)), (2, .inl su), (3, .inl (j : Int))]) (st' := [.inl (H1.1 1831 ((3 * c) + j)), .inl (H1.1 1826 89), .inr (.inr 1882)]) rfl ?_
      refine h_ist (c := 1882) (j := ((H1.1 1826 89)).toNat) (i := (H1.1 1826 89)) (x := (H1.1 1831 ((3 * c) + j))) rfl rfl (by decide) (by decide) (by omega) (by omega) (by omega) ?_
      refine h_run 4 (pc' := 78) (l' := [(0, .inr (.inr 1826)), (1, .inl (c : Int)), (2, .inl su), (3, .inl (j : Int))]) (st' := [.inl (H1.1 1826 89), .inr (.inr 1883)]) rfl ?_
      refine h_run 1 (pc' := 79) (l' := [(0, .inr (.inr 1826)), (1, .inl (c : Int)), (2, .inl su), (3, .inl (j : Int))]) (st' := [.inl su, .inl (H1.1 1826 89), .inr (.inr 1883)]) rfl ?_
      refine h_bst (c := 1883) (j := ((H1.1 1826 89)).toNat) (i := (H1.1 1826 89)) (x := su) (Or.inr rfl) rfl rfl (by decide) (by decide) (by omega) (by omega) (show (0 : Int) ≤ su ∧ su ≤ 1 by omega) ?_
      refine h_run 8 (pc' := 94) (l' := [(0, .inr (.inr 1826)), (1, .inl (c : Int)), (2, .inl su), (3, .inl (j : Int))]) (st' := [.inl (H1.1 1826 89), .inl 1000, .inl (1 + (j : Int)), .inr (.inr 1887)]) rfl ?_
      refine h_run 1 (pc' := 95) (l' := [(0, .inr (.inr 1826)), (1, .inl (c : Int)), (2, .inl su), (3, .inl (j : Int))]) (st' := [.inl (1000 + (H1.1 1826 89)), .inl (1 + (j : Int)), .inr (.inr 1887)]) rfl ?_
      refine h_ist (c := 1887) (j := (1 + j)) (i := (1 + (j : Int))) (x := (1000 + (H1.1 1826 89))) rfl rfl (by decide) (by decide) (by omega) (by omega) (by omega) ?_
      refine h_run 3 (pc' := 101) (l' := [(0, .inr (.inr 1826)), (1, .inl (c : Int)), (2, .inl su), (3, .inl (j : Int))]) (st' := [.inl (H1.1 1826 89), .inr (.inr 1826)]) rfl ?_
      refine h_run 2 (pc' := 103) (l' := [(0, .inr (.inr 1826)), (1, .inl (c : Int)), (2, .inl su), (3, .inl (j : Int))]) (st' := [.inl ((H1.1 1826 89) + 1), .inr (.inr 1826)]) rfl ?_
      refine h_puti (i := 541) (ci := 13) (k := 89) (a := 1826) (x := ((H1.1 1826 89) + 1)) rfl rfl rfl rfl rfl rfl (by decide) (by omega) ?_
      refine h_run 2 (pc' := 41) (l' := [(0, .inr (.inr 1826)), (1, .inl (c : Int)), (2, .inl su), (3, .inl ((j : Int) + 1))]) (st' := []) rfl ?_
      have g8 : -2147483648 ≤ (H1.1 1826 99) ∧ (H1.1 1826 99) ≤ 2147483647 := hrg1.1 1826 13 99 _ .int rfl rfl
      rw [show ((j : Int) + 1) = (((j + 1) : Nat) : Int) by omega]
      exact ih _ (j + 1) (fr_o (fr_a (fr_a (fr_a hf (by decide)) (by decide)) (by decide)) (by decide)) (by omega) (by omega : ((H1.1 1826 89) + 1) = (H.1 1826 89) + ((j + 1) : Int)) (by omega : (H1.1 1826 99) = 1 + (q : Int)) (show up (H1.1 1887) (1 + j) (1000 + (H1.1 1826 89)) 0 = _ from (up_ne _ _ (by omega)).trans h0) (fun x hx => by show 1000 ≤ up (H1.1 1887) (1 + j) (1000 + (H1.1 1826 89)) (1 + x) ∧ up (H1.1 1887) (1 + j) (1000 + (H1.1 1826 89)) (1 + x) < 1060; rw [up_if]; by_cases e9 : x = j; { rw [if_pos (by omega)]; omega }; { rw [if_neg (by omega)]; exact hst x (by omega) }) (by omega : q - (j + 1) < w)
set_option maxRecDepth 100000 in
theorem m_isNew {zC : Nat → Option zsh} {d : Nat} (hd : 1 ≤ d) {H : hp} {c q : Nat} {su : Int} (hP : PWc H) (hc : (c : Int) < (H.1 1826 3)) (hq : (H.1 1830) c = q) (hv : 0 ≤ (H.1 1826 89) ∧ (H.1 1826 89) ≤ 60) (hsu : 0 ≤ su ∧ su ≤ 1) : hG (zs zC) d mt_249 0 (zargs 0 [.inr (.inr 1826), .inl (c : Int), .inl su]) [] H (fun r9 H2 => fr [89, 99] [1882, 1883, 1887] H H2 ∧ (H2.1 1826 99) = 1 + (q : Int) ∧ ((r9 = some (.inl 0) ∧ (H2.1 1826 89) = (H.1 1826 89)) ∨ (r9 = some (.inl 1) ∧ (H2.1 1826 89) = (H.1 1826 89) + q ∧ (H.1 1826 89) + q ≤ 60 ∧ tm (ma (H.1 1833) (H.1 1830)) (m_sg (H.1 1826 3) (H.1 1826 8) 60) (H2.1 1887) (1 + q) 0 1))) := by
  refine h_rng (fun hrg0 => ?_)
  refine h_run 0 (pc' := 0) (l' := [(0, .inr (.inr 1826)), (1, .inl (c : Int)), (2, .inl su)]) (st' := []) rfl ?_
  obtain ⟨⟨pb1, pb2, pb3, pb4, pb5⟩, pw1, pw2, pw3, pw4⟩ := (id hP : PW H (H.1 1826 1) (H.1 1826 3) (H.1 1826 8) (H.1 1826 13) (H.1 1826 19))
  have hca := (pw1 c (by omega)).1
  refine h_run 6 (pc' := 8) (l' := [(0, .inr (.inr 1826)), (1, .inl (c : Int)), (2, .inl su)]) (st' := [.inl (1 + (c : Int)), .inl 0, .inr (.inr 1887)]) rfl ?_
  refine h_ist (c := 1887) (j := 0) (i := 0) (x := (1 + (c : Int))) rfl rfl (by decide) (by decide) rfl (by omega) (by omega) ?_
  refine h_run 5 (pc' := 16) (l' := [(0, .inr (.inr 1826)), (1, .inl (c : Int)), (2, .inl su)]) (st' := [.inl (c : Int), .inr (.inr 1830), .inl 1, .inr (.inr 1826)]) rfl ?_
  refine h_ild (c := 1830) (j := c) (i := (c : Int)) rfl rfl (by decide) rfl (by omega) ?_
  have g9 : -2147483648 ≤ (H.1 1830 c) ∧ (H.1 1830 c) ≤ 2147483647 := hrg0.2 1830 c 16 .int rfl (by omega)
  refine h_run 0 (pc' := 17) (l' := [(0, .inr (.inr 1826)), (1, .inl (c : Int)), (2, .inl su)]) (st' := [.inl (H.1 1830 c), .inl 1, .inr (.inr 1826)]) rfl ?_
  refine h_run 1 (pc' := 18) (l' := [(0, .inr (.inr 1826)), (1, .inl (c : Int)), (2, .inl su)]) (st' := [.inl (1 + (H.1 1830 c)), .inr (.inr 1826)]) rfl ?_
  refine h_puti (i := 604) (ci := 13) (k := 99) (a := 1826) (x := (1 + (H.1 1830 c))) rfl rfl rfl rfl rfl rfl (by decide) (by omega) ?_
  refine h_run 2 (pc' := 25) (l' := [(0, .inr (.inr 1826)), (1, .inl (c : Int)), (2, .inl su)]) (st' := [.inl (H.1 1826 89)]) rfl ?_
  have g10 : -2147483648 ≤ (H.1 1826 89) ∧ (H.1 1826 89) ≤ 2147483647 := hrg0.1 1826 13 89 _ .int rfl rfl
  refine h_run 3 (pc' := 30) (l' := [(0, .inr (.inr 1826)), (1, .inl (c : Int)), (2, .inl su)]) (st' := [.inl (c : Int), .inr (.inr 1830), .inl (H.1 1826 89)]) rfl ?_
  refine h_ild (c := 1830) (j := c) (i := (c : Int)) rfl rfl (by decide) rfl (by omega) ?_
  refine h_run 0 (pc' := 31) (l' := [(0, .inr (.inr 1826)), (1, .inl (c : Int)), (2, .inl su)]) (st' := [.inl (H.1 1830 c), .inl (H.1 1826 89)]) rfl ?_
  refine h_run 2 (pc' := 34) (l' := [(0, .inr (.inr 1826)), (1, .inl (c : Int)), (2, .inl su)]) (st' := [.inl 60, .inl ((H.1 1826 89) + (H.1 1830 c))]) rfl ?_
  refine h_ile (off := 5) (t := 39) rfl rfl (by omega) (by decide) (fun c11 => ?_) (fun c11 => ?_)
  · refine h_run 2 (pc' := 41) (l' := [(0, .inr (.inr 1826)), (1, .inl (c : Int)), (2, .inl su), (3, .inl 0)]) (st' := []) rfl ?_
    exact (m_isNew_cut hd hP hc hq hv hsu _) _ 0 (fr_o (fr_a (fr_rf _ _ _) (by decide)) (by decide)) (by omega) (by omega : (H.1 1826 89) = (H.1 1826 89) + (0 : Int)) (by omega : (1 + (H.1 1830 c)) = 1 + (q : Int)) rfl (fun x hx => absurd hx (Nat.not_lt_zero _)) (Nat.lt_succ_self _)
  · refine h_run 1 (pc' := 38) (l' := [(0, .inr (.inr 1826)), (1, .inl (c : Int)), (2, .inl su)]) (st' := [.inl 0]) rfl ?_
    refine h_retz (x := 0) rfl rfl (by decide) ?_
    exact ⟨(fr_o (fr_a (fr_rf _ _ _) (by decide)) (by decide)), (by omega : (1 + (H.1 1830 c)) = 1 + (q : Int)), Or.inl ⟨rfl, (by omega : (H.1 1826 89) = (H.1 1826 89))⟩⟩

/-! tellHyps -/
set_option maxRecDepth 100000 in
theorem m_tellHyps {zC : Nat → Option zsh} {d : Nat} (hd : 1 ≤ d) {H : hp}  (ho : 0 ≤ (H.1 1871) 0 ∧ (H.1 1871) 0 < 40) : hG (zs zC) d mt_223 0 (zargs 0 [.inr (.inr 1826)]) [] H (fun r9 H2 => r9 = none ∧ fr [] [1878] H H2) := by
  refine h_rng (fun hrg0 => ?_)
  refine h_run 0 (pc' := 0) (l' := [(0, .inr (.inr 1826))]) (st' := []) rfl ?_
  refine h_run 5 (pc' := 9) (l' := [(0, .inr (.inr 1826))]) (st' := [.inl (H.1 1826 77), .inl 0, .inr (.inr 1878)]) rfl ?_
  have g1 : -2147483648 ≤ (H.1 1826 77) ∧ (H.1 1826 77) ≤ 2147483647 := hrg0.1 1826 13 77 _ .int rfl rfl
  refine h_zle (off := 17) (t := 26) rfl rfl (by omega) (fun c2 => ?_) (fun c2 => ?_)
  · refine h_run 1 (pc' := 27) (l' := [(0, .inr (.inr 1826))]) (st' := [.inl 0, .inl 0, .inr (.inr 1878)]) rfl ?_
    refine h_ist (c := 1878) (j := 0) (i := 0) (x := 0) rfl rfl (by decide) (by decide) rfl (by omega) (by decide) ?_
    refine h_ret rfl rfl ?_
    exact ⟨rfl, (fr_a (fr_rf _ _ _) (by decide))⟩
  · refine h_run 5 (pc' := 21) (l' := [(0, .inr (.inr 1826))]) (st' := [.inl 0, .inr (.inr 1871), .inr (.inr 1879), .inl 0, .inr (.inr 1878)]) rfl ?_
    refine h_ild (c := 1871) (j := 0) (i := 0) rfl rfl (by decide) rfl (by omega) ?_
    have g3 : -2147483648 ≤ (H.1 1871 0) ∧ (H.1 1871 0) ≤ 2147483647 := hrg0.2 1871 0 13 .int rfl (by omega)
    refine h_run 0 (pc' := 22) (l' := [(0, .inr (.inr 1826))]) (st' := [.inl (H.1 1871 0), .inr (.inr 1879), .inl 0, .inr (.inr 1878)]) rfl ?_
    refine h_ild (c := 1879) (j := ((H.1 1871 0)).toNat) (i := (H.1 1871 0)) rfl rfl (by decide) (by omega) (by omega) ?_
    have g4 : -2147483648 ≤ (H.1 1879 ((H.1 1871 0)).toNat) ∧ (H.1 1879 ((H.1 1871 0)).toNat) ≤ 2147483647 := hrg0.2 1879 ((H.1 1871 0)).toNat 40 .int rfl (by omega)
    refine h_run 0 (pc' := 23) (l' := [(0, .inr (.inr 1826))]) (st' := [.inl (H.1 1879 ((H.1 1871 0)).toNat), .inl 0, .inr (.inr 1878)]) rfl ?_
    refine h_run 1 (pc' := 27) (l' := [(0, .inr (.inr 1826))]) (st' := [.inl (H.1 1879 ((H.1 1871 0)).toNat), .inl 0, .inr (.inr 1878)]) rfl ?_
    refine h_ist (c := 1878) (j := 0) (i := 0) (x := (H.1 1879 ((H.1 1871 0)).toNat)) rfl rfl (by decide) (by decide) rfl (by omega) (by omega) ?_
    refine h_ret rfl rfl ?_
    exact ⟨rfl, (fr_a (fr_rf _ _ _) (by decide))⟩
