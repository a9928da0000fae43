/-! the reference: sides of goals are brought and kept -/
/-! sideAt -/
set_option maxRecDepth 100000 in
theorem m_sideAt {zC : Nat → Option zsh} {d : Nat} (hd : 1 ≤ d) {H : hp} {g s : Int}  : hG (zs zC) d mt_221 0 (zargs 0 [.inr (.inr 1826), .inl g, .inl s]) [] H (fun r9 H2 => r9 = some (.inl (64 * ((2 * g) + s))) ∧ H = H2) := by
  refine h_rng (fun hrg0 => ?_)
  refine h_run 0 (pc' := 0) (l' := [(0, .inr (.inr 1826)), (1, .inl g), (2, .inl s)]) (st' := []) rfl ?_
  refine h_run 7 (pc' := 8) (l' := [(0, .inr (.inr 1826)), (1, .inl g), (2, .inl s)]) (st' := [.inl (64 * ((2 * g) + s))]) rfl ?_
  refine h_reti (x := (64 * ((2 * g) + s))) rfl rfl ?_
  exact ⟨rfl, rfl⟩

/-! hypAt -/
set_option maxRecDepth 100000 in
theorem m_hypAt {zC : Nat → Option zsh} {d : Nat} (hd : 1 ≤ d) {H : hp} {g j s : Int}  : hG (zs zC) d mt_222 0 (zargs 0 [.inr (.inr 1826), .inl g, .inl j, .inl s]) [] H (fun r9 H2 => r9 = some (.inl (64 * ((2 * ((8 * g) + j)) + s))) ∧ H = H2) := by
  refine h_rng (fun hrg0 => ?_)
  refine h_run 0 (pc' := 0) (l' := [(0, .inr (.inr 1826)), (1, .inl g), (2, .inl j), (3, .inl s)]) (st' := []) rfl ?_
  refine h_run 11 (pc' := 13) (l' := [(0, .inr (.inr 1826)), (1, .inl g), (2, .inl j), (3, .inl s)]) (st' := [.inl (64 * ((2 * ((8 * g) + j)) + s))]) rfl ?_
  refine h_reti (x := (64 * ((2 * ((8 * g) + j)) + s))) rfl rfl ?_
  exact ⟨rfl, rfl⟩

/-! idle -/
set_option maxRecDepth 100000 in
theorem m_idle {zC : Nat → Option zsh} {d : Nat} (hd : 1 ≤ d) {H : hp}   : hG (zs zC) d mt_235 0 (zargs 0 [.inr (.inr 1826)]) [] H (fun r9 H2 => ((r9 = some (.inl 1) ∧ (H.1 1826 77) = 0) ∨ (r9 = some (.inl 0) ∧ (H.1 1826 77) ≠ 0)) ∧ H = H2) := by
  refine h_rng (fun hrg0 => ?_)
  refine h_run 0 (pc' := 0) (l' := [(0, .inr (.inr 1826))]) (st' := []) rfl ?_
  refine h_run 2 (pc' := 4) (l' := [(0, .inr (.inr 1826))]) (st' := [.inl (H.1 1826 77)]) rfl ?_
  have g1 : -2147483648 ≤ (H.1 1826 77) ∧ (H.1 1826 77) ≤ 2147483647 := hrg0.1 1826 13 77 _ .int rfl rfl
  refine h_zne (off := 7) (t := 11) rfl rfl (by omega) (fun c2 => ?_) (fun c2 => ?_)
  · refine h_run 1 (pc' := 12) (l' := [(0, .inr (.inr 1826))]) (st' := [.inl 0]) rfl ?_
    refine h_retz (x := 0) rfl rfl (by decide) ?_
    exact ⟨by first | exact Or.inl ⟨rfl, by omega⟩ | exact Or.inr ⟨rfl, by omega⟩, rfl⟩
  · refine h_run 2 (pc' := 12) (l' := [(0, .inr (.inr 1826))]) (st' := [.inl 1]) rfl ?_
    refine h_retz (x := 1) rfl rfl (by decide) ?_
    exact ⟨by first | exact Or.inl ⟨rfl, by omega⟩ | exact Or.inr ⟨rfl, by omega⟩, rfl⟩

/-! isOutside -/
set_option maxRecDepth 100000 in
theorem m_isOutside {zC : Nat → Option zsh} {d : Nat} (hd : 1 ≤ d) {H : hp} {s y : Int} (hs : -2147483648 ≤ s ∧ s ≤ 2147483647) (hy : -2147483648 ≤ y ∧ y ≤ 2147483647) : hG (zs zC) d mt_236 0 (zargs 0 [.inl s, .inl y]) [] H (fun r9 H2 => ((r9 = some (.inl 1) ∧ (s < 0 ∨ 1 < s ∨ y < 0)) ∨ (r9 = some (.inl 0) ∧ (0 ≤ s ∧ s ≤ 1 ∧ 0 ≤ y))) ∧ H = H2) := by
  refine h_rng (fun hrg0 => ?_)
  refine h_run 0 (pc' := 0) (l' := [(0, .inl s), (1, .inl y)]) (st' := []) rfl ?_
  refine h_run 1 (pc' := 1) (l' := [(0, .inl s), (1, .inl y)]) (st' := [.inl s]) rfl ?_
  refine h_zlt (off := 12) (t := 13) rfl rfl (by omega) (fun c1 => ?_) (fun c1 => ?_)
  · refine h_run 2 (pc' := 18) (l' := [(0, .inl s), (1, .inl y)]) (st' := [.inl 1]) rfl ?_
    refine h_retz (x := 1) rfl rfl (by decide) ?_
    exact ⟨by first | exact Or.inl ⟨rfl, by omega⟩ | exact Or.inr ⟨rfl, by omega⟩, rfl⟩
  · refine h_run 2 (pc' := 6) (l' := [(0, .inl s), (1, .inl y)]) (st' := [.inl 1, .inl s]) rfl ?_
    refine h_igt (off := 7) (t := 13) rfl rfl (by omega) (by decide) (fun c2 => ?_) (fun c2 => ?_)
    · refine h_run 2 (pc' := 18) (l' := [(0, .inl s), (1, .inl y)]) (st' := [.inl 1]) rfl ?_
      refine h_retz (x := 1) rfl rfl (by decide) ?_
      exact ⟨by first | exact Or.inl ⟨rfl, by omega⟩ | exact Or.inr ⟨rfl, by omega⟩, rfl⟩
    · refine h_run 1 (pc' := 10) (l' := [(0, .inl s), (1, .inl y)]) (st' := [.inl y]) rfl ?_
      refine h_zge (off := 7) (t := 17) rfl rfl (by omega) (fun c3 => ?_) (fun c3 => ?_)
      · refine h_run 1 (pc' := 18) (l' := [(0, .inl s), (1, .inl y)]) (st' := [.inl 0]) rfl ?_
        refine h_retz (x := 0) rfl rfl (by decide) ?_
        exact ⟨by first | exact Or.inl ⟨rfl, by omega⟩ | exact Or.inr ⟨rfl, by omega⟩, rfl⟩
      · refine h_run 2 (pc' := 18) (l' := [(0, .inl s), (1, .inl y)]) (st' := [.inl 1]) rfl ?_
        refine h_retz (x := 1) rfl rfl (by decide) ?_
        exact ⟨by first | exact Or.inl ⟨rfl, by omega⟩ | exact Or.inr ⟨rfl, by omega⟩, rfl⟩

/-! bring -/
set_option maxRecDepth 100000 in
theorem m_bring_cut {zC : Nat → Option zsh} {d : Nat} (hd : 2 ≤ d) {H : hp} {g s k : Nat} (hg : g < 40 ∧ s < 2) (hk : (H.1 1874) (2 * g + s) = k ∧ k ≤ 64) : ∀ w : Nat, (∀ (H1 : hp) (i : Nat), (fr [93] [1884] H H1) → (i ≤ k) → ((H1.1 1826 93) = ((k : Nat) : Int)) → (∀ x, x < i → (H1.1 1884) (0 + x) = (H.1 1873) (64 * (2 * g + s) + x)) → k - i < w → hG (zs zC) d mt_228 16 [(0, .inr (.inr 1826)), (1, .inl (g : Int)), (2, .inl (s : Int)), (3, .inl (i : Int))] [] H1 (fun r9 H2 => r9 = none ∧ fr [93] [1884] H H2 ∧ (H2.1 1826 93) = k ∧ ∀ x, x < k → (H2.1 1884) x = (H.1 1873) (64 * (2 * g + s) + x))) := by
  intro w
  induction w with
  | zero => exact fun _ _ _ _ _ _ h => absurd h (Nat.not_lt_zero _)
  | succ w ih =>
    intro H1 i hf hi hz hcp hw
    refine h_rng (fun hrg1 => ?_)
    refine h_run 3 (pc' := 21) (l' := [(0, .inr (.inr 1826)), (1, .inl (g : Int)), (2, .inl (s : Int)), (3, .inl (i : Int))]) (st' := [.inl (H1.1 1826 93), .inl (i : Int)]) rfl ?_
    have g2 : -2147483648 ≤ (H1.1 1826 93) ∧ (H1.1 1826 93) ≤ 2147483647 := hrg1.1 1826 13 93 _ .int rfl rfl
    refine h_ige (off := 28) (t := 49) rfl rfl (by omega) (by omega) (fun c3 => ?_) (fun c3 => ?_)
    · refine h_ret rfl rfl ?_
      exact ⟨rfl, hf, (by omega), fun x hx => by have h9 := hcp x (by omega); rw [Nat.zero_add] at h9; exact h9⟩
    · refine h_run 8 (pc' := 36) (l' := [(0, .inr (.inr 1826)), (1, .inl (g : Int)), (2, .inl (s : Int)), (3, .inl (i : Int))]) (st' := [.inl (s : Int), .inl (g : Int), .inr (.inr 1826), .inr (.inr 1873), .inl (i : Int), .inr (.inr 1884)]) rfl ?_
      refine h_cv (i := 528) (j := 221) (b := 1826) (M' := mt_221) (xs := [.inl (s : Int), .inl (g : Int)]) (rest := [.inr (.inr 1873), .inl (i : Int), .inr (.inr 1884)]) rfl rfl rfl rfl rfl rfl (Nat.le_of_ble_eq_true rfl) (Nat.le_of_ble_eq_true rfl) (by omega) (m_sideAt (by omega)) ?_
      rintro _ _ ⟨rfl, rfl⟩
      refine h_run 0 (pc' := 39) (l' := [(0, .inr (.inr 1826)), (1, .inl (g : Int)), (2, .inl (s : Int)), (3, .inl (i : Int))]) (st' := [.inl (64 * ((2 * (g : Int)) + (s : Int))), .inr (.inr 1873), .inl (i : Int), .inr (.inr 1884)]) rfl ?_
      refine h_run 2 (pc' := 41) (l' := [(0, .inr (.inr 1826)), (1, .inl (g : Int)), (2, .inl (s : Int)), (3, .inl (i : Int))]) (st' := [.inl ((64 * ((2 * (g : Int)) + (s : Int))) + (i : Int)), .inr (.inr 1873), .inl (i : Int), .inr (.inr 1884)]) rfl ?_
      refine h_ild (c := 1873) (j := ((64 * ((2 * g) + s)) + i)) (i := ((64 * ((2 * (g : Int)) + (s : Int))) + (i : Int))) rfl rfl (by decide) (by omega) (by omega) ?_
      have g4 : -2147483648 ≤ (H1.1 1873 ((64 * ((2 * g) + s)) + i)) ∧ (H1.1 1873 ((64 * ((2 * g) + s)) + i)) ≤ 2147483647 := hrg1.2 1873 ((64 * ((2 * g) + s)) + i) 5120 .int rfl (by omega)
      have e5 : (H1.1 1873 ((64 * ((2 * g) + s)) + i)) = (H.1 1873 ((64 * ((2 * g) + s)) + i)) := congrFun (hf.2.1 1873 (by decide) (by decide)) ((64 * ((2 * g) + s)) + i)
      refine h_run 0 (pc' := 42) (l' := [(0, .inr (.inr 1826)), (1, .inl (g : Int)), (2, .inl (s : Int)), (3, .inl (i : Int))]) (st' := [.inl (H1.1 1873 ((64 * ((2 * g) + s)) + i)), .inl (i : Int), .inr (.inr 1884)]) rfl ?_
      refine h_ist (c := 1884) (j := i) (i := (i : Int)) (x := (H1.1 1873 ((64 * ((2 * g) + s)) + i))) rfl rfl (by decide) (by decide) rfl (by omega) (by omega) ?_
      refine h_run 2 (pc' := 16) (l' := [(0, .inr (.inr 1826)), (1, .inl (g : Int)), (2, .inl (s : Int)), (3, .inl ((i : Int) + 1))]) (st' := []) rfl ?_
      rw [show ((i : Int) + 1) = (((i + 1) : Nat) : Int) by omega]
      exact ih _ (i + 1) (fr_a hf (by decide)) (by omega) (by omega : (H1.1 1826 93) = ((k : Nat) : Int)) (by have h9 := cp_up (b := fun x => (H.1 1873) (64 * (2 * g + s) + x)) hcp; rw [Nat.zero_add] at h9; show ∀ x, x < i + 1 → up (H1.1 1884) i ((H1.1 1873) (64 * (2 * g + s) + i)) (0 + x) = _; rw [show (H1.1 1873) = (H.1 1873) from hf.2.1 1873 (by decide) (by decide)]; exact h9) (by omega : k - (i + 1) < w)
set_option maxRecDepth 100000 in
theorem m_bring {zC : Nat → Option zsh} {d : Nat} (hd : 2 ≤ d) {H : hp} {g s k : Nat} (hg : g < 40 ∧ s < 2) (hk : (H.1 1874) (2 * g + s) = k ∧ k ≤ 64) : hG (zs zC) d mt_228 0 (zargs 0 [.inr (.inr 1826), .inl (g : Int), .inl (s : Int)]) [] H (fun r9 H2 => r9 = none ∧ fr [93] [1884] H H2 ∧ (H2.1 1826 93) = k ∧ ∀ x, x < k → (H2.1 1884) x = (H.1 1873) (64 * (2 * g + s) + x)) := by
  refine h_rng (fun hrg0 => ?_)
  refine h_run 0 (pc' := 0) (l' := [(0, .inr (.inr 1826)), (1, .inl (g : Int)), (2, .inl (s : Int))]) (st' := []) rfl ?_
  refine h_run 8 (pc' := 10) (l' := [(0, .inr (.inr 1826)), (1, .inl (g : Int)), (2, .inl (s : Int))]) (st' := [.inl ((2 * (g : Int)) + (s : Int)), .inr (.inr 1874), .inr (.inr 1826)]) rfl ?_
  refine h_ild (c := 1874) (j := ((2 * g) + s)) (i := ((2 * (g : Int)) + (s : Int))) rfl rfl (by decide) (by omega) (by omega) ?_
  have g6 : -2147483648 ≤ (H.1 1874 ((2 * g) + s)) ∧ (H.1 1874 ((2 * g) + s)) ≤ 2147483647 := hrg0.2 1874 ((2 * g) + s) 80 .int rfl (by omega)
  refine h_run 0 (pc' := 11) (l' := [(0, .inr (.inr 1826)), (1, .inl (g : Int)), (2, .inl (s : Int))]) (st' := [.inl (H.1 1874 ((2 * g) + s)), .inr (.inr 1826)]) rfl ?_
  refine h_puti (i := 547) (ci := 13) (k := 93) (a := 1826) (x := (H.1 1874 ((2 * g) + s))) rfl rfl rfl rfl rfl rfl (by decide) (by omega) ?_
  refine h_run 2 (pc' := 16) (l' := [(0, .inr (.inr 1826)), (1, .inl (g : Int)), (2, .inl (s : Int)), (3, .inl 0)]) (st' := []) rfl ?_
  exact (m_bring_cut hd hg hk _) _ 0 (fr_o (fr_rf _ _ _) (by decide)) (by omega) (by omega : (H.1 1874 ((2 * g) + s)) = ((k : Nat) : Int)) (fun x hx => absurd hx (Nat.not_lt_zero _)) (Nat.lt_succ_self _)

/-! isKept -/
set_option maxRecDepth 100000 in
theorem m_isKept_cut {zC : Nat → Option zsh} {d : Nat} (hd : 2 ≤ d) {H : hp} {g s M : Nat} (hg : g < 40 ∧ s < 2) (hm : (H.1 1826 53) = M ∧ M ≤ 12000) : ∀ w : Nat, (∀ (H1 : hp) (i : Nat), (fr [] [1873, 1874] H H1) → (i ≤ M ∧ M ≤ 60) → ((H1.1 1874) = up (H.1 1874) (2 * g + s) M) → (∀ x, x < i → (H1.1 1873) (64 * (2 * g + s) + x) = (H1.1 1856) x) → (∀ x, (x < 64 * (2 * g + s) ∨ 64 * (2 * g + s) + 64 ≤ x) → (H1.1 1873) x = (H.1 1873) x) → M - i < w → hG (zs zC) d mt_229 27 [(0, .inr (.inr 1826)), (1, .inl (g : Int)), (2, .inl (s : Int)), (3, .inl (i : Int))] [] H1 (fun r9 H2 => (r9 = some (.inl 0) ∧ 60 < M ∧ H = H2) ∨ (r9 = some (.inl 1) ∧ M ≤ 60 ∧ fr [] [1873, 1874] H H2 ∧ (H2.1 1874) = up (H.1 1874) (2 * g + s) M ∧ (∀ x, x < M → (H2.1 1873) (64 * (2 * g + s) + x) = (H.1 1856) x) ∧ ∀ x, (x < 64 * (2 * g + s) ∨ 64 * (2 * g + s) + 64 ≤ x) → (H2.1 1873) x = (H.1 1873) x))) := by
  intro w
  induction w with
  | zero => exact fun _ _ _ _ _ _ _ h => absurd h (Nat.not_lt_zero _)
  | succ w ih =>
    intro H1 i hf hi hz hcp ho hw
    refine h_rng (fun hrg1 => ?_)
    refine h_run 3 (pc' := 32) (l' := [(0, .inr (.inr 1826)), (1, .inl (g : Int)), (2, .inl (s : Int)), (3, .inl (i : Int))]) (st' := [.inl (H1.1 1826 53), .inl (i : Int)]) rfl ?_
    have g2 : -2147483648 ≤ (H1.1 1826 53) ∧ (H1.1 1826 53) ≤ 2147483647 := hrg1.1 1826 13 53 _ .int rfl rfl
    have e3 : (H1.1 1826 53) = (H.1 1826 53) := hf.2.2 53 (by decide)
    refine h_ige (off := 28) (t := 60) rfl rfl (by omega) (by omega) (fun c4 => ?_) (fun c4 => ?_)
    · refine h_run 1 (pc' := 61) (l' := [(0, .inr (.inr 1826)), (1, .inl (g : Int)), (2, .inl (s : Int)), (3, .inl (i : Int))]) (st' := [.inl 1]) rfl ?_
      refine h_retz (x := 1) rfl rfl (by decide) ?_
      exact Or.inr ⟨rfl, by omega, hf, hz, fun x hx => (hcp x (by omega)).trans (congrFun (hf.2.1 1856 (by decide) (by decide)) x), ho⟩
    · refine h_run 5 (pc' := 42) (l' := [(0, .inr (.inr 1826)), (1, .inl (g : Int)), (2, .inl (s : Int)), (3, .inl (i : Int))]) (st' := [.inl (s : Int), .inl (g : Int), .inr (.inr 1826), .inr (.inr 1873)]) rfl ?_
      refine h_cv (i := 528) (j := 221) (b := 1826) (M' := mt_221) (xs := [.inl (s : Int), .inl (g : Int)]) (rest := [.inr (.inr 1873)]) rfl rfl rfl rfl rfl rfl (Nat.le_of_ble_eq_true rfl) (Nat.le_of_ble_eq_true rfl) (by omega) (m_sideAt (by omega)) ?_
      rintro _ _ ⟨rfl, rfl⟩
      refine h_run 0 (pc' := 45) (l' := [(0, .inr (.inr 1826)), (1, .inl (g : Int)), (2, .inl (s : Int)), (3, .inl (i : Int))]) (st' := [.inl (64 * ((2 * (g : Int)) + (s : Int))), .inr (.inr 1873)]) rfl ?_
      refine h_run 5 (pc' := 52) (l' := [(0, .inr (.inr 1826)), (1, .inl (g : Int)), (2, .inl (s : Int)), (3, .inl (i : Int))]) (st' := [.inl (i : Int), .inr (.inr 1856), .inl ((64 * ((2 * (g : Int)) + (s : Int))) + (i : Int)), .inr (.inr 1873)]) rfl ?_
      refine h_ild (c := 1856) (j := i) (i := (i : Int)) rfl rfl (by decide) rfl (by omega) ?_
      have g5 : -2147483648 ≤ (H1.1 1856 i) ∧ (H1.1 1856 i) ≤ 2147483647 := hrg1.2 1856 i 12000 .int rfl (by omega)
      have e6 : (H1.1 1856 i) = (H.1 1856 i) := congrFun (hf.2.1 1856 (by decide) (by decide)) i
      refine h_run 0 (pc' := 53) (l' := [(0, .inr (.inr 1826)), (1, .inl (g : Int)), (2, .inl (s : Int)), (3, .inl (i : Int))]) (st' := [.inl (H1.1 1856 i), .inl ((64 * ((2 * (g : Int)) + (s : Int))) + (i : Int)), .inr (.inr 1873)]) rfl ?_
      refine h_ist (c := 1873) (j := ((64 * ((2 * g) + s)) + i)) (i := ((64 * ((2 * (g : Int)) + (s : Int))) + (i : Int))) (x := (H1.1 1856 i)) rfl rfl (by decide) (by decide) (by omega) (by omega) (by omega) ?_
      refine h_run 2 (pc' := 27) (l' := [(0, .inr (.inr 1826)), (1, .inl (g : Int)), (2, .inl (s : Int)), (3, .inl ((i : Int) + 1))]) (st' := []) rfl ?_
      rw [show ((i : Int) + 1) = (((i + 1) : Nat) : Int) by omega]
      exact ih _ (i + 1) (fr_a hf (by decide)) (by omega) hz (cp_up hcp : ∀ x, x < i + 1 → up (H1.1 1873) (64 * (2 * g + s) + i) ((H1.1 1856) i) (64 * (2 * g + s) + x) = (H1.1 1856) x) (fun x hx => (show up (H1.1 1873) (64 * (2 * g + s) + i) ((H1.1 1856) i) x = _ from (up_ne _ _ (by omega)).trans (ho x hx))) (by omega : M - (i + 1) < w)
set_option maxRecDepth 100000 in
theorem m_isKept {zC : Nat → Option zsh} {d : Nat} (hd : 2 ≤ d) {H : hp} {g s M : Nat} (hg : g < 40 ∧ s < 2) (hm : (H.1 1826 53) = M ∧ M ≤ 12000) : hG (zs zC) d mt_229 0 (zargs 0 [.inr (.inr 1826), .inl (g : Int), .inl (s : Int)]) [] H (fun r9 H2 => (r9 = some (.inl 0) ∧ 60 < M ∧ H = H2) ∨ (r9 = some (.inl 1) ∧ M ≤ 60 ∧ fr [] [1873, 1874] H H2 ∧ (H2.1 1874) = up (H.1 1874) (2 * g + s) M ∧ (∀ x, x < M → (H2.1 1873) (64 * (2 * g + s) + x) = (H.1 1856) x) ∧ ∀ x, (x < 64 * (2 * g + s) ∨ 64 * (2 * g + s) + 64 ≤ x) → (H2.1 1873) x = (H.1 1873) x)) := by
  refine h_rng (fun hrg0 => ?_)
  refine h_run 0 (pc' := 0) (l' := [(0, .inr (.inr 1826)), (1, .inl (g : Int)), (2, .inl (s : Int))]) (st' := []) rfl ?_
  refine h_run 2 (pc' := 4) (l' := [(0, .inr (.inr 1826)), (1, .inl (g : Int)), (2, .inl (s : Int))]) (st' := [.inl (H.1 1826 53)]) rfl ?_
  have g7 : -2147483648 ≤ (H.1 1826 53) ∧ (H.1 1826 53) ≤ 2147483647 := hrg0.1 1826 13 53 _ .int rfl rfl
  refine h_run 1 (pc' := 6) (l' := [(0, .inr (.inr 1826)), (1, .inl (g : Int)), (2, .inl (s : Int))]) (st' := [.inl 60, .inl (H.1 1826 53)]) rfl ?_
  refine h_ile (off := 5) (t := 11) rfl rfl (by omega) (by decide) (fun c8 => ?_) (fun c8 => ?_)
  · refine h_run 9 (pc' := 24) (l' := [(0, .inr (.inr 1826)), (1, .inl (g : Int)), (2, .inl (s : Int))]) (st' := [.inl (H.1 1826 53), .inl ((2 * (g : Int)) + (s : Int)), .inr (.inr 1874)]) rfl ?_
    refine h_ist (c := 1874) (j := ((2 * g) + s)) (i := ((2 * (g : Int)) + (s : Int))) (x := (H.1 1826 53)) rfl rfl (by decide) (by decide) (by omega) (by omega) (by omega) ?_
    refine h_run 2 (pc' := 27) (l' := [(0, .inr (.inr 1826)), (1, .inl (g : Int)), (2, .inl (s : Int)), (3, .inl 0)]) (st' := []) rfl ?_
    exact (m_isKept_cut hd hg hm _) _ 0 (fr_a (fr_rf _ _ _) (by decide)) (by omega) (show up (H.1 1874) (2 * g + s) (H.1 1826 53) = _ by rw [hm.1]) (fun x hx => absurd hx (Nat.not_lt_zero _)) (fun _ _ => rfl) (Nat.lt_succ_self _)
  · refine h_run 1 (pc' := 10) (l' := [(0, .inr (.inr 1826)), (1, .inl (g : Int)), (2, .inl (s : Int))]) (st' := [.inl 0]) rfl ?_
    refine h_retz (x := 0) rfl rfl (by decide) ?_
    exact Or.inl ⟨rfl, by omega, rfl⟩
