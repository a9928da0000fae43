/-! the reference: slots of goals -/
/-- among fewer numbers than n one below n is wanting -/
theorem pigeon : ∀ (n : Nat) (U : List Nat), U.length < n → ∃ g, g < n ∧ g ∉ U
  | 0, _, h => absurd h (Nat.not_lt_zero _)
  | n + 1, U, h => by
    by_cases hn : n ∈ U
    · obtain ⟨g, h1, h2⟩ := pigeon n (U.erase n) (by rw [List.length_erase_of_mem hn]; have := List.length_pos_of_mem hn; omega)
      refine ⟨g, by omega, fun hg => h2 ?_⟩
      exact (List.mem_erase_of_ne (by omega)).mpr hg
    · exact ⟨n, by omega, hn⟩

/-! free -/
set_option maxRecDepth 100000 in
theorem m_free_cut {zC : Nat → Option zsh} {d : Nat} (hd : 1 ≤ d) {H : hp} {g0 : Nat} (hg : g0 < 40 ∧ (H.1 1872) g0 = 0) : ∀ w : Nat, (∀ (i : Nat), (i ≤ g0) → g0 - i < w → hG (zs zC) d mt_224 2 [(0, .inr (.inr 1826)), (1, .inl (i : Int))] [] H (fun r9 H2 => ∃ g : Nat, r9 = some (.inl (g : Int)) ∧ g < 40 ∧ (H.1 1872) g = 0 ∧ H2 = zu H 1872 (up (H.1 1872) g 1))) := by
  intro w
  induction w with
  | zero => exact fun _ _ h => absurd h (Nat.not_lt_zero _)
  | succ w ih =>
    intro i hi hw
    refine h_rng (fun hrg1 => ?_)
    refine h_run 3 (pc' := 7) (l' := [(0, .inr (.inr 1826)), (1, .inl (i : Int))]) (st' := [.inl (i : Int), .inr (.inr 1872)]) rfl ?_
    refine h_bld (c := 1872) (j := i) (i := (i : Int)) (Or.inr rfl) rfl rfl (by decide) rfl (by omega) ?_
    have g2 : 0 ≤ (H.1 1872 i) ∧ (H.1 1872 i) ≤ 1 := hrg1.2 1872 i 40 .boolean rfl (by omega)
    refine h_run 0 (pc' := 8) (l' := [(0, .inr (.inr 1826)), (1, .inl (i : Int))]) (st' := [.inl (H.1 1872 i)]) rfl ?_
    refine h_zeq (off := 9) (t := 17) rfl rfl (by omega) (fun c3 => ?_) (fun c3 => ?_)
    · refine h_run 4 (pc' := 23) (l' := [(0, .inr (.inr 1826)), (1, .inl (i : Int))]) (st' := [.inl 1, .inl (i : Int), .inr (.inr 1872)]) rfl ?_
      refine h_bst (c := 1872) (j := i) (i := (i : Int)) (x := 1) (Or.inr rfl) rfl rfl (by decide) (by decide) rfl (by omega) (show (0 : Int) ≤ 1 ∧ 1 ≤ 1 by omega) ?_
      refine h_run 1 (pc' := 25) (l' := [(0, .inr (.inr 1826)), (1, .inl (i : Int))]) (st' := [.inl (i : Int)]) rfl ?_
      refine h_reti (x := (i : Int)) rfl rfl ?_
      exact ⟨i, rfl, by omega, by omega, rfl⟩
    · have hne : i ≠ g0 := fun e9 => by have h9 : (H.1 1872) i = 0 := (by rw [e9]; exact hg.2); omega
      refine h_run 2 (pc' := 2) (l' := [(0, .inr (.inr 1826)), (1, .inl ((i : Int) + 1))]) (st' := []) rfl ?_
      rw [show ((i : Int) + 1) = (((i + 1) : Nat) : Int) by omega]
      exact ih (i + 1) (by omega) (by omega : g0 - (i + 1) < w)
set_option maxRecDepth 100000 in
theorem m_free {zC : Nat → Option zsh} {d : Nat} (hd : 1 ≤ d) {H : hp} {g0 : Nat} (hg : g0 < 40 ∧ (H.1 1872) g0 = 0) : hG (zs zC) d mt_224 0 (zargs 0 [.inr (.inr 1826)]) [] H (fun r9 H2 => ∃ g : Nat, r9 = some (.inl (g : Int)) ∧ g < 40 ∧ (H.1 1872) g = 0 ∧ H2 = zu H 1872 (up (H.1 1872) g 1)) := by
  refine h_rng (fun hrg0 => ?_)
  refine h_run 0 (pc' := 0) (l' := [(0, .inr (.inr 1826))]) (st' := []) rfl ?_
  refine h_run 2 (pc' := 2) (l' := [(0, .inr (.inr 1826)), (1, .inl 0)]) (st' := []) rfl ?_
  exact (m_free_cut hd hg _) 0 (by omega) (Nat.lt_succ_self _)
