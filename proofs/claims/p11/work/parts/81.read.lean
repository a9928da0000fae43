/-! arity -/
set_option maxRecDepth 100000 in
theorem m_arity {zC : Nat → Option zsh} {d : Nat} (hd : 1 ≤ d) {H : hp} {s : Int} (hs : sg0 s) : hG (zs zC) d mt_154 0 (zargs 0 [.inr (.inr 1826), .inl s]) [] H (fun r H2 => r = some (.inl (ma (H.1 1833) (H.1 1830) s)) ∧ H = H2) := by
  refine h_rng (fun hrg0 => ?_)
  refine h_run 0 (pc' := 0) (l' := [(0, .inr (.inr 1826)), (1, .inl s)]) (st' := []) rfl ?_
  have hs9 : s = 0 ∨ (1 ≤ s ∧ s ≤ 16) ∨ (100 ≤ s ∧ s ≤ 115) ∨ (1000 ≤ s ∧ s ≤ 3000) := hs
  refine h_run 2 (pc' := 4) (l' := [(0, .inr (.inr 1826)), (1, .inl s)]) (st' := [.inl 1000, .inl s]) rfl ?_
  refine h_ige (off := 7) (t := 11) rfl rfl (by omega) (by decide) (fun c1 => ?_) (fun c1 => ?_)
  · refine h_run 2 (pc' := 41) (l' := [(0, .inr (.inr 1826)), (1, .inl s)]) (st' := [.inl 0]) rfl ?_
    refine h_reti (x := 0) rfl rfl ?_
    exact ⟨congrArg (fun z => some (Sum.inl z)) (by first | exact (ma_0 (by omega)).symm | exact (ma_f (by omega)).symm | exact (ma_c (by omega)).symm), rfl⟩
  · refine h_run 1 (pc' := 8) (l' := [(0, .inr (.inr 1826)), (1, .inl s)]) (st' := [.inl s]) rfl ?_
    refine h_zne (off := 7) (t := 15) rfl rfl (by omega) (fun c2 => ?_) (fun c2 => ?_)
    · refine h_run 2 (pc' := 18) (l' := [(0, .inr (.inr 1826)), (1, .inl s)]) (st' := [.inl 100, .inl s]) rfl ?_
      refine h_ilt (off := 15) (t := 33) rfl rfl (by omega) (by decide) (fun c3 => ?_) (fun c3 => ?_)
      · refine h_run 5 (pc' := 40) (l' := [(0, .inr (.inr 1826)), (1, .inl s)]) (st' := [.inl (s - 1), .inr (.inr 1830)]) rfl ?_
        refine h_ild (c := 1830) (j := ((s - 1)).toNat) (i := (s - 1)) rfl rfl (by decide) (by omega) (by omega) ?_
        have g4 : -2147483648 ≤ (H.1 1830 ((s - 1)).toNat) ∧ (H.1 1830 ((s - 1)).toNat) ≤ 2147483647 := hrg0.2 1830 ((s - 1)).toNat 16 .int rfl (by omega)
        refine h_run 0 (pc' := 41) (l' := [(0, .inr (.inr 1826)), (1, .inl s)]) (st' := [.inl (H.1 1830 ((s - 1)).toNat)]) rfl ?_
        refine h_reti (x := (H.1 1830 ((s - 1)).toNat)) rfl rfl ?_
        exact ⟨congrArg (fun z => some (Sum.inl z)) (by first | exact (ma_0 (by omega)).symm | exact (ma_f (by omega)).symm | exact (ma_c (by omega)).symm), rfl⟩
      · refine h_run 5 (pc' := 29) (l' := [(0, .inr (.inr 1826)), (1, .inl s)]) (st' := [.inl (s - 100), .inr (.inr 1833)]) rfl ?_
        refine h_ild (c := 1833) (j := ((s - 100)).toNat) (i := (s - 100)) rfl rfl (by decide) (by omega) (by omega) ?_
        have g5 : -2147483648 ≤ (H.1 1833 ((s - 100)).toNat) ∧ (H.1 1833 ((s - 100)).toNat) ≤ 2147483647 := hrg0.2 1833 ((s - 100)).toNat 16 .int rfl (by omega)
        refine h_run 0 (pc' := 30) (l' := [(0, .inr (.inr 1826)), (1, .inl s)]) (st' := [.inl (H.1 1833 ((s - 100)).toNat)]) rfl ?_
        refine h_run 1 (pc' := 41) (l' := [(0, .inr (.inr 1826)), (1, .inl s)]) (st' := [.inl (H.1 1833 ((s - 100)).toNat)]) rfl ?_
        refine h_reti (x := (H.1 1833 ((s - 100)).toNat)) rfl rfl ?_
        exact ⟨congrArg (fun z => some (Sum.inl z)) (by first | exact (ma_0 (by omega)).symm | exact (ma_f (by omega)).symm | exact (ma_c (by omega)).symm), rfl⟩
    · refine h_run 2 (pc' := 41) (l' := [(0, .inr (.inr 1826)), (1, .inl s)]) (st' := [.inl 0]) rfl ?_
      refine h_reti (x := 0) rfl rfl ?_
      exact ⟨congrArg (fun z => some (Sum.inl z)) (by first | exact (ma_0 (by omega)).symm | exact (ma_f (by omega)).symm | exact (ma_c (by omega)).symm), rfl⟩

/-! behind -/
set_option maxRecDepth 100000 in
theorem m_behind_cut {zC : Nat → Option zsh} {d : Nat} (hd : 2 ≤ d) {H : hp} {c n a k : Nat} (hc : zs zC c = some (.inr (.int, n))) (hn : n ≤ 100000) (hT : tm (ma (H.1 1833) (H.1 1830)) sg0 (H.1 c) k a 1) (hb : a + k ≤ n) : ∀ w : Nat, (∀ (j : Nat) (i : Nat) (o : Nat), (tm (ma (H.1 1833) (H.1 1830)) sg0 (H.1 c) j i o) → (i + j = a + k) → j < w → hG (zs zC) d mt_155 5 [(0, .inr (.inr 1826)), (1, .inr (.inr c)), (2, .inl (a : Int)), (3, .inl (o : Int)), (4, .inl (i : Int))] [] H (fun r H2 => r = some (.inl ((a + k : Nat) : Int)) ∧ H = H2)) := by
  intro w
  induction w with
  | zero => exact fun _ _ _ _ _ h => absurd h (Nat.not_lt_zero _)
  | succ w ih =>
    intro j i o hT2 he hw
    refine h_rng (fun hrg1 => ?_)
    have hle := tm_le hT2
    refine h_run 1 (pc' := 6) (l' := [(0, .inr (.inr 1826)), (1, .inr (.inr c)), (2, .inl (a : Int)), (3, .inl (o : Int)), (4, .inl (i : Int))]) (st' := [.inl (o : Int)]) rfl ?_
    refine h_zle (off := 22) (t := 28) rfl rfl (by omega) (fun c2 => ?_) (fun c2 => ?_)
    · refine h_run 1 (pc' := 30) (l' := [(0, .inr (.inr 1826)), (1, .inr (.inr c)), (2, .inl (a : Int)), (3, .inl (o : Int)), (4, .inl (i : Int))]) (st' := [.inl (i : Int)]) rfl ?_
      refine h_reti (x := (i : Int)) rfl rfl ?_
      have hz : o = 0 := by omega
      subst hz
      have hj := tm_z hT2
      exact ⟨congrArg (fun z : Nat => some (Sum.inl (z : Int))) (by omega), rfl⟩
    · obtain ⟨j1, rfl⟩ : ∃ j1, j = j1 + 1 := ⟨j - 1, by omega⟩
      obtain ⟨-, hok, mm, hm, hm4, hT3⟩ := hT2
      refine h_run 4 (pc' := 14) (l' := [(0, .inr (.inr 1826)), (1, .inr (.inr c)), (2, .inl (a : Int)), (3, .inl (o : Int)), (4, .inl (i : Int))]) (st' := [.inl (i : Int), .inr (.inr c), .inr (.inr 1826), .inl (o : Int)]) rfl ?_
      refine h_ild (c := c) (j := i) (i := (i : Int)) rfl hc (by omega) rfl (by omega) ?_
      have g3 : -2147483648 ≤ (H.1 c i) ∧ (H.1 c i) ≤ 2147483647 := hrg1.2 c i n .int hc (by omega)
      refine h_run 0 (pc' := 15) (l' := [(0, .inr (.inr 1826)), (1, .inr (.inr c)), (2, .inl (a : Int)), (3, .inl (o : Int)), (4, .inl (i : Int))]) (st' := [.inl (H.1 c i), .inr (.inr 1826), .inl (o : Int)]) rfl ?_
      refine h_cv (i := 244) (j := 154) (b := 1826) (M' := mt_154) (xs := [.inl (H.1 c i)]) (rest := [.inl (o : Int)]) rfl rfl rfl rfl rfl rfl (Nat.le_of_ble_eq_true rfl) (Nat.le_of_ble_eq_true rfl) (by omega) (m_arity (by omega) hok) ?_
      rintro _ _ ⟨rfl, rfl⟩
      refine h_run 0 (pc' := 18) (l' := [(0, .inr (.inr 1826)), (1, .inr (.inr c)), (2, .inl (a : Int)), (3, .inl (o : Int)), (4, .inl (i : Int))]) (st' := [.inl (ma (H.1 1833) (H.1 1830) (H.1 c i)), .inl (o : Int)]) rfl ?_
      refine h_run 6 (pc' := 5) (l' := [(0, .inr (.inr 1826)), (1, .inr (.inr c)), (2, .inl (a : Int)), (3, .inl ((o : Int) + ((ma (H.1 1833) (H.1 1830) (H.1 c i)) - 1))), (4, .inl ((i : Int) + 1))]) (st' := []) rfl ?_
      rw [show ((o : Int) + ((ma (H.1 1833) (H.1 1830) (H.1 c i)) - 1)) = (((o - 1 + mm) : Nat) : Int) by omega]
      rw [show ((i : Int) + 1) = (((i + 1) : Nat) : Int) by omega]
      exact ih (j1) (i + 1) (o - 1 + mm) hT3 (by omega) (by omega : (j1) < w)
set_option maxRecDepth 100000 in
theorem m_behind {zC : Nat → Option zsh} {d : Nat} (hd : 2 ≤ d) {H : hp} {c n a k : Nat} (hc : zs zC c = some (.inr (.int, n))) (hn : n ≤ 100000) (hT : tm (ma (H.1 1833) (H.1 1830)) sg0 (H.1 c) k a 1) (hb : a + k ≤ n) : hG (zs zC) d mt_155 0 (zargs 0 [.inr (.inr 1826), .inr (.inr c), .inl (a : Int)]) [] H (fun r H2 => r = some (.inl ((a + k : Nat) : Int)) ∧ H = H2) := by
  refine h_rng (fun hrg0 => ?_)
  refine h_run 0 (pc' := 0) (l' := [(0, .inr (.inr 1826)), (1, .inr (.inr c)), (2, .inl (a : Int))]) (st' := []) rfl ?_
  refine h_run 4 (pc' := 5) (l' := [(0, .inr (.inr 1826)), (1, .inr (.inr c)), (2, .inl (a : Int)), (3, .inl 1), (4, .inl (a : Int))]) (st' := []) rfl ?_
  exact (m_behind_cut hd hc hn hT hb _) (k) a (1) hT (by omega) (Nat.lt_succ_self _)

/-! isCall -/
set_option maxRecDepth 100000 in
theorem m_isCall {zC : Nat → Option zsh} {d : Nat} (hd : 1 ≤ d) {H : hp} {s : Int} (hs : -2147483648 ≤ s ∧ s ≤ 2147483647) : hG (zs zC) d mt_156 0 (zargs 0 [.inl s]) [] H (fun r H2 => ((r = some (.inl 1) ∧ (100 ≤ s ∧ s < 1000)) ∨ (r = some (.inl 0) ∧ (s < 100 ∨ 1000 ≤ s))) ∧ H = H2) := by
  refine h_rng (fun hrg0 => ?_)
  refine h_run 0 (pc' := 0) (l' := [(0, .inl s)]) (st' := []) rfl ?_
  refine h_run 2 (pc' := 3) (l' := [(0, .inl s)]) (st' := [.inl 100, .inl s]) rfl ?_
  refine h_ilt (off := 14) (t := 17) rfl rfl (by omega) (by decide) (fun c1 => ?_) (fun c1 => ?_)
  · refine h_run 1 (pc' := 18) (l' := [(0, .inl s)]) (st' := [.inl 0]) rfl ?_
    refine h_retz (x := 0) rfl rfl (by decide) ?_
    exact ⟨by first | exact Or.inl ⟨rfl, by omega⟩ | exact Or.inr ⟨rfl, by omega⟩, rfl⟩
  · refine h_run 2 (pc' := 10) (l' := [(0, .inl s)]) (st' := [.inl 1000, .inl s]) rfl ?_
    refine h_ige (off := 7) (t := 17) rfl rfl (by omega) (by decide) (fun c2 => ?_) (fun c2 => ?_)
    · refine h_run 1 (pc' := 18) (l' := [(0, .inl s)]) (st' := [.inl 0]) rfl ?_
      refine h_retz (x := 0) rfl rfl (by decide) ?_
      exact ⟨by first | exact Or.inl ⟨rfl, by omega⟩ | exact Or.inr ⟨rfl, by omega⟩, rfl⟩
    · refine h_run 2 (pc' := 18) (l' := [(0, .inl s)]) (st' := [.inl 1]) rfl ?_
      refine h_retz (x := 1) rfl rfl (by decide) ?_
      exact ⟨by first | exact Or.inl ⟨rfl, by omega⟩ | exact Or.inr ⟨rfl, by omega⟩, rfl⟩

/-! isCon -/
set_option maxRecDepth 100000 in
theorem m_isCon {zC : Nat → Option zsh} {d : Nat} (hd : 1 ≤ d) {H : hp} {s : Int} (hs : -2147483648 ≤ s ∧ s ≤ 2147483647) : hG (zs zC) d mt_157 0 (zargs 0 [.inl s]) [] H (fun r H2 => ((r = some (.inl 1) ∧ (1 ≤ s ∧ s < 100)) ∨ (r = some (.inl 0) ∧ (s < 1 ∨ 100 ≤ s))) ∧ H = H2) := by
  refine h_rng (fun hrg0 => ?_)
  refine h_run 0 (pc' := 0) (l' := [(0, .inl s)]) (st' := []) rfl ?_
  refine h_run 2 (pc' := 2) (l' := [(0, .inl s)]) (st' := [.inl 1, .inl s]) rfl ?_
  refine h_ilt (off := 13) (t := 15) rfl rfl (by omega) (by decide) (fun c1 => ?_) (fun c1 => ?_)
  · refine h_run 1 (pc' := 16) (l' := [(0, .inl s)]) (st' := [.inl 0]) rfl ?_
    refine h_retz (x := 0) rfl rfl (by decide) ?_
    exact ⟨by first | exact Or.inl ⟨rfl, by omega⟩ | exact Or.inr ⟨rfl, by omega⟩, rfl⟩
  · refine h_run 2 (pc' := 8) (l' := [(0, .inl s)]) (st' := [.inl 100, .inl s]) rfl ?_
    refine h_ige (off := 7) (t := 15) rfl rfl (by omega) (by decide) (fun c2 => ?_) (fun c2 => ?_)
    · refine h_run 1 (pc' := 16) (l' := [(0, .inl s)]) (st' := [.inl 0]) rfl ?_
      refine h_retz (x := 0) rfl rfl (by decide) ?_
      exact ⟨by first | exact Or.inl ⟨rfl, by omega⟩ | exact Or.inr ⟨rfl, by omega⟩, rfl⟩
    · refine h_run 2 (pc' := 16) (l' := [(0, .inl s)]) (st' := [.inl 1]) rfl ?_
      refine h_retz (x := 1) rfl rfl (by decide) ?_
      exact ⟨by first | exact Or.inl ⟨rfl, by omega⟩ | exact Or.inr ⟨rfl, by omega⟩, rfl⟩

/-! isLetter -/
set_option maxRecDepth 100000 in
theorem m_isLetter {zC : Nat → Option zsh} {d : Nat} (hd : 1 ≤ d) {H : hp} {s : Int} (hs : -2147483648 ≤ s ∧ s ≤ 2147483647) : hG (zs zC) d mt_162 0 (zargs 0 [.inl s]) [] H (fun r H2 => ((r = some (.inl 1) ∧ ((97 ≤ s ∧ s ≤ 122) ∨ (65 ≤ s ∧ s ≤ 90))) ∨ (r = some (.inl 0) ∧ (s < 65 ∨ (90 < s ∧ s < 97) ∨ 122 < s))) ∧ H = H2) := by
  refine h_rng (fun hrg0 => ?_)
  refine h_run 0 (pc' := 0) (l' := [(0, .inl s)]) (st' := []) rfl ?_
  refine h_run 2 (pc' := 3) (l' := [(0, .inl s)]) (st' := [.inl 97, .inl s]) rfl ?_
  refine h_ilt (off := 9) (t := 12) rfl rfl (by omega) (by decide) (fun c1 => ?_) (fun c1 => ?_)
  · refine h_run 2 (pc' := 15) (l' := [(0, .inl s)]) (st' := [.inl 65, .inl s]) rfl ?_
    refine h_ilt (off := 13) (t := 28) rfl rfl (by omega) (by decide) (fun c2 => ?_) (fun c2 => ?_)
    · refine h_run 1 (pc' := 29) (l' := [(0, .inl s)]) (st' := [.inl 0]) rfl ?_
      refine h_retz (x := 0) rfl rfl (by decide) ?_
      exact ⟨by first | exact Or.inl ⟨rfl, by omega⟩ | exact Or.inr ⟨rfl, by omega⟩, rfl⟩
    · refine h_run 2 (pc' := 21) (l' := [(0, .inl s)]) (st' := [.inl 90, .inl s]) rfl ?_
      refine h_igt (off := 7) (t := 28) rfl rfl (by omega) (by decide) (fun c3 => ?_) (fun c3 => ?_)
      · refine h_run 1 (pc' := 29) (l' := [(0, .inl s)]) (st' := [.inl 0]) rfl ?_
        refine h_retz (x := 0) rfl rfl (by decide) ?_
        exact ⟨by first | exact Or.inl ⟨rfl, by omega⟩ | exact Or.inr ⟨rfl, by omega⟩, rfl⟩
      · refine h_run 2 (pc' := 29) (l' := [(0, .inl s)]) (st' := [.inl 1]) rfl ?_
        refine h_retz (x := 1) rfl rfl (by decide) ?_
        exact ⟨by first | exact Or.inl ⟨rfl, by omega⟩ | exact Or.inr ⟨rfl, by omega⟩, rfl⟩
  · refine h_run 2 (pc' := 9) (l' := [(0, .inl s)]) (st' := [.inl 122, .inl s]) rfl ?_
    refine h_ile (off := 15) (t := 24) rfl rfl (by omega) (by decide) (fun c4 => ?_) (fun c4 => ?_)
    · refine h_run 2 (pc' := 29) (l' := [(0, .inl s)]) (st' := [.inl 1]) rfl ?_
      refine h_retz (x := 1) rfl rfl (by decide) ?_
      exact ⟨by first | exact Or.inl ⟨rfl, by omega⟩ | exact Or.inr ⟨rfl, by omega⟩, rfl⟩
    · refine h_run 2 (pc' := 15) (l' := [(0, .inl s)]) (st' := [.inl 65, .inl s]) rfl ?_
      refine h_ilt (off := 13) (t := 28) rfl rfl (by omega) (by decide) (fun c5 => ?_) (fun c5 => ?_)
      · refine h_run 1 (pc' := 29) (l' := [(0, .inl s)]) (st' := [.inl 0]) rfl ?_
        refine h_retz (x := 0) rfl rfl (by decide) ?_
        exact ⟨by first | exact Or.inl ⟨rfl, by omega⟩ | exact Or.inr ⟨rfl, by omega⟩, rfl⟩
      · refine h_run 2 (pc' := 21) (l' := [(0, .inl s)]) (st' := [.inl 90, .inl s]) rfl ?_
        refine h_igt (off := 7) (t := 28) rfl rfl (by omega) (by decide) (fun c6 => ?_) (fun c6 => ?_)
        · refine h_run 1 (pc' := 29) (l' := [(0, .inl s)]) (st' := [.inl 0]) rfl ?_
          refine h_retz (x := 0) rfl rfl (by decide) ?_
          exact ⟨by first | exact Or.inl ⟨rfl, by omega⟩ | exact Or.inr ⟨rfl, by omega⟩, rfl⟩
        · refine h_run 2 (pc' := 29) (l' := [(0, .inl s)]) (st' := [.inl 1]) rfl ?_
          refine h_retz (x := 1) rfl rfl (by decide) ?_
          exact ⟨by first | exact Or.inl ⟨rfl, by omega⟩ | exact Or.inr ⟨rfl, by omega⟩, rfl⟩

/-! isDigit -/
set_option maxRecDepth 100000 in
theorem m_isDigit {zC : Nat → Option zsh} {d : Nat} (hd : 1 ≤ d) {H : hp} {s : Int} (hs : -2147483648 ≤ s ∧ s ≤ 2147483647) : hG (zs zC) d mt_163 0 (zargs 0 [.inl s]) [] H (fun r H2 => ((r = some (.inl 1) ∧ (48 ≤ s ∧ s ≤ 57)) ∨ (r = some (.inl 0) ∧ (s < 48 ∨ 57 < s))) ∧ H = H2) := by
  refine h_rng (fun hrg0 => ?_)
  refine h_run 0 (pc' := 0) (l' := [(0, .inl s)]) (st' := []) rfl ?_
  refine h_run 2 (pc' := 3) (l' := [(0, .inl s)]) (st' := [.inl 48, .inl s]) rfl ?_
  refine h_ilt (off := 13) (t := 16) rfl rfl (by omega) (by decide) (fun c1 => ?_) (fun c1 => ?_)
  · refine h_run 1 (pc' := 17) (l' := [(0, .inl s)]) (st' := [.inl 0]) rfl ?_
    refine h_retz (x := 0) rfl rfl (by decide) ?_
    exact ⟨by first | exact Or.inl ⟨rfl, by omega⟩ | exact Or.inr ⟨rfl, by omega⟩, rfl⟩
  · refine h_run 2 (pc' := 9) (l' := [(0, .inl s)]) (st' := [.inl 57, .inl s]) rfl ?_
    refine h_igt (off := 7) (t := 16) rfl rfl (by omega) (by decide) (fun c2 => ?_) (fun c2 => ?_)
    · refine h_run 1 (pc' := 17) (l' := [(0, .inl s)]) (st' := [.inl 0]) rfl ?_
      refine h_retz (x := 0) rfl rfl (by decide) ?_
      exact ⟨by first | exact Or.inl ⟨rfl, by omega⟩ | exact Or.inr ⟨rfl, by omega⟩, rfl⟩
    · refine h_run 2 (pc' := 17) (l' := [(0, .inl s)]) (st' := [.inl 1]) rfl ?_
      refine h_retz (x := 1) rfl rfl (by decide) ?_
      exact ⟨by first | exact Or.inl ⟨rfl, by omega⟩ | exact Or.inr ⟨rfl, by omega⟩, rfl⟩

/-! good -/
set_option maxRecDepth 100000 in
theorem m_good {zC : Nat → Option zsh} {d : Nat} (hd : 1 ≤ d) {H : hp}   : hG (zs zC) d mt_158 0 (zargs 0 [.inr (.inr 1826)]) [] H (fun r H2 => ((r = some (.inl 1) ∧ (H.1 1826 35) = 0) ∨ (r = some (.inl 0) ∧ (H.1 1826 35) ≠ 0)) ∧ H = H2) := by
  refine h_rng (fun hrg0 => ?_)
  refine h_run 0 (pc' := 0) (l' := [(0, .inr (.inr 1826))]) (st' := []) rfl ?_
  refine h_run 2 (pc' := 4) (l' := [(0, .inr (.inr 1826))]) (st' := [.inl (H.1 1826 35)]) rfl ?_
  have g1 : -2147483648 ≤ (H.1 1826 35) ∧ (H.1 1826 35) ≤ 2147483647 := hrg0.1 1826 13 35 _ .int rfl rfl
  refine h_zne (off := 7) (t := 11) rfl rfl (by omega) (fun c2 => ?_) (fun c2 => ?_)
  · refine h_run 1 (pc' := 12) (l' := [(0, .inr (.inr 1826))]) (st' := [.inl 0]) rfl ?_
    refine h_retz (x := 0) rfl rfl (by decide) ?_
    exact ⟨by first | exact Or.inl ⟨rfl, by omega⟩ | exact Or.inr ⟨rfl, by omega⟩, rfl⟩
  · refine h_run 2 (pc' := 12) (l' := [(0, .inr (.inr 1826))]) (st' := [.inl 1]) rfl ?_
    refine h_retz (x := 1) rfl rfl (by decide) ?_
    exact ⟨by first | exact Or.inl ⟨rfl, by omega⟩ | exact Or.inr ⟨rfl, by omega⟩, rfl⟩

theorem m_good1 {zC : Nat → Option zsh} {d : Nat} (hd : 1 ≤ d) {H : hp} (h : (H.1 1826 35) = 0) : hG (zs zC) d mt_158 0 (zargs 0 [.inr (.inr 1826)]) [] H (fun r H2 => r = some (.inl 1) ∧ H = H2) := by
  refine h_mono (m_good hd) ?_
  rintro r H2 ⟨⟨h1, -⟩ | ⟨-, h2⟩, h3⟩
  · exact ⟨h1, h3⟩
  · exact absurd h h2
theorem m_good0 {zC : Nat → Option zsh} {d : Nat} (hd : 1 ≤ d) {H : hp} (h : (H.1 1826 35) ≠ 0) : hG (zs zC) d mt_158 0 (zargs 0 [.inr (.inr 1826)]) [] H (fun r H2 => r = some (.inl 0) ∧ H = H2) := by
  refine h_mono (m_good hd) ?_
  rintro r H2 ⟨⟨-, h1⟩ | ⟨h2, -⟩, h3⟩
  · exact absurd h1 h
  · exact ⟨h2, h3⟩

/-! badAt -/
set_option maxRecDepth 100000 in
theorem m_badAt0 {zC : Nat → Option zsh} {d : Nat} (hd : 1 ≤ d) {H : hp} {k p : Int} (hk : 1 ≤ k ∧ k ≤ 5) (hp : -2147483648 ≤ p ∧ p ≤ 2147483647) (hw : (H.1 1826 35) = 0) : hG (zs zC) d mt_160 0 (zargs 0 [.inr (.inr 1826), .inl k, .inl p]) [] H (fun r H2 => r = none ∧ H2 = zu (zu H 1826 (up (H.1 1826) 35 k)) 1826 (up ((zu H 1826 (up (H.1 1826) 35 k)).1 1826) 36 p)) := by
  refine h_rng (fun hrg0 => ?_)
  refine h_run 0 (pc' := 0) (l' := [(0, .inr (.inr 1826)), (1, .inl k), (2, .inl p)]) (st' := []) rfl ?_
  refine h_run 2 (pc' := 4) (l' := [(0, .inr (.inr 1826)), (1, .inl k), (2, .inl p)]) (st' := [.inl (H.1 1826 35)]) rfl ?_
  have g1 : -2147483648 ≤ (H.1 1826 35) ∧ (H.1 1826 35) ≤ 2147483647 := hrg0.1 1826 13 35 _ .int rfl rfl
  refine h_zne (off := 13) (t := 17) rfl rfl (by omega) (fun c2 => ?_) (fun c2 => ?_)
  · exfalso
    omega
  · refine h_run 2 (pc' := 9) (l' := [(0, .inr (.inr 1826)), (1, .inl k), (2, .inl p)]) (st' := [.inl k, .inr (.inr 1826)]) rfl ?_
    refine h_puti (i := 248) (ci := 13) (k := 35) (a := 1826) (x := k) rfl rfl rfl rfl rfl rfl (by decide) (by omega) ?_
    refine h_run 2 (pc' := 14) (l' := [(0, .inr (.inr 1826)), (1, .inl k), (2, .inl p)]) (st' := [.inl p, .inr (.inr 1826)]) rfl ?_
    refine h_puti (i := 258) (ci := 13) (k := 36) (a := 1826) (x := p) rfl rfl rfl rfl rfl rfl (by decide) (by omega) ?_
    refine h_ret rfl rfl ?_
    exact ⟨rfl, rfl⟩

/-! badAt -/
set_option maxRecDepth 100000 in
theorem m_badAt1 {zC : Nat → Option zsh} {d : Nat} (hd : 1 ≤ d) {H : hp} {k p : Int} (hk : 1 ≤ k ∧ k ≤ 5) (hp : -2147483648 ≤ p ∧ p ≤ 2147483647) (hw : (H.1 1826 35) ≠ 0) : hG (zs zC) d mt_160 0 (zargs 0 [.inr (.inr 1826), .inl k, .inl p]) [] H (fun r H2 => r = none ∧ H = H2) := by
  refine h_rng (fun hrg0 => ?_)
  refine h_run 0 (pc' := 0) (l' := [(0, .inr (.inr 1826)), (1, .inl k), (2, .inl p)]) (st' := []) rfl ?_
  refine h_run 2 (pc' := 4) (l' := [(0, .inr (.inr 1826)), (1, .inl k), (2, .inl p)]) (st' := [.inl (H.1 1826 35)]) rfl ?_
  have g1 : -2147483648 ≤ (H.1 1826 35) ∧ (H.1 1826 35) ≤ 2147483647 := hrg0.1 1826 13 35 _ .int rfl rfl
  refine h_zne (off := 13) (t := 17) rfl rfl (by omega) (fun c2 => ?_) (fun c2 => ?_)
  · refine h_ret rfl rfl ?_
    exact ⟨rfl, rfl⟩
  · exfalso
    omega

/-! bad -/
set_option maxRecDepth 100000 in
theorem m_bad0 {zC : Nat → Option zsh} {d : Nat} (hd : 2 ≤ d) {H : hp} {k : Int} (hk : 1 ≤ k ∧ k ≤ 5) (hw : (H.1 1826 35) = 0) : hG (zs zC) d mt_159 0 (zargs 0 [.inr (.inr 1826), .inl k]) [] H (fun r H2 => r = none ∧ H2 = zu (zu H 1826 (up (H.1 1826) 35 k)) 1826 (up ((zu H 1826 (up (H.1 1826) 35 k)).1 1826) 36 (H.1 1826 32))) := by
  refine h_rng (fun hrg0 => ?_)
  refine h_run 0 (pc' := 0) (l' := [(0, .inr (.inr 1826)), (1, .inl k)]) (st' := []) rfl ?_
  refine h_run 4 (pc' := 6) (l' := [(0, .inr (.inr 1826)), (1, .inl k)]) (st' := [.inl (H.1 1826 32), .inl k, .inr (.inr 1826)]) rfl ?_
  have g1 : -2147483648 ≤ (H.1 1826 32) ∧ (H.1 1826 32) ≤ 2147483647 := hrg0.1 1826 13 32 _ .int rfl rfl
  have g2 : -2147483648 ≤ (H.1 1826 35) ∧ (H.1 1826 35) ≤ 2147483647 := hrg0.1 1826 13 35 _ .int rfl rfl
  refine h_cv (i := 254) (j := 160) (b := 1826) (M' := mt_160) (xs := [.inl (H.1 1826 32), .inl k]) (rest := []) rfl rfl rfl rfl rfl rfl (Nat.le_of_ble_eq_true rfl) (Nat.le_of_ble_eq_true rfl) (by omega) (m_badAt0 (by omega) (by omega) (by omega) (by omega : (H.1 1826 35) = 0)) ?_
  rintro _ _ ⟨rfl, rfl⟩
  refine h_run 0 (pc' := 9) (l' := [(0, .inr (.inr 1826)), (1, .inl k)]) (st' := []) rfl ?_
  refine h_ret rfl rfl ?_
  exact ⟨rfl, rfl⟩

/-! bad -/
set_option maxRecDepth 100000 in
theorem m_bad1 {zC : Nat → Option zsh} {d : Nat} (hd : 2 ≤ d) {H : hp} {k : Int} (hk : 1 ≤ k ∧ k ≤ 5) (hw : (H.1 1826 35) ≠ 0) : hG (zs zC) d mt_159 0 (zargs 0 [.inr (.inr 1826), .inl k]) [] H (fun r H2 => r = none ∧ H = H2) := by
  refine h_rng (fun hrg0 => ?_)
  refine h_run 0 (pc' := 0) (l' := [(0, .inr (.inr 1826)), (1, .inl k)]) (st' := []) rfl ?_
  refine h_run 4 (pc' := 6) (l' := [(0, .inr (.inr 1826)), (1, .inl k)]) (st' := [.inl (H.1 1826 32), .inl k, .inr (.inr 1826)]) rfl ?_
  have g1 : -2147483648 ≤ (H.1 1826 32) ∧ (H.1 1826 32) ≤ 2147483647 := hrg0.1 1826 13 32 _ .int rfl rfl
  have g2 : -2147483648 ≤ (H.1 1826 35) ∧ (H.1 1826 35) ≤ 2147483647 := hrg0.1 1826 13 35 _ .int rfl rfl
  refine h_cv (i := 254) (j := 160) (b := 1826) (M' := mt_160) (xs := [.inl (H.1 1826 32), .inl k]) (rest := []) rfl rfl rfl rfl rfl rfl (Nat.le_of_ble_eq_true rfl) (Nat.le_of_ble_eq_true rfl) (by omega) (m_badAt1 (by omega) (by omega) (by omega) (by omega : (H.1 1826 35) ≠ 0)) ?_
  rintro _ _ ⟨rfl, rfl⟩
  refine h_run 0 (pc' := 9) (l' := [(0, .inr (.inr 1826)), (1, .inl k)]) (st' := []) rfl ?_
  refine h_ret rfl rfl ?_
  exact ⟨rfl, rfl⟩

/-- the byte that is looked at -/
def lk (H : hp) : Int := if (H.1 1826 30) < (H.1 1826 29) then z_and ((H.1 1848) ((H.1 1826 30)).toNat) 255 else -1
theorem lk_rng (H : hp) : -1 ≤ lk H ∧ lk H ≤ 255 := by
  unfold lk
  split
  · have := z_and_255 ((H.1 1848) ((H.1 1826 30)).toNat)
    omega
  · omega
theorem lk_in (H : hp) : lk H = -1 ∨ (H.1 1826 30) < (H.1 1826 29) := by
  unfold lk
  split
  · rename_i h
    exact Or.inr h
  · exact Or.inl rfl

/-! look -/
set_option maxRecDepth 100000 in
theorem m_look {zC : Nat → Option zsh} {d : Nat} (hd : 1 ≤ d) {H : hp}  (h0 : 0 ≤ (H.1 1826 30) ∧ (H.1 1826 29) ≤ 1000) : hG (zs zC) d mt_161 0 (zargs 0 [.inr (.inr 1826)]) [] H (fun r H2 => r = some (.inl (lk H)) ∧ H = H2) := by
  refine h_rng (fun hrg0 => ?_)
  refine h_run 0 (pc' := 0) (l' := [(0, .inr (.inr 1826))]) (st' := []) rfl ?_
  refine h_run 2 (pc' := 4) (l' := [(0, .inr (.inr 1826))]) (st' := [.inl (H.1 1826 30)]) rfl ?_
  have g1 : -2147483648 ≤ (H.1 1826 30) ∧ (H.1 1826 30) ≤ 2147483647 := hrg0.1 1826 13 30 _ .int rfl rfl
  refine h_run 2 (pc' := 8) (l' := [(0, .inr (.inr 1826))]) (st' := [.inl (H.1 1826 29), .inl (H.1 1826 30)]) rfl ?_
  have g2 : -2147483648 ≤ (H.1 1826 29) ∧ (H.1 1826 29) ≤ 2147483647 := hrg0.1 1826 13 29 _ .int rfl rfl
  refine h_ige (off := 19) (t := 27) rfl rfl (by omega) (by omega) (fun c3 => ?_) (fun c3 => ?_)
  · refine h_run 1 (pc' := 28) (l' := [(0, .inr (.inr 1826))]) (st' := [.inl (-1)]) rfl ?_
    refine h_reti (x := (-1)) rfl rfl ?_
    exact ⟨congrArg (fun z => some (Sum.inl z)) (by first | exact (if_pos (by omega)).symm | exact (if_neg (by omega)).symm), rfl⟩
  · refine h_run 4 (pc' := 19) (l' := [(0, .inr (.inr 1826))]) (st' := [.inl (H.1 1826 30), .inr (.inr 1848)]) rfl ?_
    refine h_bld (c := 1848) (j := ((H.1 1826 30)).toNat) (i := (H.1 1826 30)) (Or.inl rfl) rfl rfl (by decide) (by omega) (by omega) ?_
    have g4 : -128 ≤ (H.1 1848 ((H.1 1826 30)).toNat) ∧ (H.1 1848 ((H.1 1826 30)).toNat) ≤ 127 := hrg0.2 1848 ((H.1 1826 30)).toNat 1000 .byte rfl (by omega)
    refine h_run 0 (pc' := 20) (l' := [(0, .inr (.inr 1826))]) (st' := [.inl (H.1 1848 ((H.1 1826 30)).toNat)]) rfl ?_
    refine h_run 3 (pc' := 28) (l' := [(0, .inr (.inr 1826))]) (st' := [.inl (z_and (H.1 1848 ((H.1 1826 30)).toNat) 255)]) rfl ?_
    refine h_reti (x := (z_and (H.1 1848 ((H.1 1826 30)).toNat) 255)) rfl rfl ?_
    exact ⟨congrArg (fun z => some (Sum.inl z)) (by first | exact (if_pos (by omega)).symm | exact (if_neg (by omega)).symm), rfl⟩

/-! word -/
set_option maxRecDepth 100000 in
theorem m_word {zC : Nat → Option zsh} {d : Nat} (hd : 1 ≤ d) {H : hp} {x y z u : Int} (hu : -2147483648 ≤ u ∧ u ≤ 2147483647) : hG (zs zC) d mt_164 0 (zargs 0 [.inl x, .inl y, .inl z, .inl u]) [] H (fun r H2 => (∃ v : Int, r = some (.inr (.inl v))) ∧ H = H2) := by
  refine h_rng (fun hrg0 => ?_)
  refine h_run 0 (pc' := 0) (l' := [(0, .inl x), (1, .inl y), (2, .inl z), (3, .inl u)]) (st' := []) rfl ?_
  refine h_run 14 (pc' := 17) (l' := [(0, .inl x), (1, .inl y), (2, .inl z), (3, .inl u), (4, .inr (.inl (z_lor (z_lor (z_lshl (z_i2l x) 16) (z_i2l (z_shl y 8))) (z_i2l z))))]) (st' := [.inl u]) rfl ?_
  refine h_zne (off := 8) (t := 25) rfl rfl (by omega) (fun c1 => ?_) (fun c1 => ?_)
  · refine h_run 6 (pc' := 33) (l' := [(0, .inl x), (1, .inl y), (2, .inl z), (3, .inl u), (4, .inr (.inl (z_lor (z_lor (z_lshl (z_i2l x) 16) (z_i2l (z_shl y 8))) (z_i2l z))))]) (st' := [.inr (.inl (z_lor (z_lshl (z_lor (z_lor (z_lshl (z_i2l x) 16) (z_i2l (z_shl y 8))) (z_i2l z)) 8) (z_i2l u)))]) rfl ?_
    refine h_retl (x := (z_lor (z_lshl (z_lor (z_lor (z_lshl (z_i2l x) 16) (z_i2l (z_shl y 8))) (z_i2l z)) 8) (z_i2l u))) rfl rfl ?_
    exact ⟨⟨_, rfl⟩, rfl⟩
  · refine h_run 2 (pc' := 33) (l' := [(0, .inl x), (1, .inl y), (2, .inl z), (3, .inl u), (4, .inr (.inl (z_lor (z_lor (z_lshl (z_i2l x) 16) (z_i2l (z_shl y 8))) (z_i2l z))))]) (st' := [.inr (.inl (z_lor (z_lor (z_lshl (z_i2l x) 16) (z_i2l (z_shl y 8))) (z_i2l z)))]) rfl ?_
    refine h_retl (x := (z_lor (z_lor (z_lshl (z_i2l x) 16) (z_i2l (z_shl y 8))) (z_i2l z))) rfl rfl ?_
    exact ⟨⟨_, rfl⟩, rfl⟩

/-! next -/
set_option maxRecDepth 100000 in
theorem m_next_cut {zC : Nat → Option zsh} {d : Nat} (hd : 3 ≤ d) {H : hp}  (h0 : 0 ≤ (H.1 1826 30) ∧ (H.1 1826 30) ≤ (H.1 1826 29) ∧ (H.1 1826 29) ≤ 1000) (hw : 0 ≤ (H.1 1826 35) ∧ (H.1 1826 35) ≤ 5) (hst : 0 ≤ (H.1 1826 32) ∧ (H.1 1826 32) ≤ 1000) : ∀ w : Nat, (∀ (H1 : hp), (fr [30, 31, 32, 33, 35, 36] [] H H1) → ((H.1 1826 30) ≤ (H1.1 1826 30) ∧ (H1.1 1826 30) ≤ (H.1 1826 29)) → ((H1.1 1826 35) = (H.1 1826 35)) → 2 * ((H.1 1826 29) - (H1.1 1826 30)).toNat + 1 < w → hG (zs zC) d mt_165 0 [(0, .inr (.inr 1826))] [] H1 (fun r H2 => r = none ∧ fr [30, 31, 32, 33, 35, 36] [] H H2 ∧ (H.1 1826 30) ≤ (H2.1 1826 30) ∧ (H2.1 1826 30) ≤ (H.1 1826 29) ∧ (0 ≤ (H2.1 1826 35) ∧ (H2.1 1826 35) ≤ 5) ∧ ((H.1 1826 35) ≠ 0 → (H2.1 1826 35) = (H.1 1826 35)) ∧ (0 ≤ (H2.1 1826 32) ∧ (H2.1 1826 32) ≤ 1000) ∧ ((H2.1 1826 35) = 0 → ((H2.1 1826 31) = 0 ∨ (H.1 1826 30) < (H2.1 1826 30))))) ∧ (∀ (H1 : hp) (c : Int), (fr [30, 31, 32, 33, 35, 36] [] H H1) → ((H.1 1826 30) ≤ (H1.1 1826 30) ∧ (H1.1 1826 30) ≤ (H.1 1826 29)) → ((H1.1 1826 35) = (H.1 1826 35)) → ((H.1 1826 30) ≤ (H1.1 1826 32) ∧ (H1.1 1826 32) ≤ (H1.1 1826 30)) → ((97 ≤ c ∧ c ≤ 122) ∨ (65 ≤ c ∧ c ≤ 90)) → ((H1.1 1826 32) < (H1.1 1826 30) ∨ lk H1 = c) → 2 * ((H.1 1826 29) - (H1.1 1826 30)).toNat < w → hG (zs zC) d mt_165 146 [(0, .inr (.inr 1826)), (1, .inl c)] [] H1 (fun r H2 => r = none ∧ fr [30, 31, 32, 33, 35, 36] [] H H2 ∧ (H.1 1826 30) ≤ (H2.1 1826 30) ∧ (H2.1 1826 30) ≤ (H.1 1826 29) ∧ (0 ≤ (H2.1 1826 35) ∧ (H2.1 1826 35) ≤ 5) ∧ ((H.1 1826 35) ≠ 0 → (H2.1 1826 35) = (H.1 1826 35)) ∧ (0 ≤ (H2.1 1826 32) ∧ (H2.1 1826 32) ≤ 1000) ∧ ((H2.1 1826 35) = 0 → ((H2.1 1826 31) = 0 ∨ (H.1 1826 30) < (H2.1 1826 30))))) := by
  intro w
  induction w with
  | zero => exact ⟨fun _ _ _ _ h => absurd h (Nat.not_lt_zero _), fun _ _ _ _ _ _ _ _ h => absurd h (Nat.not_lt_zero _)⟩
  | succ w ih =>
    refine ⟨?_, ?_⟩
    · intro H1 hf ha hk hw
      refine h_rng (fun hrg1 => ?_)
      refine h_run 1 (pc' := 1) (l' := [(0, .inr (.inr 1826))]) (st' := [.inr (.inr 1826)]) rfl ?_
      have g2 : -2147483648 ≤ (H1.1 1826 30) ∧ (H1.1 1826 30) ≤ 2147483647 := hrg1.1 1826 13 30 _ .int rfl rfl
      have g3 : -2147483648 ≤ (H1.1 1826 29) ∧ (H1.1 1826 29) ≤ 2147483647 := hrg1.1 1826 13 29 _ .int rfl rfl
      have e4 : (H1.1 1826 29) = (H.1 1826 29) := hf.2.2 29 (by decide)
      refine h_cv (i := 267) (j := 161) (b := 1826) (M' := mt_161) (xs := []) (rest := []) rfl rfl rfl rfl rfl rfl (Nat.le_of_ble_eq_true rfl) (Nat.le_of_ble_eq_true rfl) (by omega) (m_look (by omega) (by omega : 0 ≤ (H1.1 1826 30) ∧ (H1.1 1826 29) ≤ 1000)) ?_
      rintro _ _ ⟨rfl, rfl⟩
      have l5 := lk_rng H1
      have l5x : lk H1 = -1 ∨ (H1.1 1826 30) < (H1.1 1826 29) := lk_in H1
      refine h_run 0 (pc' := 4) (l' := [(0, .inr (.inr 1826))]) (st' := [.inl (lk H1)]) rfl ?_
      refine h_run 1 (pc' := 6) (l' := [(0, .inr (.inr 1826))]) (st' := [.inl 32, .inl (lk H1)]) rfl ?_
      refine h_ieq (off := 12) (t := 18) rfl rfl (by omega) (by decide) (fun c6 => ?_) (fun c6 => ?_)
      · refine h_run 3 (pc' := 23) (l' := [(0, .inr (.inr 1826))]) (st' := [.inl (H1.1 1826 30), .inr (.inr 1826)]) rfl ?_
        refine h_run 2 (pc' := 25) (l' := [(0, .inr (.inr 1826))]) (st' := [.inl ((H1.1 1826 30) + 1), .inr (.inr 1826)]) rfl ?_
        refine h_puti (i := 261) (ci := 13) (k := 30) (a := 1826) (x := ((H1.1 1826 30) + 1)) rfl rfl rfl rfl rfl rfl (by decide) (by omega) ?_
        refine h_run 1 (pc' := 0) (l' := [(0, .inr (.inr 1826))]) (st' := []) rfl ?_
        exact ih.1 _ (fr_o hf (by decide)) (by omega : (H.1 1826 30) ≤ ((H1.1 1826 30) + 1) ∧ ((H1.1 1826 30) + 1) ≤ (H.1 1826 29)) (by omega : (H1.1 1826 35) = (H.1 1826 35)) (by omega : 2 * ((H.1 1826 29) - ((H1.1 1826 30) + 1)).toNat + 1 < w)
      · refine h_run 1 (pc' := 10) (l' := [(0, .inr (.inr 1826))]) (st' := [.inr (.inr 1826)]) rfl ?_
        refine h_cv (i := 267) (j := 161) (b := 1826) (M' := mt_161) (xs := []) (rest := []) rfl rfl rfl rfl rfl rfl (Nat.le_of_ble_eq_true rfl) (Nat.le_of_ble_eq_true rfl) (by omega) (m_look (by omega) (by omega : 0 ≤ (H1.1 1826 30) ∧ (H1.1 1826 29) ≤ 1000)) ?_
        rintro _ _ ⟨rfl, rfl⟩
        refine h_run 0 (pc' := 13) (l' := [(0, .inr (.inr 1826))]) (st' := [.inl (lk H1)]) rfl ?_
        refine h_run 1 (pc' := 15) (l' := [(0, .inr (.inr 1826))]) (st' := [.inl 10, .inl (lk H1)]) rfl ?_
        refine h_ine (off := 16) (t := 31) rfl rfl (by omega) (by decide) (fun c8 => ?_) (fun c8 => ?_)
        · refine h_run 3 (pc' := 36) (l' := [(0, .inr (.inr 1826))]) (st' := [.inl (H1.1 1826 30), .inr (.inr 1826)]) rfl ?_
          refine h_puti (i := 251) (ci := 13) (k := 32) (a := 1826) (x := (H1.1 1826 30)) rfl rfl rfl rfl rfl rfl (by decide) (by omega) ?_
          refine h_run 1 (pc' := 40) (l' := [(0, .inr (.inr 1826))]) (st' := [.inr (.inr 1826)]) rfl ?_
          refine h_cv (i := 267) (j := 161) (b := 1826) (M' := mt_161) (xs := []) (rest := []) rfl rfl rfl rfl rfl rfl (Nat.le_of_ble_eq_true rfl) (Nat.le_of_ble_eq_true rfl) (by omega) (m_look (by omega) (by omega : 0 ≤ (H1.1 1826 30) ∧ (H1.1 1826 29) ≤ 1000)) ?_
          rintro _ _ ⟨rfl, rfl⟩
          have l9 := lk_rng (zu H1 1826 (up (H1.1 1826) 32 (H1.1 1826 30)))
          have l9x : lk (zu H1 1826 (up (H1.1 1826) 32 (H1.1 1826 30))) = -1 ∨ (H1.1 1826 30) < (H1.1 1826 29) := lk_in (zu H1 1826 (up (H1.1 1826) 32 (H1.1 1826 30)))
          refine h_run 0 (pc' := 43) (l' := [(0, .inr (.inr 1826))]) (st' := [.inl (lk (zu H1 1826 (up (H1.1 1826) 32 (H1.1 1826 30))))]) rfl ?_
          refine h_run 3 (pc' := 46) (l' := [(0, .inr (.inr 1826)), (1, .inl (lk (zu H1 1826 (up (H1.1 1826) 32 (H1.1 1826 30)))))]) (st' := [.inl (-1), .inl (lk (zu H1 1826 (up (H1.1 1826) 32 (H1.1 1826 30))))]) rfl ?_
          refine h_ine (off := 9) (t := 55) rfl rfl (by omega) (by decide) (fun c10 => ?_) (fun c10 => ?_)
          · refine h_run 1 (pc' := 56) (l' := [(0, .inr (.inr 1826)), (1, .inl (lk (zu H1 1826 (up (H1.1 1826) 32 (H1.1 1826 30)))))]) (st' := [.inl (lk (zu H1 1826 (up (H1.1 1826) 32 (H1.1 1826 30))))]) rfl ?_
            refine h_cs (i := 274) (j := 162) (M' := mt_162) (xs := [.inl (lk (zu H1 1826 (up (H1.1 1826) 32 (H1.1 1826 30))))]) (rest := []) rfl rfl rfl rfl rfl (Nat.le_of_ble_eq_true rfl) (Nat.le_of_ble_eq_true rfl) (by omega) (m_isLetter (by omega) (by omega)) ?_
            rintro _ _ ⟨⟨rfl, b11⟩ | ⟨rfl, b11⟩, rfl⟩
            · refine h_run 0 (pc' := 59) (l' := [(0, .inr (.inr 1826)), (1, .inl (lk (zu H1 1826 (up (H1.1 1826) 32 (H1.1 1826 30)))))]) (st' := [.inl 1]) rfl ?_
              refine h_zne (off := 82) (t := 141) rfl rfl (by decide) (fun _ => ?_) (fun c => absurd c (by decide))
              refine h_run 2 (pc' := 143) (l' := [(0, .inr (.inr 1826)), (1, .inl (lk (zu H1 1826 (up (H1.1 1826) 32 (H1.1 1826 30)))))]) (st' := [.inr (.inl 0), .inr (.inr 1826)]) rfl ?_
              refine h_putl (i := 282) (ci := 13) (k := 33) (a := 1826) (x := 0) rfl rfl rfl rfl rfl rfl (by decide) (by decide) ?_
              exact ih.2 _ (lk (zu H1 1826 (up (H1.1 1826) 32 (H1.1 1826 30)))) (fr_o (fr_o hf (by decide)) (by decide)) (by omega : (H.1 1826 30) ≤ (H1.1 1826 30) ∧ (H1.1 1826 30) ≤ (H.1 1826 29)) (by omega : (H1.1 1826 35) = (H.1 1826 35)) (by omega : (H.1 1826 30) ≤ (H1.1 1826 30) ∧ (H1.1 1826 30) ≤ (H1.1 1826 30)) (by omega) (Or.inr rfl) (by omega : 2 * ((H.1 1826 29) - (H1.1 1826 30)).toNat < w)
            · refine h_run 0 (pc' := 59) (l' := [(0, .inr (.inr 1826)), (1, .inl (lk (zu H1 1826 (up (H1.1 1826) 32 (H1.1 1826 30)))))]) (st' := [.inl 0]) rfl ?_
              refine h_zne (off := 82) (t := 141) rfl rfl (by decide) (fun c => absurd c (by decide)) (fun _ => ?_)
              refine h_run 2 (pc' := 65) (l' := [(0, .inr (.inr 1826)), (1, .inl (lk (zu H1 1826 (up (H1.1 1826) 32 (H1.1 1826 30)))))]) (st' := [.inl 61, .inl (lk (zu H1 1826 (up (H1.1 1826) 32 (H1.1 1826 30))))]) rfl ?_
              refine h_ieq (off := 45) (t := 110) rfl rfl (by omega) (by decide) (fun c12 => ?_) (fun c12 => ?_)
              · refine h_run 4 (pc' := 117) (l' := [(0, .inr (.inr 1826)), (1, .inl (lk (zu H1 1826 (up (H1.1 1826) 32 (H1.1 1826 30))))), (2, .inl 1)]) (st' := [.inl 1]) rfl ?_
                refine h_zne (off := 8) (t := 125) rfl rfl (by decide) (fun _ => ?_) (fun c => absurd c (by decide))
                refine h_run 2 (pc' := 127) (l' := [(0, .inr (.inr 1826)), (1, .inl (lk (zu H1 1826 (up (H1.1 1826) 32 (H1.1 1826 30))))), (2, .inl 1)]) (st' := [.inl (lk (zu H1 1826 (up (H1.1 1826) 32 (H1.1 1826 30)))), .inr (.inr 1826)]) rfl ?_
                refine h_puti (i := 271) (ci := 13) (k := 31) (a := 1826) (x := (lk (zu H1 1826 (up (H1.1 1826) 32 (H1.1 1826 30))))) rfl rfl rfl rfl rfl rfl (by decide) (by omega) ?_
                refine h_run 3 (pc' := 135) (l' := [(0, .inr (.inr 1826)), (1, .inl (lk (zu H1 1826 (up (H1.1 1826) 32 (H1.1 1826 30))))), (2, .inl 1)]) (st' := [.inl (H1.1 1826 30), .inr (.inr 1826)]) rfl ?_
                refine h_run 2 (pc' := 137) (l' := [(0, .inr (.inr 1826)), (1, .inl (lk (zu H1 1826 (up (H1.1 1826) 32 (H1.1 1826 30))))), (2, .inl 1)]) (st' := [.inl ((H1.1 1826 30) + 1), .inr (.inr 1826)]) rfl ?_
                refine h_puti (i := 261) (ci := 13) (k := 30) (a := 1826) (x := ((H1.1 1826 30) + 1)) rfl rfl rfl rfl rfl rfl (by decide) (by omega) ?_
                refine h_ret rfl rfl ?_
                have g13 : -2147483648 ≤ (H1.1 1826 35) ∧ (H1.1 1826 35) ≤ 2147483647 := hrg1.1 1826 13 35 _ .int rfl rfl
                exact ⟨rfl, (fr_o (fr_o (fr_o hf (by decide)) (by decide)) (by decide)), (by omega : (H.1 1826 30) ≤ ((H1.1 1826 30) + 1)), (by omega : ((H1.1 1826 30) + 1) ≤ (H.1 1826 29)), (by omega : 0 ≤ (H1.1 1826 35) ∧ (H1.1 1826 35) ≤ 5), (by omega : (H.1 1826 35) ≠ 0 → (H1.1 1826 35) = (H.1 1826 35)), (by omega : 0 ≤ (H1.1 1826 30) ∧ (H1.1 1826 30) ≤ 1000), (by omega : (H1.1 1826 35) = 0 → ((lk (zu H1 1826 (up (H1.1 1826) 32 (H1.1 1826 30)))) = 0 ∨ (H.1 1826 30) < ((H1.1 1826 30) + 1)))⟩
              · refine h_run 2 (pc' := 71) (l' := [(0, .inr (.inr 1826)), (1, .inl (lk (zu H1 1826 (up (H1.1 1826) 32 (H1.1 1826 30)))))]) (st' := [.inl 124, .inl (lk (zu H1 1826 (up (H1.1 1826) 32 (H1.1 1826 30))))]) rfl ?_
                refine h_ieq (off := 39) (t := 110) rfl rfl (by omega) (by decide) (fun c14 => ?_) (fun c14 => ?_)
                · refine h_run 4 (pc' := 117) (l' := [(0, .inr (.inr 1826)), (1, .inl (lk (zu H1 1826 (up (H1.1 1826) 32 (H1.1 1826 30))))), (2, .inl 1)]) (st' := [.inl 1]) rfl ?_
                  refine h_zne (off := 8) (t := 125) rfl rfl (by decide) (fun _ => ?_) (fun c => absurd c (by decide))
                  refine h_run 2 (pc' := 127) (l' := [(0, .inr (.inr 1826)), (1, .inl (lk (zu H1 1826 (up (H1.1 1826) 32 (H1.1 1826 30))))), (2, .inl 1)]) (st' := [.inl (lk (zu H1 1826 (up (H1.1 1826) 32 (H1.1 1826 30)))), .inr (.inr 1826)]) rfl ?_
                  refine h_puti (i := 271) (ci := 13) (k := 31) (a := 1826) (x := (lk (zu H1 1826 (up (H1.1 1826) 32 (H1.1 1826 30))))) rfl rfl rfl rfl rfl rfl (by decide) (by omega) ?_
                  refine h_run 3 (pc' := 135) (l' := [(0, .inr (.inr 1826)), (1, .inl (lk (zu H1 1826 (up (H1.1 1826) 32 (H1.1 1826 30))))), (2, .inl 1)]) (st' := [.inl (H1.1 1826 30), .inr (.inr 1826)]) rfl ?_
                  refine h_run 2 (pc' := 137) (l' := [(0, .inr (.inr 1826)), (1, .inl (lk (zu H1 1826 (up (H1.1 1826) 32 (H1.1 1826 30))))), (2, .inl 1)]) (st' := [.inl ((H1.1 1826 30) + 1), .inr (.inr 1826)]) rfl ?_
                  refine h_puti (i := 261) (ci := 13) (k := 30) (a := 1826) (x := ((H1.1 1826 30) + 1)) rfl rfl rfl rfl rfl rfl (by decide) (by omega) ?_
                  refine h_ret rfl rfl ?_
                  have g15 : -2147483648 ≤ (H1.1 1826 35) ∧ (H1.1 1826 35) ≤ 2147483647 := hrg1.1 1826 13 35 _ .int rfl rfl
                  exact ⟨rfl, (fr_o (fr_o (fr_o hf (by decide)) (by decide)) (by decide)), (by omega : (H.1 1826 30) ≤ ((H1.1 1826 30) + 1)), (by omega : ((H1.1 1826 30) + 1) ≤ (H.1 1826 29)), (by omega : 0 ≤ (H1.1 1826 35) ∧ (H1.1 1826 35) ≤ 5), (by omega : (H.1 1826 35) ≠ 0 → (H1.1 1826 35) = (H.1 1826 35)), (by omega : 0 ≤ (H1.1 1826 30) ∧ (H1.1 1826 30) ≤ 1000), (by omega : (H1.1 1826 35) = 0 → ((lk (zu H1 1826 (up (H1.1 1826) 32 (H1.1 1826 30)))) = 0 ∨ (H.1 1826 30) < ((H1.1 1826 30) + 1)))⟩
                · refine h_run 2 (pc' := 77) (l' := [(0, .inr (.inr 1826)), (1, .inl (lk (zu H1 1826 (up (H1.1 1826) 32 (H1.1 1826 30)))))]) (st' := [.inl 58, .inl (lk (zu H1 1826 (up (H1.1 1826) 32 (H1.1 1826 30))))]) rfl ?_
                  refine h_ieq (off := 33) (t := 110) rfl rfl (by omega) (by decide) (fun c16 => ?_) (fun c16 => ?_)
                  · refine h_run 4 (pc' := 117) (l' := [(0, .inr (.inr 1826)), (1, .inl (lk (zu H1 1826 (up (H1.1 1826) 32 (H1.1 1826 30))))), (2, .inl 1)]) (st' := [.inl 1]) rfl ?_
                    refine h_zne (off := 8) (t := 125) rfl rfl (by decide) (fun _ => ?_) (fun c => absurd c (by decide))
                    refine h_run 2 (pc' := 127) (l' := [(0, .inr (.inr 1826)), (1, .inl (lk (zu H1 1826 (up (H1.1 1826) 32 (H1.1 1826 30))))), (2, .inl 1)]) (st' := [.inl (lk (zu H1 1826 (up (H1.1 1826) 32 (H1.1 1826 30)))), .inr (.inr 1826)]) rfl ?_
                    refine h_puti (i := 271) (ci := 13) (k := 31) (a := 1826) (x := (lk (zu H1 1826 (up (H1.1 1826) 32 (H1.1 1826 30))))) rfl rfl rfl rfl rfl rfl (by decide) (by omega) ?_
                    refine h_run 3 (pc' := 135) (l' := [(0, .inr (.inr 1826)), (1, .inl (lk (zu H1 1826 (up (H1.1 1826) 32 (H1.1 1826 30))))), (2, .inl 1)]) (st' := [.inl (H1.1 1826 30), .inr (.inr 1826)]) rfl ?_
                    refine h_run 2 (pc' := 137) (l' := [(0, .inr (.inr 1826)), (1, .inl (lk (zu H1 1826 (up (H1.1 1826) 32 (H1.1 1826 30))))), (2, .inl 1)]) (st' := [.inl ((H1.1 1826 30) + 1), .inr (.inr 1826)]) rfl ?_
                    refine h_puti (i := 261) (ci := 13) (k := 30) (a := 1826) (x := ((H1.1 1826 30) + 1)) rfl rfl rfl rfl rfl rfl (by decide) (by omega) ?_
                    refine h_ret rfl rfl ?_
                    have g17 : -2147483648 ≤ (H1.1 1826 35) ∧ (H1.1 1826 35) ≤ 2147483647 := hrg1.1 1826 13 35 _ .int rfl rfl
                    exact ⟨rfl, (fr_o (fr_o (fr_o hf (by decide)) (by decide)) (by decide)), (by omega : (H.1 1826 30) ≤ ((H1.1 1826 30) + 1)), (by omega : ((H1.1 1826 30) + 1) ≤ (H.1 1826 29)), (by omega : 0 ≤ (H1.1 1826 35) ∧ (H1.1 1826 35) ≤ 5), (by omega : (H.1 1826 35) ≠ 0 → (H1.1 1826 35) = (H.1 1826 35)), (by omega : 0 ≤ (H1.1 1826 30) ∧ (H1.1 1826 30) ≤ 1000), (by omega : (H1.1 1826 35) = 0 → ((lk (zu H1 1826 (up (H1.1 1826) 32 (H1.1 1826 30)))) = 0 ∨ (H.1 1826 30) < ((H1.1 1826 30) + 1)))⟩
                  · refine h_run 2 (pc' := 83) (l' := [(0, .inr (.inr 1826)), (1, .inl (lk (zu H1 1826 (up (H1.1 1826) 32 (H1.1 1826 30)))))]) (st' := [.inl 59, .inl (lk (zu H1 1826 (up (H1.1 1826) 32 (H1.1 1826 30))))]) rfl ?_
                    refine h_ieq (off := 27) (t := 110) rfl rfl (by omega) (by decide) (fun c18 => ?_) (fun c18 => ?_)
                    · refine h_run 4 (pc' := 117) (l' := [(0, .inr (.inr 1826)), (1, .inl (lk (zu H1 1826 (up (H1.1 1826) 32 (H1.1 1826 30))))), (2, .inl 1)]) (st' := [.inl 1]) rfl ?_
                      refine h_zne (off := 8) (t := 125) rfl rfl (by decide) (fun _ => ?_) (fun c => absurd c (by decide))
                      refine h_run 2 (pc' := 127) (l' := [(0, .inr (.inr 1826)), (1, .inl (lk (zu H1 1826 (up (H1.1 1826) 32 (H1.1 1826 30))))), (2, .inl 1)]) (st' := [.inl (lk (zu H1 1826 (up (H1.1 1826) 32 (H1.1 1826 30)))), .inr (.inr 1826)]) rfl ?_
                      refine h_puti (i := 271) (ci := 13) (k := 31) (a := 1826) (x := (lk (zu H1 1826 (up (H1.1 1826) 32 (H1.1 1826 30))))) rfl rfl rfl rfl rfl rfl (by decide) (by omega) ?_
                      refine h_run 3 (pc' := 135) (l' := [(0, .inr (.inr 1826)), (1, .inl (lk (zu H1 1826 (up (H1.1 1826) 32 (H1.1 1826 30))))), (2, .inl 1)]) (st' := [.inl (H1.1 1826 30), .inr (.inr 1826)]) rfl ?_
                      refine h_run 2 (pc' := 137) (l' := [(0, .inr (.inr 1826)), (1, .inl (lk (zu H1 1826 (up (H1.1 1826) 32 (H1.1 1826 30))))), (2, .inl 1)]) (st' := [.inl ((H1.1 1826 30) + 1), .inr (.inr 1826)]) rfl ?_
                      refine h_puti (i := 261) (ci := 13) (k := 30) (a := 1826) (x := ((H1.1 1826 30) + 1)) rfl rfl rfl rfl rfl rfl (by decide) (by omega) ?_
                      refine h_ret rfl rfl ?_
                      have g19 : -2147483648 ≤ (H1.1 1826 35) ∧ (H1.1 1826 35) ≤ 2147483647 := hrg1.1 1826 13 35 _ .int rfl rfl
                      exact ⟨rfl, (fr_o (fr_o (fr_o hf (by decide)) (by decide)) (by decide)), (by omega : (H.1 1826 30) ≤ ((H1.1 1826 30) + 1)), (by omega : ((H1.1 1826 30) + 1) ≤ (H.1 1826 29)), (by omega : 0 ≤ (H1.1 1826 35) ∧ (H1.1 1826 35) ≤ 5), (by omega : (H.1 1826 35) ≠ 0 → (H1.1 1826 35) = (H.1 1826 35)), (by omega : 0 ≤ (H1.1 1826 30) ∧ (H1.1 1826 30) ≤ 1000), (by omega : (H1.1 1826 35) = 0 → ((lk (zu H1 1826 (up (H1.1 1826) 32 (H1.1 1826 30)))) = 0 ∨ (H.1 1826 30) < ((H1.1 1826 30) + 1)))⟩
                    · refine h_run 2 (pc' := 89) (l' := [(0, .inr (.inr 1826)), (1, .inl (lk (zu H1 1826 (up (H1.1 1826) 32 (H1.1 1826 30)))))]) (st' := [.inl 62, .inl (lk (zu H1 1826 (up (H1.1 1826) 32 (H1.1 1826 30))))]) rfl ?_
                      refine h_ieq (off := 21) (t := 110) rfl rfl (by omega) (by decide) (fun c20 => ?_) (fun c20 => ?_)
                      · refine h_run 4 (pc' := 117) (l' := [(0, .inr (.inr 1826)), (1, .inl (lk (zu H1 1826 (up (H1.1 1826) 32 (H1.1 1826 30))))), (2, .inl 1)]) (st' := [.inl 1]) rfl ?_
                        refine h_zne (off := 8) (t := 125) rfl rfl (by decide) (fun _ => ?_) (fun c => absurd c (by decide))
                        refine h_run 2 (pc' := 127) (l' := [(0, .inr (.inr 1826)), (1, .inl (lk (zu H1 1826 (up (H1.1 1826) 32 (H1.1 1826 30))))), (2, .inl 1)]) (st' := [.inl (lk (zu H1 1826 (up (H1.1 1826) 32 (H1.1 1826 30)))), .inr (.inr 1826)]) rfl ?_
                        refine h_puti (i := 271) (ci := 13) (k := 31) (a := 1826) (x := (lk (zu H1 1826 (up (H1.1 1826) 32 (H1.1 1826 30))))) rfl rfl rfl rfl rfl rfl (by decide) (by omega) ?_
                        refine h_run 3 (pc' := 135) (l' := [(0, .inr (.inr 1826)), (1, .inl (lk (zu H1 1826 (up (H1.1 1826) 32 (H1.1 1826 30))))), (2, .inl 1)]) (st' := [.inl (H1.1 1826 30), .inr (.inr 1826)]) rfl ?_
                        refine h_run 2 (pc' := 137) (l' := [(0, .inr (.inr 1826)), (1, .inl (lk (zu H1 1826 (up (H1.1 1826) 32 (H1.1 1826 30))))), (2, .inl 1)]) (st' := [.inl ((H1.1 1826 30) + 1), .inr (.inr 1826)]) rfl ?_
                        refine h_puti (i := 261) (ci := 13) (k := 30) (a := 1826) (x := ((H1.1 1826 30) + 1)) rfl rfl rfl rfl rfl rfl (by decide) (by omega) ?_
                        refine h_ret rfl rfl ?_
                        have g21 : -2147483648 ≤ (H1.1 1826 35) ∧ (H1.1 1826 35) ≤ 2147483647 := hrg1.1 1826 13 35 _ .int rfl rfl
                        exact ⟨rfl, (fr_o (fr_o (fr_o hf (by decide)) (by decide)) (by decide)), (by omega : (H.1 1826 30) ≤ ((H1.1 1826 30) + 1)), (by omega : ((H1.1 1826 30) + 1) ≤ (H.1 1826 29)), (by omega : 0 ≤ (H1.1 1826 35) ∧ (H1.1 1826 35) ≤ 5), (by omega : (H.1 1826 35) ≠ 0 → (H1.1 1826 35) = (H.1 1826 35)), (by omega : 0 ≤ (H1.1 1826 30) ∧ (H1.1 1826 30) ≤ 1000), (by omega : (H1.1 1826 35) = 0 → ((lk (zu H1 1826 (up (H1.1 1826) 32 (H1.1 1826 30)))) = 0 ∨ (H.1 1826 30) < ((H1.1 1826 30) + 1)))⟩
                      · refine h_run 2 (pc' := 95) (l' := [(0, .inr (.inr 1826)), (1, .inl (lk (zu H1 1826 (up (H1.1 1826) 32 (H1.1 1826 30)))))]) (st' := [.inl 40, .inl (lk (zu H1 1826 (up (H1.1 1826) 32 (H1.1 1826 30))))]) rfl ?_
                        refine h_ieq (off := 15) (t := 110) rfl rfl (by omega) (by decide) (fun c22 => ?_) (fun c22 => ?_)
                        · refine h_run 4 (pc' := 117) (l' := [(0, .inr (.inr 1826)), (1, .inl (lk (zu H1 1826 (up (H1.1 1826) 32 (H1.1 1826 30))))), (2, .inl 1)]) (st' := [.inl 1]) rfl ?_
                          refine h_zne (off := 8) (t := 125) rfl rfl (by decide) (fun _ => ?_) (fun c => absurd c (by decide))
                          refine h_run 2 (pc' := 127) (l' := [(0, .inr (.inr 1826)), (1, .inl (lk (zu H1 1826 (up (H1.1 1826) 32 (H1.1 1826 30))))), (2, .inl 1)]) (st' := [.inl (lk (zu H1 1826 (up (H1.1 1826) 32 (H1.1 1826 30)))), .inr (.inr 1826)]) rfl ?_
                          refine h_puti (i := 271) (ci := 13) (k := 31) (a := 1826) (x := (lk (zu H1 1826 (up (H1.1 1826) 32 (H1.1 1826 30))))) rfl rfl rfl rfl rfl rfl (by decide) (by omega) ?_
                          refine h_run 3 (pc' := 135) (l' := [(0, .inr (.inr 1826)), (1, .inl (lk (zu H1 1826 (up (H1.1 1826) 32 (H1.1 1826 30))))), (2, .inl 1)]) (st' := [.inl (H1.1 1826 30), .inr (.inr 1826)]) rfl ?_
                          refine h_run 2 (pc' := 137) (l' := [(0, .inr (.inr 1826)), (1, .inl (lk (zu H1 1826 (up (H1.1 1826) 32 (H1.1 1826 30))))), (2, .inl 1)]) (st' := [.inl ((H1.1 1826 30) + 1), .inr (.inr 1826)]) rfl ?_
                          refine h_puti (i := 261) (ci := 13) (k := 30) (a := 1826) (x := ((H1.1 1826 30) + 1)) rfl rfl rfl rfl rfl rfl (by decide) (by omega) ?_
                          refine h_ret rfl rfl ?_
                          have g23 : -2147483648 ≤ (H1.1 1826 35) ∧ (H1.1 1826 35) ≤ 2147483647 := hrg1.1 1826 13 35 _ .int rfl rfl
                          exact ⟨rfl, (fr_o (fr_o (fr_o hf (by decide)) (by decide)) (by decide)), (by omega : (H.1 1826 30) ≤ ((H1.1 1826 30) + 1)), (by omega : ((H1.1 1826 30) + 1) ≤ (H.1 1826 29)), (by omega : 0 ≤ (H1.1 1826 35) ∧ (H1.1 1826 35) ≤ 5), (by omega : (H.1 1826 35) ≠ 0 → (H1.1 1826 35) = (H.1 1826 35)), (by omega : 0 ≤ (H1.1 1826 30) ∧ (H1.1 1826 30) ≤ 1000), (by omega : (H1.1 1826 35) = 0 → ((lk (zu H1 1826 (up (H1.1 1826) 32 (H1.1 1826 30)))) = 0 ∨ (H.1 1826 30) < ((H1.1 1826 30) + 1)))⟩
                        · refine h_run 2 (pc' := 101) (l' := [(0, .inr (.inr 1826)), (1, .inl (lk (zu H1 1826 (up (H1.1 1826) 32 (H1.1 1826 30)))))]) (st' := [.inl 41, .inl (lk (zu H1 1826 (up (H1.1 1826) 32 (H1.1 1826 30))))]) rfl ?_
                          refine h_ieq (off := 9) (t := 110) rfl rfl (by omega) (by decide) (fun c24 => ?_) (fun c24 => ?_)
                          · refine h_run 4 (pc' := 117) (l' := [(0, .inr (.inr 1826)), (1, .inl (lk (zu H1 1826 (up (H1.1 1826) 32 (H1.1 1826 30))))), (2, .inl 1)]) (st' := [.inl 1]) rfl ?_
                            refine h_zne (off := 8) (t := 125) rfl rfl (by decide) (fun _ => ?_) (fun c => absurd c (by decide))
                            refine h_run 2 (pc' := 127) (l' := [(0, .inr (.inr 1826)), (1, .inl (lk (zu H1 1826 (up (H1.1 1826) 32 (H1.1 1826 30))))), (2, .inl 1)]) (st' := [.inl (lk (zu H1 1826 (up (H1.1 1826) 32 (H1.1 1826 30)))), .inr (.inr 1826)]) rfl ?_
                            refine h_puti (i := 271) (ci := 13) (k := 31) (a := 1826) (x := (lk (zu H1 1826 (up (H1.1 1826) 32 (H1.1 1826 30))))) rfl rfl rfl rfl rfl rfl (by decide) (by omega) ?_
                            refine h_run 3 (pc' := 135) (l' := [(0, .inr (.inr 1826)), (1, .inl (lk (zu H1 1826 (up (H1.1 1826) 32 (H1.1 1826 30))))), (2, .inl 1)]) (st' := [.inl (H1.1 1826 30), .inr (.inr 1826)]) rfl ?_
                            refine h_run 2 (pc' := 137) (l' := [(0, .inr (.inr 1826)), (1, .inl (lk (zu H1 1826 (up (H1.1 1826) 32 (H1.1 1826 30))))), (2, .inl 1)]) (st' := [.inl ((H1.1 1826 30) + 1), .inr (.inr 1826)]) rfl ?_
                            refine h_puti (i := 261) (ci := 13) (k := 30) (a := 1826) (x := ((H1.1 1826 30) + 1)) rfl rfl rfl rfl rfl rfl (by decide) (by omega) ?_
                            refine h_ret rfl rfl ?_
                            have g25 : -2147483648 ≤ (H1.1 1826 35) ∧ (H1.1 1826 35) ≤ 2147483647 := hrg1.1 1826 13 35 _ .int rfl rfl
                            exact ⟨rfl, (fr_o (fr_o (fr_o hf (by decide)) (by decide)) (by decide)), (by omega : (H.1 1826 30) ≤ ((H1.1 1826 30) + 1)), (by omega : ((H1.1 1826 30) + 1) ≤ (H.1 1826 29)), (by omega : 0 ≤ (H1.1 1826 35) ∧ (H1.1 1826 35) ≤ 5), (by omega : (H.1 1826 35) ≠ 0 → (H1.1 1826 35) = (H.1 1826 35)), (by omega : 0 ≤ (H1.1 1826 30) ∧ (H1.1 1826 30) ≤ 1000), (by omega : (H1.1 1826 35) = 0 → ((lk (zu H1 1826 (up (H1.1 1826) 32 (H1.1 1826 30)))) = 0 ∨ (H.1 1826 30) < ((H1.1 1826 30) + 1)))⟩
                          · refine h_run 2 (pc' := 107) (l' := [(0, .inr (.inr 1826)), (1, .inl (lk (zu H1 1826 (up (H1.1 1826) 32 (H1.1 1826 30)))))]) (st' := [.inl 95, .inl (lk (zu H1 1826 (up (H1.1 1826) 32 (H1.1 1826 30))))]) rfl ?_
                            refine h_ine (off := 7) (t := 114) rfl rfl (by omega) (by decide) (fun c26 => ?_) (fun c26 => ?_)
                            · refine h_run 3 (pc' := 117) (l' := [(0, .inr (.inr 1826)), (1, .inl (lk (zu H1 1826 (up (H1.1 1826) 32 (H1.1 1826 30))))), (2, .inl 0)]) (st' := [.inl 0]) rfl ?_
                              refine h_zne (off := 8) (t := 125) rfl rfl (by decide) (fun c => absurd c (by decide)) (fun _ => ?_)
                              refine h_run 2 (pc' := 122) (l' := [(0, .inr (.inr 1826)), (1, .inl (lk (zu H1 1826 (up (H1.1 1826) 32 (H1.1 1826 30))))), (2, .inl 0)]) (st' := [.inl 1, .inr (.inr 1826)]) rfl ?_
                              have g27 : -2147483648 ≤ (H1.1 1826 35) ∧ (H1.1 1826 35) ≤ 2147483647 := hrg1.1 1826 13 35 _ .int rfl rfl
                              by_cases b28 : (H1.1 1826 35) = 0
                              · refine h_cv (i := 278) (j := 159) (b := 1826) (M' := mt_159) (xs := [.inl 1]) (rest := []) rfl rfl rfl rfl rfl rfl (Nat.le_of_ble_eq_true rfl) (Nat.le_of_ble_eq_true rfl) (by omega) (m_bad0 (by omega) (by omega) (by omega : (H1.1 1826 35) = 0)) ?_
                                rintro _ _ ⟨rfl, rfl⟩
                                refine h_run 0 (pc' := 125) (l' := [(0, .inr (.inr 1826)), (1, .inl (lk (zu H1 1826 (up (H1.1 1826) 32 (H1.1 1826 30))))), (2, .inl 0)]) (st' := []) rfl ?_
                                refine h_run 2 (pc' := 127) (l' := [(0, .inr (.inr 1826)), (1, .inl (lk (zu H1 1826 (up (H1.1 1826) 32 (H1.1 1826 30))))), (2, .inl 0)]) (st' := [.inl (lk (zu H1 1826 (up (H1.1 1826) 32 (H1.1 1826 30)))), .inr (.inr 1826)]) rfl ?_
                                refine h_puti (i := 271) (ci := 13) (k := 31) (a := 1826) (x := (lk (zu H1 1826 (up (H1.1 1826) 32 (H1.1 1826 30))))) rfl rfl rfl rfl rfl rfl (by decide) (by omega) ?_
                                refine h_run 3 (pc' := 135) (l' := [(0, .inr (.inr 1826)), (1, .inl (lk (zu H1 1826 (up (H1.1 1826) 32 (H1.1 1826 30))))), (2, .inl 0)]) (st' := [.inl (H1.1 1826 30), .inr (.inr 1826)]) rfl ?_
                                refine h_run 2 (pc' := 137) (l' := [(0, .inr (.inr 1826)), (1, .inl (lk (zu H1 1826 (up (H1.1 1826) 32 (H1.1 1826 30))))), (2, .inl 0)]) (st' := [.inl ((H1.1 1826 30) + 1), .inr (.inr 1826)]) rfl ?_
                                refine h_puti (i := 261) (ci := 13) (k := 30) (a := 1826) (x := ((H1.1 1826 30) + 1)) rfl rfl rfl rfl rfl rfl (by decide) (by omega) ?_
                                refine h_ret rfl rfl ?_
                                exact ⟨rfl, (fr_o (fr_o (fr_o (fr_o (fr_o hf (by decide)) (by decide)) (by decide)) (by decide)) (by decide)), (by omega : (H.1 1826 30) ≤ ((H1.1 1826 30) + 1)), (by omega : ((H1.1 1826 30) + 1) ≤ (H.1 1826 29)), (by omega : 0 ≤ (1 : Int) ∧ (1 : Int) ≤ 5), (by omega : (H.1 1826 35) ≠ 0 → (1 : Int) = (H.1 1826 35)), (by omega : 0 ≤ (H1.1 1826 30) ∧ (H1.1 1826 30) ≤ 1000), (by omega : (1 : Int) = 0 → ((lk (zu H1 1826 (up (H1.1 1826) 32 (H1.1 1826 30)))) = 0 ∨ (H.1 1826 30) < ((H1.1 1826 30) + 1)))⟩
                              · refine h_cv (i := 278) (j := 159) (b := 1826) (M' := mt_159) (xs := [.inl 1]) (rest := []) rfl rfl rfl rfl rfl rfl (Nat.le_of_ble_eq_true rfl) (Nat.le_of_ble_eq_true rfl) (by omega) (m_bad1 (by omega) (by omega) (by omega : (H1.1 1826 35) ≠ 0)) ?_
                                rintro _ _ ⟨rfl, rfl⟩
                                refine h_run 0 (pc' := 125) (l' := [(0, .inr (.inr 1826)), (1, .inl (lk (zu H1 1826 (up (H1.1 1826) 32 (H1.1 1826 30))))), (2, .inl 0)]) (st' := []) rfl ?_
                                refine h_run 2 (pc' := 127) (l' := [(0, .inr (.inr 1826)), (1, .inl (lk (zu H1 1826 (up (H1.1 1826) 32 (H1.1 1826 30))))), (2, .inl 0)]) (st' := [.inl (lk (zu H1 1826 (up (H1.1 1826) 32 (H1.1 1826 30)))), .inr (.inr 1826)]) rfl ?_
                                refine h_puti (i := 271) (ci := 13) (k := 31) (a := 1826) (x := (lk (zu H1 1826 (up (H1.1 1826) 32 (H1.1 1826 30))))) rfl rfl rfl rfl rfl rfl (by decide) (by omega) ?_
                                refine h_run 3 (pc' := 135) (l' := [(0, .inr (.inr 1826)), (1, .inl (lk (zu H1 1826 (up (H1.1 1826) 32 (H1.1 1826 30))))), (2, .inl 0)]) (st' := [.inl (H1.1 1826 30), .inr (.inr 1826)]) rfl ?_
                                refine h_run 2 (pc' := 137) (l' := [(0, .inr (.inr 1826)), (1, .inl (lk (zu H1 1826 (up (H1.1 1826) 32 (H1.1 1826 30))))), (2, .inl 0)]) (st' := [.inl ((H1.1 1826 30) + 1), .inr (.inr 1826)]) rfl ?_
                                refine h_puti (i := 261) (ci := 13) (k := 30) (a := 1826) (x := ((H1.1 1826 30) + 1)) rfl rfl rfl rfl rfl rfl (by decide) (by omega) ?_
                                refine h_ret rfl rfl ?_
                                exact ⟨rfl, (fr_o (fr_o (fr_o hf (by decide)) (by decide)) (by decide)), (by omega : (H.1 1826 30) ≤ ((H1.1 1826 30) + 1)), (by omega : ((H1.1 1826 30) + 1) ≤ (H.1 1826 29)), (by omega : 0 ≤ (H1.1 1826 35) ∧ (H1.1 1826 35) ≤ 5), (by omega : (H.1 1826 35) ≠ 0 → (H1.1 1826 35) = (H.1 1826 35)), (by omega : 0 ≤ (H1.1 1826 30) ∧ (H1.1 1826 30) ≤ 1000), (by omega : (H1.1 1826 35) = 0 → ((lk (zu H1 1826 (up (H1.1 1826) 32 (H1.1 1826 30)))) = 0 ∨ (H.1 1826 30) < ((H1.1 1826 30) + 1)))⟩
                            · refine h_run 4 (pc' := 117) (l' := [(0, .inr (.inr 1826)), (1, .inl (lk (zu H1 1826 (up (H1.1 1826) 32 (H1.1 1826 30))))), (2, .inl 1)]) (st' := [.inl 1]) rfl ?_
                              refine h_zne (off := 8) (t := 125) rfl rfl (by decide) (fun _ => ?_) (fun c => absurd c (by decide))
                              refine h_run 2 (pc' := 127) (l' := [(0, .inr (.inr 1826)), (1, .inl (lk (zu H1 1826 (up (H1.1 1826) 32 (H1.1 1826 30))))), (2, .inl 1)]) (st' := [.inl (lk (zu H1 1826 (up (H1.1 1826) 32 (H1.1 1826 30)))), .inr (.inr 1826)]) rfl ?_
                              refine h_puti (i := 271) (ci := 13) (k := 31) (a := 1826) (x := (lk (zu H1 1826 (up (H1.1 1826) 32 (H1.1 1826 30))))) rfl rfl rfl rfl rfl rfl (by decide) (by omega) ?_
                              refine h_run 3 (pc' := 135) (l' := [(0, .inr (.inr 1826)), (1, .inl (lk (zu H1 1826 (up (H1.1 1826) 32 (H1.1 1826 30))))), (2, .inl 1)]) (st' := [.inl (H1.1 1826 30), .inr (.inr 1826)]) rfl ?_
                              refine h_run 2 (pc' := 137) (l' := [(0, .inr (.inr 1826)), (1, .inl (lk (zu H1 1826 (up (H1.1 1826) 32 (H1.1 1826 30))))), (2, .inl 1)]) (st' := [.inl ((H1.1 1826 30) + 1), .inr (.inr 1826)]) rfl ?_
                              refine h_puti (i := 261) (ci := 13) (k := 30) (a := 1826) (x := ((H1.1 1826 30) + 1)) rfl rfl rfl rfl rfl rfl (by decide) (by omega) ?_
                              refine h_ret rfl rfl ?_
                              have g29 : -2147483648 ≤ (H1.1 1826 35) ∧ (H1.1 1826 35) ≤ 2147483647 := hrg1.1 1826 13 35 _ .int rfl rfl
                              exact ⟨rfl, (fr_o (fr_o (fr_o hf (by decide)) (by decide)) (by decide)), (by omega : (H.1 1826 30) ≤ ((H1.1 1826 30) + 1)), (by omega : ((H1.1 1826 30) + 1) ≤ (H.1 1826 29)), (by omega : 0 ≤ (H1.1 1826 35) ∧ (H1.1 1826 35) ≤ 5), (by omega : (H.1 1826 35) ≠ 0 → (H1.1 1826 35) = (H.1 1826 35)), (by omega : 0 ≤ (H1.1 1826 30) ∧ (H1.1 1826 30) ≤ 1000), (by omega : (H1.1 1826 35) = 0 → ((lk (zu H1 1826 (up (H1.1 1826) 32 (H1.1 1826 30)))) = 0 ∨ (H.1 1826 30) < ((H1.1 1826 30) + 1)))⟩
          · refine h_run 2 (pc' := 51) (l' := [(0, .inr (.inr 1826)), (1, .inl (lk (zu H1 1826 (up (H1.1 1826) 32 (H1.1 1826 30)))))]) (st' := [.inl 0, .inr (.inr 1826)]) rfl ?_
            refine h_puti (i := 271) (ci := 13) (k := 31) (a := 1826) (x := 0) rfl rfl rfl rfl rfl rfl (by decide) (by decide) ?_
            refine h_ret rfl rfl ?_
            have g30 : -2147483648 ≤ (H1.1 1826 35) ∧ (H1.1 1826 35) ≤ 2147483647 := hrg1.1 1826 13 35 _ .int rfl rfl
            exact ⟨rfl, (fr_o (fr_o hf (by decide)) (by decide)), (by omega : (H.1 1826 30) ≤ (H1.1 1826 30)), (by omega : (H1.1 1826 30) ≤ (H.1 1826 29)), (by omega : 0 ≤ (H1.1 1826 35) ∧ (H1.1 1826 35) ≤ 5), (by omega : (H.1 1826 35) ≠ 0 → (H1.1 1826 35) = (H.1 1826 35)), (by omega : 0 ≤ (H1.1 1826 30) ∧ (H1.1 1826 30) ≤ 1000), (by omega : (H1.1 1826 35) = 0 → ((0 : Int) = 0 ∨ (H.1 1826 30) < (H1.1 1826 30)))⟩
        · refine h_run 3 (pc' := 23) (l' := [(0, .inr (.inr 1826))]) (st' := [.inl (H1.1 1826 30), .inr (.inr 1826)]) rfl ?_
          refine h_run 2 (pc' := 25) (l' := [(0, .inr (.inr 1826))]) (st' := [.inl ((H1.1 1826 30) + 1), .inr (.inr 1826)]) rfl ?_
          refine h_puti (i := 261) (ci := 13) (k := 30) (a := 1826) (x := ((H1.1 1826 30) + 1)) rfl rfl rfl rfl rfl rfl (by decide) (by omega) ?_
          refine h_run 1 (pc' := 0) (l' := [(0, .inr (.inr 1826))]) (st' := []) rfl ?_
          exact ih.1 _ (fr_o hf (by decide)) (by omega : (H.1 1826 30) ≤ ((H1.1 1826 30) + 1) ∧ ((H1.1 1826 30) + 1) ≤ (H.1 1826 29)) (by omega : (H1.1 1826 35) = (H.1 1826 35)) (by omega : 2 * ((H.1 1826 29) - ((H1.1 1826 30) + 1)).toNat + 1 < w)
    · intro H1 c hf ha hk hs hc hl hw
      refine h_rng (fun hrg31 => ?_)
      refine h_run 1 (pc' := 147) (l' := [(0, .inr (.inr 1826)), (1, .inl c)]) (st' := [.inr (.inr 1826)]) rfl ?_
      have g32 : -2147483648 ≤ (H1.1 1826 30) ∧ (H1.1 1826 30) ≤ 2147483647 := hrg31.1 1826 13 30 _ .int rfl rfl
      have g33 : -2147483648 ≤ (H1.1 1826 29) ∧ (H1.1 1826 29) ≤ 2147483647 := hrg31.1 1826 13 29 _ .int rfl rfl
      have e34 : (H1.1 1826 29) = (H.1 1826 29) := hf.2.2 29 (by decide)
      refine h_cv (i := 267) (j := 161) (b := 1826) (M' := mt_161) (xs := []) (rest := []) rfl rfl rfl rfl rfl rfl (Nat.le_of_ble_eq_true rfl) (Nat.le_of_ble_eq_true rfl) (by omega) (m_look (by omega) (by omega : 0 ≤ (H1.1 1826 30) ∧ (H1.1 1826 29) ≤ 1000)) ?_
      rintro _ _ ⟨rfl, rfl⟩
      have l35 := lk_rng H1
      have l35x : lk H1 = -1 ∨ (H1.1 1826 30) < (H1.1 1826 29) := lk_in H1
      refine h_run 0 (pc' := 150) (l' := [(0, .inr (.inr 1826)), (1, .inl c)]) (st' := [.inl (lk H1)]) rfl ?_
      refine h_cs (i := 274) (j := 162) (M' := mt_162) (xs := [.inl (lk H1)]) (rest := []) rfl rfl rfl rfl rfl (Nat.le_of_ble_eq_true rfl) (Nat.le_of_ble_eq_true rfl) (by omega) (m_isLetter (by omega) (by omega)) ?_
      rintro _ _ ⟨⟨rfl, b36⟩ | ⟨rfl, b36⟩, rfl⟩
      · refine h_run 0 (pc' := 153) (l' := [(0, .inr (.inr 1826)), (1, .inl c)]) (st' := [.inl 1]) rfl ?_
        refine h_zne (off := 13) (t := 166) rfl rfl (by decide) (fun _ => ?_) (fun c => absurd c (by decide))
        refine h_run 2 (pc' := 170) (l' := [(0, .inr (.inr 1826)), (1, .inl c)]) (st' := [.inl (H1.1 1826 30)]) rfl ?_
        refine h_run 2 (pc' := 174) (l' := [(0, .inr (.inr 1826)), (1, .inl c)]) (st' := [.inl (H1.1 1826 32), .inl (H1.1 1826 30)]) rfl ?_
        have g37 : -2147483648 ≤ (H1.1 1826 32) ∧ (H1.1 1826 32) ≤ 2147483647 := hrg31.1 1826 13 32 _ .int rfl rfl
        refine h_run 2 (pc' := 177) (l' := [(0, .inr (.inr 1826)), (1, .inl c)]) (st' := [.inl 6, .inl ((H1.1 1826 30) - (H1.1 1826 32))]) rfl ?_
        refine h_ine (off := 9) (t := 186) rfl rfl (by omega) (by decide) (fun c38 => ?_) (fun c38 => ?_)
        · refine h_run 3 (pc' := 191) (l' := [(0, .inr (.inr 1826)), (1, .inl c)]) (st' := [.inr (.inl (H1.1 1826 33)), .inr (.inr 1826)]) rfl ?_
          have g39 : -9223372036854775808 ≤ (H1.1 1826 33) ∧ (H1.1 1826 33) ≤ 9223372036854775807 := hrg31.1 1826 13 33 _ .long rfl rfl
          refine h_run 3 (pc' := 195) (l' := [(0, .inr (.inr 1826)), (1, .inl c)]) (st' := [.inr (.inr 1826), .inr (.inl (z_lshl (H1.1 1826 33) 8)), .inr (.inr 1826)]) rfl ?_
          refine h_cv (i := 267) (j := 161) (b := 1826) (M' := mt_161) (xs := []) (rest := [.inr (.inl (z_lshl (H1.1 1826 33) 8)), .inr (.inr 1826)]) rfl rfl rfl rfl rfl rfl (Nat.le_of_ble_eq_true rfl) (Nat.le_of_ble_eq_true rfl) (by omega) (m_look (by omega) (by omega : 0 ≤ (H1.1 1826 30) ∧ (H1.1 1826 29) ≤ 1000)) ?_
          rintro _ _ ⟨rfl, rfl⟩
          refine h_run 0 (pc' := 198) (l' := [(0, .inr (.inr 1826)), (1, .inl c)]) (st' := [.inl (lk H1), .inr (.inl (z_lshl (H1.1 1826 33) 8)), .inr (.inr 1826)]) rfl ?_
          refine h_run 2 (pc' := 200) (l' := [(0, .inr (.inr 1826)), (1, .inl c)]) (st' := [.inr (.inl (z_lor (z_lshl (H1.1 1826 33) 8) (z_i2l (lk H1)))), .inr (.inr 1826)]) rfl ?_
          refine h_putl (i := 282) (ci := 13) (k := 33) (a := 1826) (x := (z_lor (z_lshl (H1.1 1826 33) 8) (z_i2l (lk H1)))) rfl rfl rfl rfl rfl rfl (by decide) (z_long _) ?_
          refine h_run 3 (pc' := 208) (l' := [(0, .inr (.inr 1826)), (1, .inl c)]) (st' := [.inl (H1.1 1826 30), .inr (.inr 1826)]) rfl ?_
          refine h_run 2 (pc' := 210) (l' := [(0, .inr (.inr 1826)), (1, .inl c)]) (st' := [.inl ((H1.1 1826 30) + 1), .inr (.inr 1826)]) rfl ?_
          refine h_puti (i := 261) (ci := 13) (k := 30) (a := 1826) (x := ((H1.1 1826 30) + 1)) rfl rfl rfl rfl rfl rfl (by decide) (by omega) ?_
          refine h_run 1 (pc' := 146) (l' := [(0, .inr (.inr 1826)), (1, .inl c)]) (st' := []) rfl ?_
          exact ih.2 _ c (fr_o (fr_o hf (by decide)) (by decide)) (by omega : (H.1 1826 30) ≤ ((H1.1 1826 30) + 1) ∧ ((H1.1 1826 30) + 1) ≤ (H.1 1826 29)) (by omega : (H1.1 1826 35) = (H.1 1826 35)) (by omega : (H.1 1826 30) ≤ (H1.1 1826 32) ∧ (H1.1 1826 32) ≤ ((H1.1 1826 30) + 1)) (by omega) (Or.inl (by omega : (H1.1 1826 32) < ((H1.1 1826 30) + 1))) (by omega : 2 * ((H.1 1826 29) - ((H1.1 1826 30) + 1)).toNat < w)
        · refine h_run 2 (pc' := 182) (l' := [(0, .inr (.inr 1826)), (1, .inl c)]) (st' := [.inl 1, .inr (.inr 1826)]) rfl ?_
          have g41 : -2147483648 ≤ (H1.1 1826 35) ∧ (H1.1 1826 35) ≤ 2147483647 := hrg31.1 1826 13 35 _ .int rfl rfl
          by_cases b42 : (H1.1 1826 35) = 0
          · refine h_cv (i := 278) (j := 159) (b := 1826) (M' := mt_159) (xs := [.inl 1]) (rest := []) rfl rfl rfl rfl rfl rfl (Nat.le_of_ble_eq_true rfl) (Nat.le_of_ble_eq_true rfl) (by omega) (m_bad0 (by omega) (by omega) (by omega : (H1.1 1826 35) = 0)) ?_
            rintro _ _ ⟨rfl, rfl⟩
            refine h_run 0 (pc' := 185) (l' := [(0, .inr (.inr 1826)), (1, .inl c)]) (st' := []) rfl ?_
            refine h_ret rfl rfl ?_
            have g43 : -2147483648 ≤ (H1.1 1826 31) ∧ (H1.1 1826 31) ≤ 2147483647 := hrg31.1 1826 13 31 _ .int rfl rfl
            exact ⟨rfl, (fr_o (fr_o hf (by decide)) (by decide)), (by omega : (H.1 1826 30) ≤ (H1.1 1826 30)), (by omega : (H1.1 1826 30) ≤ (H.1 1826 29)), (by omega : 0 ≤ (1 : Int) ∧ (1 : Int) ≤ 5), (by omega : (H.1 1826 35) ≠ 0 → (1 : Int) = (H.1 1826 35)), (by omega : 0 ≤ (H1.1 1826 32) ∧ (H1.1 1826 32) ≤ 1000), (by omega : (1 : Int) = 0 → ((H1.1 1826 31) = 0 ∨ (H.1 1826 30) < (H1.1 1826 30)))⟩
          · refine h_cv (i := 278) (j := 159) (b := 1826) (M' := mt_159) (xs := [.inl 1]) (rest := []) rfl rfl rfl rfl rfl rfl (Nat.le_of_ble_eq_true rfl) (Nat.le_of_ble_eq_true rfl) (by omega) (m_bad1 (by omega) (by omega) (by omega : (H1.1 1826 35) ≠ 0)) ?_
            rintro _ _ ⟨rfl, rfl⟩
            refine h_run 0 (pc' := 185) (l' := [(0, .inr (.inr 1826)), (1, .inl c)]) (st' := []) rfl ?_
            refine h_ret rfl rfl ?_
            have g44 : -2147483648 ≤ (H1.1 1826 31) ∧ (H1.1 1826 31) ≤ 2147483647 := hrg31.1 1826 13 31 _ .int rfl rfl
            exact ⟨rfl, hf, (by omega : (H.1 1826 30) ≤ (H1.1 1826 30)), (by omega : (H1.1 1826 30) ≤ (H.1 1826 29)), (by omega : 0 ≤ (H1.1 1826 35) ∧ (H1.1 1826 35) ≤ 5), (by omega : (H.1 1826 35) ≠ 0 → (H1.1 1826 35) = (H.1 1826 35)), (by omega : 0 ≤ (H1.1 1826 32) ∧ (H1.1 1826 32) ≤ 1000), (by omega : (H1.1 1826 35) = 0 → ((H1.1 1826 31) = 0 ∨ (H.1 1826 30) < (H1.1 1826 30)))⟩
      · refine h_run 0 (pc' := 153) (l' := [(0, .inr (.inr 1826)), (1, .inl c)]) (st' := [.inl 0]) rfl ?_
        refine h_zne (off := 13) (t := 166) rfl rfl (by decide) (fun c => absurd c (by decide)) (fun _ => ?_)
        refine h_run 1 (pc' := 157) (l' := [(0, .inr (.inr 1826)), (1, .inl c)]) (st' := [.inr (.inr 1826)]) rfl ?_
        refine h_cv (i := 267) (j := 161) (b := 1826) (M' := mt_161) (xs := []) (rest := []) rfl rfl rfl rfl rfl rfl (Nat.le_of_ble_eq_true rfl) (Nat.le_of_ble_eq_true rfl) (by omega) (m_look (by omega) (by omega : 0 ≤ (H1.1 1826 30) ∧ (H1.1 1826 29) ≤ 1000)) ?_
        rintro _ _ ⟨rfl, rfl⟩
        refine h_run 0 (pc' := 160) (l' := [(0, .inr (.inr 1826)), (1, .inl c)]) (st' := [.inl (lk H1)]) rfl ?_
        refine h_cs (i := 286) (j := 163) (M' := mt_163) (xs := [.inl (lk H1)]) (rest := []) rfl rfl rfl rfl rfl (Nat.le_of_ble_eq_true rfl) (Nat.le_of_ble_eq_true rfl) (by omega) (m_isDigit (by omega) (by omega)) ?_
        rintro _ _ ⟨⟨rfl, b46⟩ | ⟨rfl, b46⟩, rfl⟩
        · refine h_run 0 (pc' := 163) (l' := [(0, .inr (.inr 1826)), (1, .inl c)]) (st' := [.inl 1]) rfl ?_
          refine h_zeq (off := 53) (t := 216) rfl rfl (by decide) (fun c => absurd c (by decide)) (fun _ => ?_)
          refine h_run 2 (pc' := 170) (l' := [(0, .inr (.inr 1826)), (1, .inl c)]) (st' := [.inl (H1.1 1826 30)]) rfl ?_
          refine h_run 2 (pc' := 174) (l' := [(0, .inr (.inr 1826)), (1, .inl c)]) (st' := [.inl (H1.1 1826 32), .inl (H1.1 1826 30)]) rfl ?_
          have g47 : -2147483648 ≤ (H1.1 1826 32) ∧ (H1.1 1826 32) ≤ 2147483647 := hrg31.1 1826 13 32 _ .int rfl rfl
          refine h_run 2 (pc' := 177) (l' := [(0, .inr (.inr 1826)), (1, .inl c)]) (st' := [.inl 6, .inl ((H1.1 1826 30) - (H1.1 1826 32))]) rfl ?_
          refine h_ine (off := 9) (t := 186) rfl rfl (by omega) (by decide) (fun c48 => ?_) (fun c48 => ?_)
          · refine h_run 3 (pc' := 191) (l' := [(0, .inr (.inr 1826)), (1, .inl c)]) (st' := [.inr (.inl (H1.1 1826 33)), .inr (.inr 1826)]) rfl ?_
            have g49 : -9223372036854775808 ≤ (H1.1 1826 33) ∧ (H1.1 1826 33) ≤ 9223372036854775807 := hrg31.1 1826 13 33 _ .long rfl rfl
            refine h_run 3 (pc' := 195) (l' := [(0, .inr (.inr 1826)), (1, .inl c)]) (st' := [.inr (.inr 1826), .inr (.inl (z_lshl (H1.1 1826 33) 8)), .inr (.inr 1826)]) rfl ?_
            refine h_cv (i := 267) (j := 161) (b := 1826) (M' := mt_161) (xs := []) (rest := [.inr (.inl (z_lshl (H1.1 1826 33) 8)), .inr (.inr 1826)]) rfl rfl rfl rfl rfl rfl (Nat.le_of_ble_eq_true rfl) (Nat.le_of_ble_eq_true rfl) (by omega) (m_look (by omega) (by omega : 0 ≤ (H1.1 1826 30) ∧ (H1.1 1826 29) ≤ 1000)) ?_
            rintro _ _ ⟨rfl, rfl⟩
            refine h_run 0 (pc' := 198) (l' := [(0, .inr (.inr 1826)), (1, .inl c)]) (st' := [.inl (lk H1), .inr (.inl (z_lshl (H1.1 1826 33) 8)), .inr (.inr 1826)]) rfl ?_
            refine h_run 2 (pc' := 200) (l' := [(0, .inr (.inr 1826)), (1, .inl c)]) (st' := [.inr (.inl (z_lor (z_lshl (H1.1 1826 33) 8) (z_i2l (lk H1)))), .inr (.inr 1826)]) rfl ?_
            refine h_putl (i := 282) (ci := 13) (k := 33) (a := 1826) (x := (z_lor (z_lshl (H1.1 1826 33) 8) (z_i2l (lk H1)))) rfl rfl rfl rfl rfl rfl (by decide) (z_long _) ?_
            refine h_run 3 (pc' := 208) (l' := [(0, .inr (.inr 1826)), (1, .inl c)]) (st' := [.inl (H1.1 1826 30), .inr (.inr 1826)]) rfl ?_
            refine h_run 2 (pc' := 210) (l' := [(0, .inr (.inr 1826)), (1, .inl c)]) (st' := [.inl ((H1.1 1826 30) + 1), .inr (.inr 1826)]) rfl ?_
            refine h_puti (i := 261) (ci := 13) (k := 30) (a := 1826) (x := ((H1.1 1826 30) + 1)) rfl rfl rfl rfl rfl rfl (by decide) (by omega) ?_
            refine h_run 1 (pc' := 146) (l' := [(0, .inr (.inr 1826)), (1, .inl c)]) (st' := []) rfl ?_
            exact ih.2 _ c (fr_o (fr_o hf (by decide)) (by decide)) (by omega : (H.1 1826 30) ≤ ((H1.1 1826 30) + 1) ∧ ((H1.1 1826 30) + 1) ≤ (H.1 1826 29)) (by omega : (H1.1 1826 35) = (H.1 1826 35)) (by omega : (H.1 1826 30) ≤ (H1.1 1826 32) ∧ (H1.1 1826 32) ≤ ((H1.1 1826 30) + 1)) (by omega) (Or.inl (by omega : (H1.1 1826 32) < ((H1.1 1826 30) + 1))) (by omega : 2 * ((H.1 1826 29) - ((H1.1 1826 30) + 1)).toNat < w)
          · refine h_run 2 (pc' := 182) (l' := [(0, .inr (.inr 1826)), (1, .inl c)]) (st' := [.inl 1, .inr (.inr 1826)]) rfl ?_
            have g51 : -2147483648 ≤ (H1.1 1826 35) ∧ (H1.1 1826 35) ≤ 2147483647 := hrg31.1 1826 13 35 _ .int rfl rfl
            by_cases b52 : (H1.1 1826 35) = 0
            · refine h_cv (i := 278) (j := 159) (b := 1826) (M' := mt_159) (xs := [.inl 1]) (rest := []) rfl rfl rfl rfl rfl rfl (Nat.le_of_ble_eq_true rfl) (Nat.le_of_ble_eq_true rfl) (by omega) (m_bad0 (by omega) (by omega) (by omega : (H1.1 1826 35) = 0)) ?_
              rintro _ _ ⟨rfl, rfl⟩
              refine h_run 0 (pc' := 185) (l' := [(0, .inr (.inr 1826)), (1, .inl c)]) (st' := []) rfl ?_
              refine h_ret rfl rfl ?_
              have g53 : -2147483648 ≤ (H1.1 1826 31) ∧ (H1.1 1826 31) ≤ 2147483647 := hrg31.1 1826 13 31 _ .int rfl rfl
              exact ⟨rfl, (fr_o (fr_o hf (by decide)) (by decide)), (by omega : (H.1 1826 30) ≤ (H1.1 1826 30)), (by omega : (H1.1 1826 30) ≤ (H.1 1826 29)), (by omega : 0 ≤ (1 : Int) ∧ (1 : Int) ≤ 5), (by omega : (H.1 1826 35) ≠ 0 → (1 : Int) = (H.1 1826 35)), (by omega : 0 ≤ (H1.1 1826 32) ∧ (H1.1 1826 32) ≤ 1000), (by omega : (1 : Int) = 0 → ((H1.1 1826 31) = 0 ∨ (H.1 1826 30) < (H1.1 1826 30)))⟩
            · refine h_cv (i := 278) (j := 159) (b := 1826) (M' := mt_159) (xs := [.inl 1]) (rest := []) rfl rfl rfl rfl rfl rfl (Nat.le_of_ble_eq_true rfl) (Nat.le_of_ble_eq_true rfl) (by omega) (m_bad1 (by omega) (by omega) (by omega : (H1.1 1826 35) ≠ 0)) ?_
              rintro _ _ ⟨rfl, rfl⟩
              refine h_run 0 (pc' := 185) (l' := [(0, .inr (.inr 1826)), (1, .inl c)]) (st' := []) rfl ?_
              refine h_ret rfl rfl ?_
              have g54 : -2147483648 ≤ (H1.1 1826 31) ∧ (H1.1 1826 31) ≤ 2147483647 := hrg31.1 1826 13 31 _ .int rfl rfl
              exact ⟨rfl, hf, (by omega : (H.1 1826 30) ≤ (H1.1 1826 30)), (by omega : (H1.1 1826 30) ≤ (H.1 1826 29)), (by omega : 0 ≤ (H1.1 1826 35) ∧ (H1.1 1826 35) ≤ 5), (by omega : (H.1 1826 35) ≠ 0 → (H1.1 1826 35) = (H.1 1826 35)), (by omega : 0 ≤ (H1.1 1826 32) ∧ (H1.1 1826 32) ≤ 1000), (by omega : (H1.1 1826 35) = 0 → ((H1.1 1826 31) = 0 ∨ (H.1 1826 30) < (H1.1 1826 30)))⟩
        · refine h_run 0 (pc' := 163) (l' := [(0, .inr (.inr 1826)), (1, .inl c)]) (st' := [.inl 0]) rfl ?_
          refine h_zeq (off := 53) (t := 216) rfl rfl (by decide) (fun _ => ?_) (fun c => absurd c (by decide))
          refine h_run 3 (pc' := 220) (l' := [(0, .inr (.inr 1826)), (1, .inl c)]) (st' := [.inl 97, .inl c, .inr (.inr 1826)]) rfl ?_
          refine h_ilt (off := 7) (t := 227) rfl rfl (by omega) (by decide) (fun c55 => ?_) (fun c55 => ?_)
          · refine h_run 1 (pc' := 228) (l' := [(0, .inr (.inr 1826)), (1, .inl c)]) (st' := [.inl 2, .inr (.inr 1826)]) rfl ?_
            refine h_puti (i := 271) (ci := 13) (k := 31) (a := 1826) (x := 2) rfl rfl rfl rfl rfl rfl (by decide) (by decide) ?_
            refine h_run 3 (pc' := 236) (l' := [(0, .inr (.inr 1826)), (1, .inl c)]) (st' := [.inr (.inl (H1.1 1826 33)), .inr (.inr 1826)]) rfl ?_
            have g56 : -9223372036854775808 ≤ (H1.1 1826 33) ∧ (H1.1 1826 33) ≤ 9223372036854775807 := hrg31.1 1826 13 33 _ .long rfl rfl
            refine h_run 4 (pc' := 244) (l' := [(0, .inr (.inr 1826)), (1, .inl c)]) (st' := [.inl 97, .inl 116, .inl 97, .inl 100, .inr (.inl (H1.1 1826 33)), .inr (.inr 1826)]) rfl ?_
            refine h_cs (i := 289) (j := 164) (M' := mt_164) (xs := [.inl 97, .inl 116, .inl 97, .inl 100]) (rest := [.inr (.inl (H1.1 1826 33)), .inr (.inr 1826)]) rfl rfl rfl rfl rfl (Nat.le_of_ble_eq_true rfl) (Nat.le_of_ble_eq_true rfl) (by omega) (m_word (by omega) (by decide)) ?_
            rintro _ _ ⟨⟨wv57, rfl⟩, rfl⟩
            refine h_run 0 (pc' := 247) (l' := [(0, .inr (.inr 1826)), (1, .inl c)]) (st' := [.inr (.inl wv57), .inr (.inl (H1.1 1826 33)), .inr (.inr 1826)]) rfl ?_
            refine h_run 1 (pc' := 248) (l' := [(0, .inr (.inr 1826)), (1, .inl c)]) (st' := [.inl (z_cmp (H1.1 1826 33) wv57), .inr (.inr 1826)]) rfl ?_
            refine h_zne (off := 7) (t := 255) rfl rfl (z_int _) (fun c58 => ?_) (fun c58 => ?_)
            · refine h_run 2 (pc' := 259) (l' := [(0, .inr (.inr 1826)), (1, .inl c)]) (st' := [.inr (.inl (H1.1 1826 33)), .inr (.inr 1826)]) rfl ?_
              refine h_run 4 (pc' := 266) (l' := [(0, .inr (.inr 1826)), (1, .inl c)]) (st' := [.inl 0, .inl 110, .inl 117, .inl 102, .inr (.inl (H1.1 1826 33)), .inr (.inr 1826)]) rfl ?_
              refine h_cs (i := 289) (j := 164) (M' := mt_164) (xs := [.inl 0, .inl 110, .inl 117, .inl 102]) (rest := [.inr (.inl (H1.1 1826 33)), .inr (.inr 1826)]) rfl rfl rfl rfl rfl (Nat.le_of_ble_eq_true rfl) (Nat.le_of_ble_eq_true rfl) (by omega) (m_word (by omega) (by decide)) ?_
              rintro _ _ ⟨⟨wv59, rfl⟩, rfl⟩
              refine h_run 0 (pc' := 269) (l' := [(0, .inr (.inr 1826)), (1, .inl c)]) (st' := [.inr (.inl wv59), .inr (.inl (H1.1 1826 33)), .inr (.inr 1826)]) rfl ?_
              refine h_run 1 (pc' := 270) (l' := [(0, .inr (.inr 1826)), (1, .inl c)]) (st' := [.inl (z_cmp (H1.1 1826 33) wv59), .inr (.inr 1826)]) rfl ?_
              refine h_zne (off := 7) (t := 277) rfl rfl (z_int _) (fun c60 => ?_) (fun c60 => ?_)
              · refine h_run 2 (pc' := 281) (l' := [(0, .inr (.inr 1826)), (1, .inl c)]) (st' := [.inr (.inl (H1.1 1826 33)), .inr (.inr 1826)]) rfl ?_
                refine h_run 4 (pc' := 289) (l' := [(0, .inr (.inr 1826)), (1, .inl c)]) (st' := [.inl 101, .inl 108, .inl 117, .inl 114, .inr (.inl (H1.1 1826 33)), .inr (.inr 1826)]) rfl ?_
                refine h_cs (i := 289) (j := 164) (M' := mt_164) (xs := [.inl 101, .inl 108, .inl 117, .inl 114]) (rest := [.inr (.inl (H1.1 1826 33)), .inr (.inr 1826)]) rfl rfl rfl rfl rfl (Nat.le_of_ble_eq_true rfl) (Nat.le_of_ble_eq_true rfl) (by omega) (m_word (by omega) (by decide)) ?_
                rintro _ _ ⟨⟨wv61, rfl⟩, rfl⟩
                refine h_run 0 (pc' := 292) (l' := [(0, .inr (.inr 1826)), (1, .inl c)]) (st' := [.inr (.inl wv61), .inr (.inl (H1.1 1826 33)), .inr (.inr 1826)]) rfl ?_
                refine h_run 1 (pc' := 293) (l' := [(0, .inr (.inr 1826)), (1, .inl c)]) (st' := [.inl (z_cmp (H1.1 1826 33) wv61), .inr (.inr 1826)]) rfl ?_
                refine h_zne (off := 7) (t := 300) rfl rfl (z_int _) (fun c62 => ?_) (fun c62 => ?_)
                · refine h_run 2 (pc' := 304) (l' := [(0, .inr (.inr 1826)), (1, .inl c)]) (st' := [.inr (.inl (H1.1 1826 33)), .inr (.inr 1826)]) rfl ?_
                  refine h_run 4 (pc' := 311) (l' := [(0, .inr (.inr 1826)), (1, .inl c)]) (st' := [.inl 0, .inl 119, .inl 97, .inl 108, .inr (.inl (H1.1 1826 33)), .inr (.inr 1826)]) rfl ?_
                  refine h_cs (i := 289) (j := 164) (M' := mt_164) (xs := [.inl 0, .inl 119, .inl 97, .inl 108]) (rest := [.inr (.inl (H1.1 1826 33)), .inr (.inr 1826)]) rfl rfl rfl rfl rfl (Nat.le_of_ble_eq_true rfl) (Nat.le_of_ble_eq_true rfl) (by omega) (m_word (by omega) (by decide)) ?_
                  rintro _ _ ⟨⟨wv63, rfl⟩, rfl⟩
                  refine h_run 0 (pc' := 314) (l' := [(0, .inr (.inr 1826)), (1, .inl c)]) (st' := [.inr (.inl wv63), .inr (.inl (H1.1 1826 33)), .inr (.inr 1826)]) rfl ?_
                  refine h_run 1 (pc' := 315) (l' := [(0, .inr (.inr 1826)), (1, .inl c)]) (st' := [.inl (z_cmp (H1.1 1826 33) wv63), .inr (.inr 1826)]) rfl ?_
                  refine h_zne (off := 8) (t := 323) rfl rfl (z_int _) (fun c64 => ?_) (fun c64 => ?_)
                  · refine h_run 2 (pc' := 327) (l' := [(0, .inr (.inr 1826)), (1, .inl c)]) (st' := [.inl 2, .inr (.inr 1826)]) rfl ?_
                    refine h_puti (i := 271) (ci := 13) (k := 31) (a := 1826) (x := 2) rfl rfl rfl rfl rfl rfl (by decide) (by decide) ?_
                    refine h_ret rfl rfl ?_
                    have g65 : -2147483648 ≤ (H1.1 1826 35) ∧ (H1.1 1826 35) ≤ 2147483647 := hrg31.1 1826 13 35 _ .int rfl rfl
                    have g66 : -2147483648 ≤ (H1.1 1826 32) ∧ (H1.1 1826 32) ≤ 2147483647 := hrg31.1 1826 13 32 _ .int rfl rfl
                    exact ⟨rfl, (fr_o (fr_o hf (by decide)) (by decide)), (by omega : (H.1 1826 30) ≤ (H1.1 1826 30)), (by omega : (H1.1 1826 30) ≤ (H.1 1826 29)), (by omega : 0 ≤ (H1.1 1826 35) ∧ (H1.1 1826 35) ≤ 5), (by omega : (H.1 1826 35) ≠ 0 → (H1.1 1826 35) = (H.1 1826 35)), (by omega : 0 ≤ (H1.1 1826 32) ∧ (H1.1 1826 32) ≤ 1000), (by omega : (H1.1 1826 35) = 0 → ((2 : Int) = 0 ∨ (H.1 1826 30) < (H1.1 1826 30)))⟩
                  · refine h_run 2 (pc' := 327) (l' := [(0, .inr (.inr 1826)), (1, .inl c)]) (st' := [.inl 6, .inr (.inr 1826)]) rfl ?_
                    refine h_puti (i := 271) (ci := 13) (k := 31) (a := 1826) (x := 6) rfl rfl rfl rfl rfl rfl (by decide) (by decide) ?_
                    refine h_ret rfl rfl ?_
                    have g67 : -2147483648 ≤ (H1.1 1826 35) ∧ (H1.1 1826 35) ≤ 2147483647 := hrg31.1 1826 13 35 _ .int rfl rfl
                    have g68 : -2147483648 ≤ (H1.1 1826 32) ∧ (H1.1 1826 32) ≤ 2147483647 := hrg31.1 1826 13 32 _ .int rfl rfl
                    exact ⟨rfl, (fr_o (fr_o hf (by decide)) (by decide)), (by omega : (H.1 1826 30) ≤ (H1.1 1826 30)), (by omega : (H1.1 1826 30) ≤ (H.1 1826 29)), (by omega : 0 ≤ (H1.1 1826 35) ∧ (H1.1 1826 35) ≤ 5), (by omega : (H.1 1826 35) ≠ 0 → (H1.1 1826 35) = (H.1 1826 35)), (by omega : 0 ≤ (H1.1 1826 32) ∧ (H1.1 1826 32) ≤ 1000), (by omega : (H1.1 1826 35) = 0 → ((6 : Int) = 0 ∨ (H.1 1826 30) < (H1.1 1826 30)))⟩
                · refine h_run 2 (pc' := 327) (l' := [(0, .inr (.inr 1826)), (1, .inl c)]) (st' := [.inl 5, .inr (.inr 1826)]) rfl ?_
                  refine h_puti (i := 271) (ci := 13) (k := 31) (a := 1826) (x := 5) rfl rfl rfl rfl rfl rfl (by decide) (by decide) ?_
                  refine h_ret rfl rfl ?_
                  have g69 : -2147483648 ≤ (H1.1 1826 35) ∧ (H1.1 1826 35) ≤ 2147483647 := hrg31.1 1826 13 35 _ .int rfl rfl
                  have g70 : -2147483648 ≤ (H1.1 1826 32) ∧ (H1.1 1826 32) ≤ 2147483647 := hrg31.1 1826 13 32 _ .int rfl rfl
                  exact ⟨rfl, (fr_o (fr_o hf (by decide)) (by decide)), (by omega : (H.1 1826 30) ≤ (H1.1 1826 30)), (by omega : (H1.1 1826 30) ≤ (H.1 1826 29)), (by omega : 0 ≤ (H1.1 1826 35) ∧ (H1.1 1826 35) ≤ 5), (by omega : (H.1 1826 35) ≠ 0 → (H1.1 1826 35) = (H.1 1826 35)), (by omega : 0 ≤ (H1.1 1826 32) ∧ (H1.1 1826 32) ≤ 1000), (by omega : (H1.1 1826 35) = 0 → ((5 : Int) = 0 ∨ (H.1 1826 30) < (H1.1 1826 30)))⟩
              · refine h_run 2 (pc' := 327) (l' := [(0, .inr (.inr 1826)), (1, .inl c)]) (st' := [.inl 4, .inr (.inr 1826)]) rfl ?_
                refine h_puti (i := 271) (ci := 13) (k := 31) (a := 1826) (x := 4) rfl rfl rfl rfl rfl rfl (by decide) (by decide) ?_
                refine h_ret rfl rfl ?_
                have g71 : -2147483648 ≤ (H1.1 1826 35) ∧ (H1.1 1826 35) ≤ 2147483647 := hrg31.1 1826 13 35 _ .int rfl rfl
                have g72 : -2147483648 ≤ (H1.1 1826 32) ∧ (H1.1 1826 32) ≤ 2147483647 := hrg31.1 1826 13 32 _ .int rfl rfl
                exact ⟨rfl, (fr_o (fr_o hf (by decide)) (by decide)), (by omega : (H.1 1826 30) ≤ (H1.1 1826 30)), (by omega : (H1.1 1826 30) ≤ (H.1 1826 29)), (by omega : 0 ≤ (H1.1 1826 35) ∧ (H1.1 1826 35) ≤ 5), (by omega : (H.1 1826 35) ≠ 0 → (H1.1 1826 35) = (H.1 1826 35)), (by omega : 0 ≤ (H1.1 1826 32) ∧ (H1.1 1826 32) ≤ 1000), (by omega : (H1.1 1826 35) = 0 → ((4 : Int) = 0 ∨ (H.1 1826 30) < (H1.1 1826 30)))⟩
            · refine h_run 2 (pc' := 327) (l' := [(0, .inr (.inr 1826)), (1, .inl c)]) (st' := [.inl 3, .inr (.inr 1826)]) rfl ?_
              refine h_puti (i := 271) (ci := 13) (k := 31) (a := 1826) (x := 3) rfl rfl rfl rfl rfl rfl (by decide) (by decide) ?_
              refine h_ret rfl rfl ?_
              have g73 : -2147483648 ≤ (H1.1 1826 35) ∧ (H1.1 1826 35) ≤ 2147483647 := hrg31.1 1826 13 35 _ .int rfl rfl
              have g74 : -2147483648 ≤ (H1.1 1826 32) ∧ (H1.1 1826 32) ≤ 2147483647 := hrg31.1 1826 13 32 _ .int rfl rfl
              exact ⟨rfl, (fr_o (fr_o hf (by decide)) (by decide)), (by omega : (H.1 1826 30) ≤ (H1.1 1826 30)), (by omega : (H1.1 1826 30) ≤ (H.1 1826 29)), (by omega : 0 ≤ (H1.1 1826 35) ∧ (H1.1 1826 35) ≤ 5), (by omega : (H.1 1826 35) ≠ 0 → (H1.1 1826 35) = (H.1 1826 35)), (by omega : 0 ≤ (H1.1 1826 32) ∧ (H1.1 1826 32) ≤ 1000), (by omega : (H1.1 1826 35) = 0 → ((3 : Int) = 0 ∨ (H.1 1826 30) < (H1.1 1826 30)))⟩
          · refine h_run 2 (pc' := 228) (l' := [(0, .inr (.inr 1826)), (1, .inl c)]) (st' := [.inl 1, .inr (.inr 1826)]) rfl ?_
            refine h_puti (i := 271) (ci := 13) (k := 31) (a := 1826) (x := 1) rfl rfl rfl rfl rfl rfl (by decide) (by decide) ?_
            refine h_run 3 (pc' := 236) (l' := [(0, .inr (.inr 1826)), (1, .inl c)]) (st' := [.inr (.inl (H1.1 1826 33)), .inr (.inr 1826)]) rfl ?_
            have g75 : -9223372036854775808 ≤ (H1.1 1826 33) ∧ (H1.1 1826 33) ≤ 9223372036854775807 := hrg31.1 1826 13 33 _ .long rfl rfl
            refine h_run 4 (pc' := 244) (l' := [(0, .inr (.inr 1826)), (1, .inl c)]) (st' := [.inl 97, .inl 116, .inl 97, .inl 100, .inr (.inl (H1.1 1826 33)), .inr (.inr 1826)]) rfl ?_
            refine h_cs (i := 289) (j := 164) (M' := mt_164) (xs := [.inl 97, .inl 116, .inl 97, .inl 100]) (rest := [.inr (.inl (H1.1 1826 33)), .inr (.inr 1826)]) rfl rfl rfl rfl rfl (Nat.le_of_ble_eq_true rfl) (Nat.le_of_ble_eq_true rfl) (by omega) (m_word (by omega) (by decide)) ?_
            rintro _ _ ⟨⟨wv76, rfl⟩, rfl⟩
            refine h_run 0 (pc' := 247) (l' := [(0, .inr (.inr 1826)), (1, .inl c)]) (st' := [.inr (.inl wv76), .inr (.inl (H1.1 1826 33)), .inr (.inr 1826)]) rfl ?_
            refine h_run 1 (pc' := 248) (l' := [(0, .inr (.inr 1826)), (1, .inl c)]) (st' := [.inl (z_cmp (H1.1 1826 33) wv76), .inr (.inr 1826)]) rfl ?_
            refine h_zne (off := 7) (t := 255) rfl rfl (z_int _) (fun c77 => ?_) (fun c77 => ?_)
            · refine h_run 2 (pc' := 259) (l' := [(0, .inr (.inr 1826)), (1, .inl c)]) (st' := [.inr (.inl (H1.1 1826 33)), .inr (.inr 1826)]) rfl ?_
              refine h_run 4 (pc' := 266) (l' := [(0, .inr (.inr 1826)), (1, .inl c)]) (st' := [.inl 0, .inl 110, .inl 117, .inl 102, .inr (.inl (H1.1 1826 33)), .inr (.inr 1826)]) rfl ?_
              refine h_cs (i := 289) (j := 164) (M' := mt_164) (xs := [.inl 0, .inl 110, .inl 117, .inl 102]) (rest := [.inr (.inl (H1.1 1826 33)), .inr (.inr 1826)]) rfl rfl rfl rfl rfl (Nat.le_of_ble_eq_true rfl) (Nat.le_of_ble_eq_true rfl) (by omega) (m_word (by omega) (by decide)) ?_
              rintro _ _ ⟨⟨wv78, rfl⟩, rfl⟩
              refine h_run 0 (pc' := 269) (l' := [(0, .inr (.inr 1826)), (1, .inl c)]) (st' := [.inr (.inl wv78), .inr (.inl (H1.1 1826 33)), .inr (.inr 1826)]) rfl ?_
              refine h_run 1 (pc' := 270) (l' := [(0, .inr (.inr 1826)), (1, .inl c)]) (st' := [.inl (z_cmp (H1.1 1826 33) wv78), .inr (.inr 1826)]) rfl ?_
              refine h_zne (off := 7) (t := 277) rfl rfl (z_int _) (fun c79 => ?_) (fun c79 => ?_)
              · refine h_run 2 (pc' := 281) (l' := [(0, .inr (.inr 1826)), (1, .inl c)]) (st' := [.inr (.inl (H1.1 1826 33)), .inr (.inr 1826)]) rfl ?_
                refine h_run 4 (pc' := 289) (l' := [(0, .inr (.inr 1826)), (1, .inl c)]) (st' := [.inl 101, .inl 108, .inl 117, .inl 114, .inr (.inl (H1.1 1826 33)), .inr (.inr 1826)]) rfl ?_
                refine h_cs (i := 289) (j := 164) (M' := mt_164) (xs := [.inl 101, .inl 108, .inl 117, .inl 114]) (rest := [.inr (.inl (H1.1 1826 33)), .inr (.inr 1826)]) rfl rfl rfl rfl rfl (Nat.le_of_ble_eq_true rfl) (Nat.le_of_ble_eq_true rfl) (by omega) (m_word (by omega) (by decide)) ?_
                rintro _ _ ⟨⟨wv80, rfl⟩, rfl⟩
                refine h_run 0 (pc' := 292) (l' := [(0, .inr (.inr 1826)), (1, .inl c)]) (st' := [.inr (.inl wv80), .inr (.inl (H1.1 1826 33)), .inr (.inr 1826)]) rfl ?_
                refine h_run 1 (pc' := 293) (l' := [(0, .inr (.inr 1826)), (1, .inl c)]) (st' := [.inl (z_cmp (H1.1 1826 33) wv80), .inr (.inr 1826)]) rfl ?_
                refine h_zne (off := 7) (t := 300) rfl rfl (z_int _) (fun c81 => ?_) (fun c81 => ?_)
                · refine h_run 2 (pc' := 304) (l' := [(0, .inr (.inr 1826)), (1, .inl c)]) (st' := [.inr (.inl (H1.1 1826 33)), .inr (.inr 1826)]) rfl ?_
                  refine h_run 4 (pc' := 311) (l' := [(0, .inr (.inr 1826)), (1, .inl c)]) (st' := [.inl 0, .inl 119, .inl 97, .inl 108, .inr (.inl (H1.1 1826 33)), .inr (.inr 1826)]) rfl ?_
                  refine h_cs (i := 289) (j := 164) (M' := mt_164) (xs := [.inl 0, .inl 119, .inl 97, .inl 108]) (rest := [.inr (.inl (H1.1 1826 33)), .inr (.inr 1826)]) rfl rfl rfl rfl rfl (Nat.le_of_ble_eq_true rfl) (Nat.le_of_ble_eq_true rfl) (by omega) (m_word (by omega) (by decide)) ?_
                  rintro _ _ ⟨⟨wv82, rfl⟩, rfl⟩
                  refine h_run 0 (pc' := 314) (l' := [(0, .inr (.inr 1826)), (1, .inl c)]) (st' := [.inr (.inl wv82), .inr (.inl (H1.1 1826 33)), .inr (.inr 1826)]) rfl ?_
                  refine h_run 1 (pc' := 315) (l' := [(0, .inr (.inr 1826)), (1, .inl c)]) (st' := [.inl (z_cmp (H1.1 1826 33) wv82), .inr (.inr 1826)]) rfl ?_
                  refine h_zne (off := 8) (t := 323) rfl rfl (z_int _) (fun c83 => ?_) (fun c83 => ?_)
                  · refine h_run 2 (pc' := 327) (l' := [(0, .inr (.inr 1826)), (1, .inl c)]) (st' := [.inl 1, .inr (.inr 1826)]) rfl ?_
                    refine h_puti (i := 271) (ci := 13) (k := 31) (a := 1826) (x := 1) rfl rfl rfl rfl rfl rfl (by decide) (by decide) ?_
                    refine h_ret rfl rfl ?_
                    have g84 : -2147483648 ≤ (H1.1 1826 35) ∧ (H1.1 1826 35) ≤ 2147483647 := hrg31.1 1826 13 35 _ .int rfl rfl
                    have g85 : -2147483648 ≤ (H1.1 1826 32) ∧ (H1.1 1826 32) ≤ 2147483647 := hrg31.1 1826 13 32 _ .int rfl rfl
                    exact ⟨rfl, (fr_o (fr_o hf (by decide)) (by decide)), (by omega : (H.1 1826 30) ≤ (H1.1 1826 30)), (by omega : (H1.1 1826 30) ≤ (H.1 1826 29)), (by omega : 0 ≤ (H1.1 1826 35) ∧ (H1.1 1826 35) ≤ 5), (by omega : (H.1 1826 35) ≠ 0 → (H1.1 1826 35) = (H.1 1826 35)), (by omega : 0 ≤ (H1.1 1826 32) ∧ (H1.1 1826 32) ≤ 1000), (by omega : (H1.1 1826 35) = 0 → ((1 : Int) = 0 ∨ (H.1 1826 30) < (H1.1 1826 30)))⟩
                  · refine h_run 2 (pc' := 327) (l' := [(0, .inr (.inr 1826)), (1, .inl c)]) (st' := [.inl 6, .inr (.inr 1826)]) rfl ?_
                    refine h_puti (i := 271) (ci := 13) (k := 31) (a := 1826) (x := 6) rfl rfl rfl rfl rfl rfl (by decide) (by decide) ?_
                    refine h_ret rfl rfl ?_
                    have g86 : -2147483648 ≤ (H1.1 1826 35) ∧ (H1.1 1826 35) ≤ 2147483647 := hrg31.1 1826 13 35 _ .int rfl rfl
                    have g87 : -2147483648 ≤ (H1.1 1826 32) ∧ (H1.1 1826 32) ≤ 2147483647 := hrg31.1 1826 13 32 _ .int rfl rfl
                    exact ⟨rfl, (fr_o (fr_o hf (by decide)) (by decide)), (by omega : (H.1 1826 30) ≤ (H1.1 1826 30)), (by omega : (H1.1 1826 30) ≤ (H.1 1826 29)), (by omega : 0 ≤ (H1.1 1826 35) ∧ (H1.1 1826 35) ≤ 5), (by omega : (H.1 1826 35) ≠ 0 → (H1.1 1826 35) = (H.1 1826 35)), (by omega : 0 ≤ (H1.1 1826 32) ∧ (H1.1 1826 32) ≤ 1000), (by omega : (H1.1 1826 35) = 0 → ((6 : Int) = 0 ∨ (H.1 1826 30) < (H1.1 1826 30)))⟩
                · refine h_run 2 (pc' := 327) (l' := [(0, .inr (.inr 1826)), (1, .inl c)]) (st' := [.inl 5, .inr (.inr 1826)]) rfl ?_
                  refine h_puti (i := 271) (ci := 13) (k := 31) (a := 1826) (x := 5) rfl rfl rfl rfl rfl rfl (by decide) (by decide) ?_
                  refine h_ret rfl rfl ?_
                  have g88 : -2147483648 ≤ (H1.1 1826 35) ∧ (H1.1 1826 35) ≤ 2147483647 := hrg31.1 1826 13 35 _ .int rfl rfl
                  have g89 : -2147483648 ≤ (H1.1 1826 32) ∧ (H1.1 1826 32) ≤ 2147483647 := hrg31.1 1826 13 32 _ .int rfl rfl
                  exact ⟨rfl, (fr_o (fr_o hf (by decide)) (by decide)), (by omega : (H.1 1826 30) ≤ (H1.1 1826 30)), (by omega : (H1.1 1826 30) ≤ (H.1 1826 29)), (by omega : 0 ≤ (H1.1 1826 35) ∧ (H1.1 1826 35) ≤ 5), (by omega : (H.1 1826 35) ≠ 0 → (H1.1 1826 35) = (H.1 1826 35)), (by omega : 0 ≤ (H1.1 1826 32) ∧ (H1.1 1826 32) ≤ 1000), (by omega : (H1.1 1826 35) = 0 → ((5 : Int) = 0 ∨ (H.1 1826 30) < (H1.1 1826 30)))⟩
              · refine h_run 2 (pc' := 327) (l' := [(0, .inr (.inr 1826)), (1, .inl c)]) (st' := [.inl 4, .inr (.inr 1826)]) rfl ?_
                refine h_puti (i := 271) (ci := 13) (k := 31) (a := 1826) (x := 4) rfl rfl rfl rfl rfl rfl (by decide) (by decide) ?_
                refine h_ret rfl rfl ?_
                have g90 : -2147483648 ≤ (H1.1 1826 35) ∧ (H1.1 1826 35) ≤ 2147483647 := hrg31.1 1826 13 35 _ .int rfl rfl
                have g91 : -2147483648 ≤ (H1.1 1826 32) ∧ (H1.1 1826 32) ≤ 2147483647 := hrg31.1 1826 13 32 _ .int rfl rfl
                exact ⟨rfl, (fr_o (fr_o hf (by decide)) (by decide)), (by omega : (H.1 1826 30) ≤ (H1.1 1826 30)), (by omega : (H1.1 1826 30) ≤ (H.1 1826 29)), (by omega : 0 ≤ (H1.1 1826 35) ∧ (H1.1 1826 35) ≤ 5), (by omega : (H.1 1826 35) ≠ 0 → (H1.1 1826 35) = (H.1 1826 35)), (by omega : 0 ≤ (H1.1 1826 32) ∧ (H1.1 1826 32) ≤ 1000), (by omega : (H1.1 1826 35) = 0 → ((4 : Int) = 0 ∨ (H.1 1826 30) < (H1.1 1826 30)))⟩
            · refine h_run 2 (pc' := 327) (l' := [(0, .inr (.inr 1826)), (1, .inl c)]) (st' := [.inl 3, .inr (.inr 1826)]) rfl ?_
              refine h_puti (i := 271) (ci := 13) (k := 31) (a := 1826) (x := 3) rfl rfl rfl rfl rfl rfl (by decide) (by decide) ?_
              refine h_ret rfl rfl ?_
              have g92 : -2147483648 ≤ (H1.1 1826 35) ∧ (H1.1 1826 35) ≤ 2147483647 := hrg31.1 1826 13 35 _ .int rfl rfl
              have g93 : -2147483648 ≤ (H1.1 1826 32) ∧ (H1.1 1826 32) ≤ 2147483647 := hrg31.1 1826 13 32 _ .int rfl rfl
              exact ⟨rfl, (fr_o (fr_o hf (by decide)) (by decide)), (by omega : (H.1 1826 30) ≤ (H1.1 1826 30)), (by omega : (H1.1 1826 30) ≤ (H.1 1826 29)), (by omega : 0 ≤ (H1.1 1826 35) ∧ (H1.1 1826 35) ≤ 5), (by omega : (H.1 1826 35) ≠ 0 → (H1.1 1826 35) = (H.1 1826 35)), (by omega : 0 ≤ (H1.1 1826 32) ∧ (H1.1 1826 32) ≤ 1000), (by omega : (H1.1 1826 35) = 0 → ((3 : Int) = 0 ∨ (H.1 1826 30) < (H1.1 1826 30)))⟩
set_option maxRecDepth 100000 in
theorem m_next {zC : Nat → Option zsh} {d : Nat} (hd : 3 ≤ d) {H : hp}  (h0 : 0 ≤ (H.1 1826 30) ∧ (H.1 1826 30) ≤ (H.1 1826 29) ∧ (H.1 1826 29) ≤ 1000) (hw : 0 ≤ (H.1 1826 35) ∧ (H.1 1826 35) ≤ 5) (hst : 0 ≤ (H.1 1826 32) ∧ (H.1 1826 32) ≤ 1000) : hG (zs zC) d mt_165 0 (zargs 0 [.inr (.inr 1826)]) [] H (fun r H2 => r = none ∧ fr [30, 31, 32, 33, 35, 36] [] H H2 ∧ (H.1 1826 30) ≤ (H2.1 1826 30) ∧ (H2.1 1826 30) ≤ (H.1 1826 29) ∧ (0 ≤ (H2.1 1826 35) ∧ (H2.1 1826 35) ≤ 5) ∧ ((H.1 1826 35) ≠ 0 → (H2.1 1826 35) = (H.1 1826 35)) ∧ (0 ≤ (H2.1 1826 32) ∧ (H2.1 1826 32) ≤ 1000) ∧ ((H2.1 1826 35) = 0 → ((H2.1 1826 31) = 0 ∨ (H.1 1826 30) < (H2.1 1826 30)))) := by
  refine h_rng (fun hrg0 => ?_)
  refine h_run 0 (pc' := 0) (l' := [(0, .inr (.inr 1826))]) (st' := []) rfl ?_
  exact (m_next_cut hd h0 hw hst _).1 _ (fr_rf _ _ _) (by omega : (H.1 1826 30) ≤ (H.1 1826 30) ∧ (H.1 1826 30) ≤ (H.1 1826 29)) (by omega : (H.1 1826 35) = (H.1 1826 35)) (Nat.lt_succ_self _)

/-! want -/
set_option maxRecDepth 100000 in
theorem m_want {zC : Nat → Option zsh} {d : Nat} (hd : 4 ≤ d) {H : hp} {x : Int} (h0 : 0 ≤ (H.1 1826 30) ∧ (H.1 1826 30) ≤ (H.1 1826 29) ∧ (H.1 1826 29) ≤ 1000) (hw : 0 ≤ (H.1 1826 35) ∧ (H.1 1826 35) ≤ 5) (hst : 0 ≤ (H.1 1826 32) ∧ (H.1 1826 32) ≤ 1000) (hx : 0 ≤ x ∧ x ≤ 255) : hG (zs zC) d mt_166 0 (zargs 0 [.inr (.inr 1826), .inl x]) [] H (fun r H2 => r = none ∧ fr [30, 31, 32, 33, 35, 36] [] H H2 ∧ (H.1 1826 30) ≤ (H2.1 1826 30) ∧ (H2.1 1826 30) ≤ (H.1 1826 29) ∧ (0 ≤ (H2.1 1826 35) ∧ (H2.1 1826 35) ≤ 5) ∧ ((H.1 1826 35) ≠ 0 → (H2.1 1826 35) = (H.1 1826 35)) ∧ (0 ≤ (H2.1 1826 32) ∧ (H2.1 1826 32) ≤ 1000) ∧ ((H2.1 1826 35) = 0 → (H.1 1826 31) = x ∧ ((H2.1 1826 31) = 0 ∨ (H.1 1826 30) < (H2.1 1826 30)))) := by
  refine h_rng (fun hrg0 => ?_)
  refine h_run 0 (pc' := 0) (l' := [(0, .inr (.inr 1826)), (1, .inl x)]) (st' := []) rfl ?_
  refine h_run 1 (pc' := 1) (l' := [(0, .inr (.inr 1826)), (1, .inl x)]) (st' := [.inr (.inr 1826)]) rfl ?_
  have g1 : -2147483648 ≤ (H.1 1826 35) ∧ (H.1 1826 35) ≤ 2147483647 := hrg0.1 1826 13 35 _ .int rfl rfl
  refine h_cv (i := 293) (j := 158) (b := 1826) (M' := mt_158) (xs := []) (rest := []) rfl rfl rfl rfl rfl rfl (Nat.le_of_ble_eq_true rfl) (Nat.le_of_ble_eq_true rfl) (by omega) (m_good (by omega)) ?_
  rintro _ _ ⟨⟨rfl, b2⟩ | ⟨rfl, b2⟩, rfl⟩
  · have b2x : (H.1 1826 35) = 0 := b2
    refine h_run 0 (pc' := 4) (l' := [(0, .inr (.inr 1826)), (1, .inl x)]) (st' := [.inl 1]) rfl ?_
    refine h_zeq (off := 16) (t := 20) rfl rfl (by decide) (fun c => absurd c (by decide)) (fun _ => ?_)
    refine h_run 2 (pc' := 11) (l' := [(0, .inr (.inr 1826)), (1, .inl x)]) (st' := [.inl (H.1 1826 31)]) rfl ?_
    have g3 : -2147483648 ≤ (H.1 1826 31) ∧ (H.1 1826 31) ≤ 2147483647 := hrg0.1 1826 13 31 _ .int rfl rfl
    refine h_run 1 (pc' := 12) (l' := [(0, .inr (.inr 1826)), (1, .inl x)]) (st' := [.inl x, .inl (H.1 1826 31)]) rfl ?_
    refine h_ieq (off := 8) (t := 20) rfl rfl (by omega) (by omega) (fun c4 => ?_) (fun c4 => ?_)
    · refine h_run 1 (pc' := 21) (l' := [(0, .inr (.inr 1826)), (1, .inl x)]) (st' := [.inr (.inr 1826)]) rfl ?_
      refine h_cv (i := 293) (j := 158) (b := 1826) (M' := mt_158) (xs := []) (rest := []) rfl rfl rfl rfl rfl rfl (Nat.le_of_ble_eq_true rfl) (Nat.le_of_ble_eq_true rfl) (by omega) (m_good1 (by omega) (by omega : (H.1 1826 35) = 0)) ?_
      rintro _ _ ⟨rfl, rfl⟩
      refine h_run 0 (pc' := 24) (l' := [(0, .inr (.inr 1826)), (1, .inl x)]) (st' := [.inl 1]) rfl ?_
      refine h_zeq (off := 7) (t := 31) rfl rfl (by decide) (fun c => absurd c (by decide)) (fun _ => ?_)
      refine h_run 1 (pc' := 28) (l' := [(0, .inr (.inr 1826)), (1, .inl x)]) (st' := [.inr (.inr 1826)]) rfl ?_
      have g5 : -2147483648 ≤ (H.1 1826 30) ∧ (H.1 1826 30) ≤ 2147483647 := hrg0.1 1826 13 30 _ .int rfl rfl
      have g6 : -2147483648 ≤ (H.1 1826 29) ∧ (H.1 1826 29) ≤ 2147483647 := hrg0.1 1826 13 29 _ .int rfl rfl
      have g7 : -2147483648 ≤ (H.1 1826 32) ∧ (H.1 1826 32) ≤ 2147483647 := hrg0.1 1826 13 32 _ .int rfl rfl
      refine h_cv (i := 297) (j := 165) (b := 1826) (M' := mt_165) (xs := []) (rest := []) rfl rfl rfl rfl rfl rfl (Nat.le_of_ble_eq_true rfl) (Nat.le_of_ble_eq_true rfl) (by omega) (m_next (by omega) (by omega : 0 ≤ (H.1 1826 30) ∧ (H.1 1826 30) ≤ (H.1 1826 29) ∧ (H.1 1826 29) ≤ 1000) (by omega : 0 ≤ (H.1 1826 35) ∧ (H.1 1826 35) ≤ 5) (by omega : 0 ≤ (H.1 1826 32) ∧ (H.1 1826 32) ≤ 1000)) ?_
      rintro _ H8 ⟨rfl, hx8f, hx8a, hx8b, hx8c, -, hx8e, hx8g⟩
      refine h_rng (fun hrg9 => ?_)
      have hf10 : fr [30, 31, 32, 33, 35, 36] [] H H8 := fr_t (fr_rf _ _ _) hx8f (by decide) (by decide)
      replace hx8a : (H.1 1826 30) ≤ (H8.1 1826 30) := hx8a
      replace hx8b : (H8.1 1826 30) ≤ (H.1 1826 29) := hx8b
      replace hx8g : (H8.1 1826 35) = 0 → ((H8.1 1826 31) = 0 ∨ (H.1 1826 30) < (H8.1 1826 30)) := hx8g
      refine h_run 0 (pc' := 31) (l' := [(0, .inr (.inr 1826)), (1, .inl x)]) (st' := []) rfl ?_
      refine h_ret rfl rfl ?_
      have g11 : -2147483648 ≤ (H8.1 1826 30) ∧ (H8.1 1826 30) ≤ 2147483647 := hrg9.1 1826 13 30 _ .int rfl rfl
      have g12 : -2147483648 ≤ (H8.1 1826 35) ∧ (H8.1 1826 35) ≤ 2147483647 := hrg9.1 1826 13 35 _ .int rfl rfl
      have g13 : -2147483648 ≤ (H8.1 1826 32) ∧ (H8.1 1826 32) ≤ 2147483647 := hrg9.1 1826 13 32 _ .int rfl rfl
      have g14 : -2147483648 ≤ (H8.1 1826 31) ∧ (H8.1 1826 31) ≤ 2147483647 := hrg9.1 1826 13 31 _ .int rfl rfl
      have g15 : -2147483648 ≤ (H8.1 1826 29) ∧ (H8.1 1826 29) ≤ 2147483647 := hrg9.1 1826 13 29 _ .int rfl rfl
      have e16 : (H8.1 1826 29) = (H.1 1826 29) := hx8f.2.2 29 (by decide)
      exact ⟨rfl, hf10, (by omega : (H.1 1826 30) ≤ (H8.1 1826 30)), (by omega : (H8.1 1826 30) ≤ (H.1 1826 29)), (by omega : 0 ≤ (H8.1 1826 35) ∧ (H8.1 1826 35) ≤ 5), (by omega : (H.1 1826 35) ≠ 0 → (H8.1 1826 35) = (H.1 1826 35)), (by omega : 0 ≤ (H8.1 1826 32) ∧ (H8.1 1826 32) ≤ 1000), (by omega : (H8.1 1826 35) = 0 → (H.1 1826 31) = x ∧ ((H8.1 1826 31) = 0 ∨ (H.1 1826 30) < (H8.1 1826 30)))⟩
    · refine h_run 2 (pc' := 17) (l' := [(0, .inr (.inr 1826)), (1, .inl x)]) (st' := [.inl 2, .inr (.inr 1826)]) rfl ?_
      refine h_cv (i := 278) (j := 159) (b := 1826) (M' := mt_159) (xs := [.inl 2]) (rest := []) rfl rfl rfl rfl rfl rfl (Nat.le_of_ble_eq_true rfl) (Nat.le_of_ble_eq_true rfl) (by omega) (m_bad0 (by omega) (by omega) (by omega : (H.1 1826 35) = 0)) ?_
      rintro _ _ ⟨rfl, rfl⟩
      refine h_run 0 (pc' := 20) (l' := [(0, .inr (.inr 1826)), (1, .inl x)]) (st' := []) rfl ?_
      refine h_run 1 (pc' := 21) (l' := [(0, .inr (.inr 1826)), (1, .inl x)]) (st' := [.inr (.inr 1826)]) rfl ?_
      refine h_cv (i := 293) (j := 158) (b := 1826) (M' := mt_158) (xs := []) (rest := []) rfl rfl rfl rfl rfl rfl (Nat.le_of_ble_eq_true rfl) (Nat.le_of_ble_eq_true rfl) (by omega) (m_good0 (by omega) (by omega : (2 : Int) ≠ 0)) ?_
      rintro _ _ ⟨rfl, rfl⟩
      refine h_run 0 (pc' := 24) (l' := [(0, .inr (.inr 1826)), (1, .inl x)]) (st' := [.inl 0]) rfl ?_
      refine h_zeq (off := 7) (t := 31) rfl rfl (by decide) (fun _ => ?_) (fun c => absurd c (by decide))
      refine h_ret rfl rfl ?_
      have g17 : -2147483648 ≤ (H.1 1826 30) ∧ (H.1 1826 30) ≤ 2147483647 := hrg0.1 1826 13 30 _ .int rfl rfl
      have g18 : -2147483648 ≤ (H.1 1826 32) ∧ (H.1 1826 32) ≤ 2147483647 := hrg0.1 1826 13 32 _ .int rfl rfl
      have g19 : -2147483648 ≤ (H.1 1826 29) ∧ (H.1 1826 29) ≤ 2147483647 := hrg0.1 1826 13 29 _ .int rfl rfl
      exact ⟨rfl, (fr_o (fr_o (fr_rf _ _ _) (by decide)) (by decide)), (by omega : (H.1 1826 30) ≤ (H.1 1826 30)), (by omega : (H.1 1826 30) ≤ (H.1 1826 29)), (by omega : 0 ≤ (2 : Int) ∧ (2 : Int) ≤ 5), (by omega : (H.1 1826 35) ≠ 0 → (2 : Int) = (H.1 1826 35)), (by omega : 0 ≤ (H.1 1826 32) ∧ (H.1 1826 32) ≤ 1000), (by omega : (2 : Int) = 0 → (H.1 1826 31) = x ∧ ((H.1 1826 31) = 0 ∨ (H.1 1826 30) < (H.1 1826 30)))⟩
  · have b2x : (H.1 1826 35) ≠ 0 := b2
    refine h_run 0 (pc' := 4) (l' := [(0, .inr (.inr 1826)), (1, .inl x)]) (st' := [.inl 0]) rfl ?_
    refine h_zeq (off := 16) (t := 20) rfl rfl (by decide) (fun _ => ?_) (fun c => absurd c (by decide))
    refine h_run 1 (pc' := 21) (l' := [(0, .inr (.inr 1826)), (1, .inl x)]) (st' := [.inr (.inr 1826)]) rfl ?_
    refine h_cv (i := 293) (j := 158) (b := 1826) (M' := mt_158) (xs := []) (rest := []) rfl rfl rfl rfl rfl rfl (Nat.le_of_ble_eq_true rfl) (Nat.le_of_ble_eq_true rfl) (by omega) (m_good0 (by omega) (by omega : (H.1 1826 35) ≠ 0)) ?_
    rintro _ _ ⟨rfl, rfl⟩
    refine h_run 0 (pc' := 24) (l' := [(0, .inr (.inr 1826)), (1, .inl x)]) (st' := [.inl 0]) rfl ?_
    refine h_zeq (off := 7) (t := 31) rfl rfl (by decide) (fun _ => ?_) (fun c => absurd c (by decide))
    refine h_ret rfl rfl ?_
    have g20 : -2147483648 ≤ (H.1 1826 30) ∧ (H.1 1826 30) ≤ 2147483647 := hrg0.1 1826 13 30 _ .int rfl rfl
    have g21 : -2147483648 ≤ (H.1 1826 32) ∧ (H.1 1826 32) ≤ 2147483647 := hrg0.1 1826 13 32 _ .int rfl rfl
    have g22 : -2147483648 ≤ (H.1 1826 31) ∧ (H.1 1826 31) ≤ 2147483647 := hrg0.1 1826 13 31 _ .int rfl rfl
    have g23 : -2147483648 ≤ (H.1 1826 29) ∧ (H.1 1826 29) ≤ 2147483647 := hrg0.1 1826 13 29 _ .int rfl rfl
    exact ⟨rfl, (fr_rf _ _ _), (by omega : (H.1 1826 30) ≤ (H.1 1826 30)), (by omega : (H.1 1826 30) ≤ (H.1 1826 29)), (by omega : 0 ≤ (H.1 1826 35) ∧ (H.1 1826 35) ≤ 5), (by omega : (H.1 1826 35) ≠ 0 → (H.1 1826 35) = (H.1 1826 35)), (by omega : 0 ≤ (H.1 1826 32) ∧ (H.1 1826 32) ≤ 1000), (by omega : (H.1 1826 35) = 0 → (H.1 1826 31) = x ∧ ((H.1 1826 31) = 0 ∨ (H.1 1826 30) < (H.1 1826 30)))⟩

/-! find -/
set_option maxRecDepth 100000 in
theorem m_find_cut {zC : Nat → Option zsh} {d : Nat} (hd : 1 ≤ d) {H : hp} {c m : Nat} {N x : Int} (hc : zs zC c = some (.inr (.long, m))) (hN : 0 ≤ N ∧ N ≤ m ∧ m ≤ 100) (hx : -9223372036854775808 ≤ x ∧ x ≤ 9223372036854775807) : ∀ w : Nat, (∀ (i : Nat), ((i : Int) ≤ N) → (∀ k : Nat, k < i → H.1 c k ≠ x) → (N - i).toNat < w → hG (zs zC) d mt_167 3 [(0, .inr (.inr c)), (1, .inl N), (2, .inr (.inl x)), (4, .inl (i : Int))] [] H (fun r H2 => ((∃ k : Nat, r = some (.inl (k : Int)) ∧ (k : Int) < N ∧ H.1 c k = x) ∨ (r = some (.inl (-1)) ∧ ∀ k : Nat, (k : Int) < N → H.1 c k ≠ x)) ∧ H = H2)) := by
  intro w
  induction w with
  | zero => exact fun _ _ _ h => absurd h (Nat.not_lt_zero _)
  | succ w ih =>
    intro i hi hj hw
    refine h_rng (fun hrg1 => ?_)
    refine h_run 2 (pc' := 6) (l' := [(0, .inr (.inr c)), (1, .inl N), (2, .inr (.inl x)), (4, .inl (i : Int))]) (st' := [.inl N, .inl (i : Int)]) rfl ?_
    refine h_ige (off := 21) (t := 27) rfl rfl (by omega) (by omega) (fun c2 => ?_) (fun c2 => ?_)
    · refine h_run 1 (pc' := 28) (l' := [(0, .inr (.inr c)), (1, .inl N), (2, .inr (.inl x)), (4, .inl (i : Int))]) (st' := [.inl (-1)]) rfl ?_
      refine h_reti (x := (-1)) rfl rfl ?_
      exact ⟨Or.inr ⟨rfl, fun k hk => hj k (by omega)⟩, rfl⟩
    · refine h_run 2 (pc' := 12) (l' := [(0, .inr (.inr c)), (1, .inl N), (2, .inr (.inl x)), (4, .inl (i : Int))]) (st' := [.inl (i : Int), .inr (.inr c)]) rfl ?_
      refine h_lld (c := c) (j := i) (i := (i : Int)) rfl hc (by omega) rfl (by omega) ?_
      have g3 : -9223372036854775808 ≤ (H.1 c i) ∧ (H.1 c i) ≤ 9223372036854775807 := hrg1.2 c i m .long hc (by omega)
      refine h_run 0 (pc' := 13) (l' := [(0, .inr (.inr c)), (1, .inl N), (2, .inr (.inl x)), (4, .inl (i : Int))]) (st' := [.inr (.inl (H.1 c i))]) rfl ?_
      refine h_run 2 (pc' := 15) (l' := [(0, .inr (.inr c)), (1, .inl N), (2, .inr (.inl x)), (4, .inl (i : Int))]) (st' := [.inl (z_cmp (H.1 c i) x)]) rfl ?_
      refine h_zne (off := 6) (t := 21) rfl rfl (z_int _) (fun c4 => ?_) (fun c4 => ?_)
      · have h9 : H.1 c i ≠ x := fun q => absurd ((z_cmp_0 (by omega) (by omega)).mpr q) (by omega)
        refine h_run 2 (pc' := 3) (l' := [(0, .inr (.inr c)), (1, .inl N), (2, .inr (.inl x)), (4, .inl ((i : Int) + 1))]) (st' := []) rfl ?_
        rw [show ((i : Int) + 1) = (((i + 1) : Nat) : Int) by omega]
        exact ih (i + 1) (by omega) (z_less hj h9) (by omega : (N - (i + 1)).toNat < w)
      · have h9 : H.1 c i = x := (z_cmp_0 (by omega) (by omega)).mp (by omega)
        refine h_run 1 (pc' := 20) (l' := [(0, .inr (.inr c)), (1, .inl N), (2, .inr (.inl x)), (4, .inl (i : Int))]) (st' := [.inl (i : Int)]) rfl ?_
        refine h_reti (x := (i : Int)) rfl rfl ?_
        exact ⟨Or.inl ⟨i, rfl, by omega, h9⟩, rfl⟩
set_option maxRecDepth 100000 in
theorem m_find {zC : Nat → Option zsh} {d : Nat} (hd : 1 ≤ d) {H : hp} {c m : Nat} {N x : Int} (hc : zs zC c = some (.inr (.long, m))) (hN : 0 ≤ N ∧ N ≤ m ∧ m ≤ 100) (hx : -9223372036854775808 ≤ x ∧ x ≤ 9223372036854775807) : hG (zs zC) d mt_167 0 (zargs 0 [.inr (.inr c), .inl N, .inr (.inl x)]) [] H (fun r H2 => ((∃ k : Nat, r = some (.inl (k : Int)) ∧ (k : Int) < N ∧ H.1 c k = x) ∨ (r = some (.inl (-1)) ∧ ∀ k : Nat, (k : Int) < N → H.1 c k ≠ x)) ∧ H = H2) := by
  refine h_rng (fun hrg0 => ?_)
  refine h_run 0 (pc' := 0) (l' := [(0, .inr (.inr c)), (1, .inl N), (2, .inr (.inl x))]) (st' := []) rfl ?_
  refine h_run 2 (pc' := 3) (l' := [(0, .inr (.inr c)), (1, .inl N), (2, .inr (.inl x)), (4, .inl 0)]) (st' := []) rfl ?_
  exact (m_find_cut hd hc hN hx _) 0 (by omega) (fun k hk => absurd hk (Nat.not_lt_zero _)) (Nat.lt_succ_self _)

/-! countName -/
set_option maxRecDepth 100000 in
theorem m_countA {zC : Nat → Option zsh} {d : Nat} (hd : 3 ≤ d) {H : hp}  (hw : (H.1 1826 35) = 0) (hn : 0 ≤ (H.1 1826 40) ∧ (H.1 1826 40) ≤ 1000) (h4 : (H.1 1826 40) ≠ 40) : hG (zs zC) d mt_168 0 (zargs 0 [.inr (.inr 1826)]) [] H (fun r H2 => r = none ∧ H2 = zu H 1826 (up (H.1 1826) 40 ((H.1 1826 40) + 1))) := by
  refine h_rng (fun hrg0 => ?_)
  refine h_run 0 (pc' := 0) (l' := [(0, .inr (.inr 1826))]) (st' := []) rfl ?_
  refine h_run 1 (pc' := 1) (l' := [(0, .inr (.inr 1826))]) (st' := [.inr (.inr 1826)]) rfl ?_
  have g1 : -2147483648 ≤ (H.1 1826 35) ∧ (H.1 1826 35) ≤ 2147483647 := hrg0.1 1826 13 35 _ .int rfl rfl
  refine h_cv (i := 293) (j := 158) (b := 1826) (M' := mt_158) (xs := []) (rest := []) rfl rfl rfl rfl rfl rfl (Nat.le_of_ble_eq_true rfl) (Nat.le_of_ble_eq_true rfl) (by omega) (m_good1 (by omega) (by omega : (H.1 1826 35) = 0)) ?_
  rintro _ _ ⟨rfl, rfl⟩
  refine h_run 0 (pc' := 4) (l' := [(0, .inr (.inr 1826))]) (st' := [.inl 1]) rfl ?_
  refine h_zeq (off := 17) (t := 21) rfl rfl (by decide) (fun c => absurd c (by decide)) (fun _ => ?_)
  refine h_run 2 (pc' := 11) (l' := [(0, .inr (.inr 1826))]) (st' := [.inl (H.1 1826 40)]) rfl ?_
  have g2 : -2147483648 ≤ (H.1 1826 40) ∧ (H.1 1826 40) ≤ 2147483647 := hrg0.1 1826 13 40 _ .int rfl rfl
  refine h_run 1 (pc' := 13) (l' := [(0, .inr (.inr 1826))]) (st' := [.inl 40, .inl (H.1 1826 40)]) rfl ?_
  refine h_ine (off := 8) (t := 21) rfl rfl (by omega) (by decide) (fun c3 => ?_) (fun c3 => ?_)
  · refine h_run 3 (pc' := 26) (l' := [(0, .inr (.inr 1826))]) (st' := [.inl (H.1 1826 40), .inr (.inr 1826)]) rfl ?_
    refine h_run 2 (pc' := 28) (l' := [(0, .inr (.inr 1826))]) (st' := [.inl ((H.1 1826 40) + 1), .inr (.inr 1826)]) rfl ?_
    refine h_puti (i := 300) (ci := 13) (k := 40) (a := 1826) (x := ((H.1 1826 40) + 1)) rfl rfl rfl rfl rfl rfl (by decide) (by omega) ?_
    refine h_ret rfl rfl ?_
    exact ⟨rfl, rfl⟩
  · exfalso
    omega

/-! countName -/
set_option maxRecDepth 100000 in
theorem m_countB {zC : Nat → Option zsh} {d : Nat} (hd : 3 ≤ d) {H : hp}  (hw : (H.1 1826 35) = 0) (h4 : (H.1 1826 40) = 40) : hG (zs zC) d mt_168 0 (zargs 0 [.inr (.inr 1826)]) [] H (fun r H2 => r = none ∧ H2 = zu (zu (zu H 1826 (up (H.1 1826) 35 5)) 1826 (up ((zu H 1826 (up (H.1 1826) 35 5)).1 1826) 36 (H.1 1826 32))) 1826 (up ((zu (zu H 1826 (up (H.1 1826) 35 5)) 1826 (up ((zu H 1826 (up (H.1 1826) 35 5)).1 1826) 36 (H.1 1826 32))).1 1826) 40 ((H.1 1826 40) + 1))) := by
  refine h_rng (fun hrg0 => ?_)
  refine h_run 0 (pc' := 0) (l' := [(0, .inr (.inr 1826))]) (st' := []) rfl ?_
  refine h_run 1 (pc' := 1) (l' := [(0, .inr (.inr 1826))]) (st' := [.inr (.inr 1826)]) rfl ?_
  have g1 : -2147483648 ≤ (H.1 1826 35) ∧ (H.1 1826 35) ≤ 2147483647 := hrg0.1 1826 13 35 _ .int rfl rfl
  refine h_cv (i := 293) (j := 158) (b := 1826) (M' := mt_158) (xs := []) (rest := []) rfl rfl rfl rfl rfl rfl (Nat.le_of_ble_eq_true rfl) (Nat.le_of_ble_eq_true rfl) (by omega) (m_good1 (by omega) (by omega : (H.1 1826 35) = 0)) ?_
  rintro _ _ ⟨rfl, rfl⟩
  refine h_run 0 (pc' := 4) (l' := [(0, .inr (.inr 1826))]) (st' := [.inl 1]) rfl ?_
  refine h_zeq (off := 17) (t := 21) rfl rfl (by decide) (fun c => absurd c (by decide)) (fun _ => ?_)
  refine h_run 2 (pc' := 11) (l' := [(0, .inr (.inr 1826))]) (st' := [.inl (H.1 1826 40)]) rfl ?_
  have g2 : -2147483648 ≤ (H.1 1826 40) ∧ (H.1 1826 40) ≤ 2147483647 := hrg0.1 1826 13 40 _ .int rfl rfl
  refine h_run 1 (pc' := 13) (l' := [(0, .inr (.inr 1826))]) (st' := [.inl 40, .inl (H.1 1826 40)]) rfl ?_
  refine h_ine (off := 8) (t := 21) rfl rfl (by omega) (by decide) (fun c3 => ?_) (fun c3 => ?_)
  · exfalso
    omega
  · refine h_run 2 (pc' := 18) (l' := [(0, .inr (.inr 1826))]) (st' := [.inl 5, .inr (.inr 1826)]) rfl ?_
    refine h_cv (i := 278) (j := 159) (b := 1826) (M' := mt_159) (xs := [.inl 5]) (rest := []) rfl rfl rfl rfl rfl rfl (Nat.le_of_ble_eq_true rfl) (Nat.le_of_ble_eq_true rfl) (by omega) (m_bad0 (by omega) (by omega) (by omega : (H.1 1826 35) = 0)) ?_
    rintro _ _ ⟨rfl, rfl⟩
    refine h_run 0 (pc' := 21) (l' := [(0, .inr (.inr 1826))]) (st' := []) rfl ?_
    refine h_run 3 (pc' := 26) (l' := [(0, .inr (.inr 1826))]) (st' := [.inl (H.1 1826 40), .inr (.inr 1826)]) rfl ?_
    refine h_run 2 (pc' := 28) (l' := [(0, .inr (.inr 1826))]) (st' := [.inl ((H.1 1826 40) + 1), .inr (.inr 1826)]) rfl ?_
    refine h_puti (i := 300) (ci := 13) (k := 40) (a := 1826) (x := ((H.1 1826 40) + 1)) rfl rfl rfl rfl rfl rfl (by decide) (by omega) ?_
    refine h_ret rfl rfl ?_
    exact ⟨rfl, rfl⟩

/-! countName -/
set_option maxRecDepth 100000 in
theorem m_countC {zC : Nat → Option zsh} {d : Nat} (hd : 3 ≤ d) {H : hp}  (hw : (H.1 1826 35) ≠ 0) (hn : 0 ≤ (H.1 1826 40) ∧ (H.1 1826 40) ≤ 1000) : hG (zs zC) d mt_168 0 (zargs 0 [.inr (.inr 1826)]) [] H (fun r H2 => r = none ∧ H2 = zu H 1826 (up (H.1 1826) 40 ((H.1 1826 40) + 1))) := by
  refine h_rng (fun hrg0 => ?_)
  refine h_run 0 (pc' := 0) (l' := [(0, .inr (.inr 1826))]) (st' := []) rfl ?_
  refine h_run 1 (pc' := 1) (l' := [(0, .inr (.inr 1826))]) (st' := [.inr (.inr 1826)]) rfl ?_
  have g1 : -2147483648 ≤ (H.1 1826 35) ∧ (H.1 1826 35) ≤ 2147483647 := hrg0.1 1826 13 35 _ .int rfl rfl
  refine h_cv (i := 293) (j := 158) (b := 1826) (M' := mt_158) (xs := []) (rest := []) rfl rfl rfl rfl rfl rfl (Nat.le_of_ble_eq_true rfl) (Nat.le_of_ble_eq_true rfl) (by omega) (m_good0 (by omega) (by omega : (H.1 1826 35) ≠ 0)) ?_
  rintro _ _ ⟨rfl, rfl⟩
  refine h_run 0 (pc' := 4) (l' := [(0, .inr (.inr 1826))]) (st' := [.inl 0]) rfl ?_
  refine h_zeq (off := 17) (t := 21) rfl rfl (by decide) (fun _ => ?_) (fun c => absurd c (by decide))
  refine h_run 3 (pc' := 26) (l' := [(0, .inr (.inr 1826))]) (st' := [.inl (H.1 1826 40), .inr (.inr 1826)]) rfl ?_
  have g2 : -2147483648 ≤ (H.1 1826 40) ∧ (H.1 1826 40) ≤ 2147483647 := hrg0.1 1826 13 40 _ .int rfl rfl
  refine h_run 2 (pc' := 28) (l' := [(0, .inr (.inr 1826))]) (st' := [.inl ((H.1 1826 40) + 1), .inr (.inr 1826)]) rfl ?_
  refine h_puti (i := 300) (ci := 13) (k := 40) (a := 1826) (x := ((H.1 1826 40) + 1)) rfl rfl rfl rfl rfl rfl (by decide) (by omega) ?_
  refine h_ret rfl rfl ?_
  exact ⟨rfl, rfl⟩
