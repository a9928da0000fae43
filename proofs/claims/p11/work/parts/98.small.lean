/-! switches; the reference's small methods -/
section HS
variable {zC : Nat → Option zsh} {d : Nat} {M : am_M} {pc : Nat} {l : zl} {st : List zv} {H : hp} {Q : Option zv → hp → Prop}
theorem h_tout {dflt lo hi : Int} {offs : Array Int} {len t : Nat} {x : Int} (hf : am_find pc M.2.2.2.2.2.1 = some (.tableswitch dflt lo hi offs, len)) (hx : -2147483648 ≤ x ∧ x ≤ 2147483647) (h : x < lo ∨ hi < x) (ht : am_tgt pc dflt = some t) (k : hG (zs zC) d M t l st H Q) : hG (zs zC) d M pc l (.inl x :: st) H Q := by
  refine h_same (fun S lc Q' hS g => ?_) k
  exact G_swo hf (by rw [z_t hx]; exact h) ht g
theorem h_tin {dflt lo hi off : Int} {offs : Array Int} {len k t : Nat} {x : Int} (hf : am_find pc M.2.2.2.2.2.1 = some (.tableswitch dflt lo hi offs, len)) (hx : -2147483648 ≤ x ∧ x ≤ 2147483647) (h : x = lo + (k : Int)) (hk : lo + (k : Int) ≤ hi) (ho : offs.toList[k]? = some off) (ht : am_tgt pc off = some t) (kk : hG (zs zC) d M t l st H Q) : hG (zs zC) d M pc l (.inl x :: st) H Q := by
  refine h_same (fun S lc Q' hS g => ?_) kk
  refine G_ps 1 (pc' := t) (l' := lc) (st' := st.map zc) ?_ g
  unfold am_ps
  rw [hf]
  dsimp only
  have h1 : am_pure M.2.2.1 (.tableswitch dflt lo hi offs) len pc lc ((.inl x :: st : List zv).map zc) = some (t, lc, st.map zc) := by
    show (if (Int32.ofInt x).toInt < lo ∨ hi < (Int32.ofInt x).toInt then (am_tgt pc dflt).map fun t => (t, lc, st.map zc) else match offs.toList[((Int32.ofInt x).toInt - lo).toNat]? with | some off => (am_tgt pc off).map fun t => (t, lc, st.map zc) | none => none) = _
    rw [z_t hx, if_neg (by omega), show (x - lo).toNat = k by omega, ho]
    show (am_tgt pc off).map _ = _
    rw [ht]
    rfl
  rw [h1]
  rfl
end HS

/-! fault -/
set_option maxRecDepth 100000 in
theorem m_fault {zC : Nat → Option zsh} {d : Nat} (hd : 1 ≤ d) {H : hp}   : hG (zs zC) d mt_193 0 (zargs 0 [.inr (.inr 1826)]) [] H (fun r9 H2 => (∃ r0 : Int, r9 = some (.inl r0)) ∧ H = H2) := by
  refine h_rng (fun hrg0 => ?_)
  refine h_run 0 (pc' := 0) (l' := [(0, .inr (.inr 1826))]) (st' := []) rfl ?_
  refine h_run 2 (pc' := 4) (l' := [(0, .inr (.inr 1826))]) (st' := [.inl (H.1 1826 34)]) rfl ?_
  have g1 : -2147483648 ≤ (H.1 1826 34) ∧ (H.1 1826 34) ≤ 2147483647 := hrg0.1 1826 13 34 _ .int rfl rfl
  refine h_reti (x := (H.1 1826 34)) rfl rfl ?_
  exact ⟨⟨_, rfl⟩, rfl⟩

/-! steps -/
set_option maxRecDepth 100000 in
theorem m_steps {zC : Nat → Option zsh} {d : Nat} (hd : 1 ≤ d) {H : hp}   : hG (zs zC) d mt_202 0 (zargs 0 [.inr (.inr 1826)]) [] H (fun r9 H2 => (∃ r0 : Int, r9 = some (.inl r0)) ∧ H = H2) := by
  refine h_rng (fun hrg0 => ?_)
  refine h_run 0 (pc' := 0) (l' := [(0, .inr (.inr 1826))]) (st' := []) rfl ?_
  refine h_run 2 (pc' := 4) (l' := [(0, .inr (.inr 1826))]) (st' := [.inl (H.1 1826 57)]) rfl ?_
  have g1 : -2147483648 ≤ (H.1 1826 57) ∧ (H.1 1826 57) ≤ 2147483647 := hrg0.1 1826 13 57 _ .int rfl rfl
  refine h_reti (x := (H.1 1826 57)) rfl rfl ?_
  exact ⟨⟨_, rfl⟩, rfl⟩

/-! printed -/
set_option maxRecDepth 100000 in
theorem m_printed {zC : Nat → Option zsh} {d : Nat} (hd : 1 ≤ d) {H : hp} {x : Int} (hx : -2147483648 ≤ x ∧ x ≤ 2147483647) (ho : (H.1 1826 59) ≤ 8000) : hG (zs zC) d mt_207 0 (zargs 0 [.inr (.inr 1826), .inl x]) [] H (fun r9 H2 => (∃ r0 : Int, r9 = some (.inl r0)) ∧ H = H2) := by
  refine h_rng (fun hrg0 => ?_)
  refine h_run 0 (pc' := 0) (l' := [(0, .inr (.inr 1826)), (1, .inl x)]) (st' := []) rfl ?_
  refine h_run 1 (pc' := 1) (l' := [(0, .inr (.inr 1826)), (1, .inl x)]) (st' := [.inl x]) rfl ?_
  refine h_zlt (off := 20) (t := 21) rfl rfl (by omega) (fun c1 => ?_) (fun c1 => ?_)
  · refine h_run 1 (pc' := 22) (l' := [(0, .inr (.inr 1826)), (1, .inl x)]) (st' := [.inl (-1)]) rfl ?_
    refine h_reti (x := (-1)) rfl rfl ?_
    exact ⟨⟨_, rfl⟩, rfl⟩
  · refine h_run 3 (pc' := 9) (l' := [(0, .inr (.inr 1826)), (1, .inl x)]) (st' := [.inl (H.1 1826 59), .inl x]) rfl ?_
    have g2 : -2147483648 ≤ (H.1 1826 59) ∧ (H.1 1826 59) ≤ 2147483647 := hrg0.1 1826 13 59 _ .int rfl rfl
    refine h_ige (off := 12) (t := 21) rfl rfl (by omega) (by omega) (fun c3 => ?_) (fun c3 => ?_)
    · refine h_run 1 (pc' := 22) (l' := [(0, .inr (.inr 1826)), (1, .inl x)]) (st' := [.inl (-1)]) rfl ?_
      refine h_reti (x := (-1)) rfl rfl ?_
      exact ⟨⟨_, rfl⟩, rfl⟩
    · refine h_run 3 (pc' := 17) (l' := [(0, .inr (.inr 1826)), (1, .inl x)]) (st' := [.inl x, .inr (.inr 1858)]) rfl ?_
      refine h_bld (c := 1858) (j := (x).toNat) (i := x) (Or.inl rfl) rfl rfl (by decide) (by omega) (by omega) ?_
      have g4 : -128 ≤ (H.1 1858 (x).toNat) ∧ (H.1 1858 (x).toNat) ≤ 127 := hrg0.2 1858 (x).toNat 8000 .byte rfl (by omega)
      refine h_run 0 (pc' := 18) (l' := [(0, .inr (.inr 1826)), (1, .inl x)]) (st' := [.inl (H.1 1858 (x).toNat)]) rfl ?_
      refine h_run 1 (pc' := 22) (l' := [(0, .inr (.inr 1826)), (1, .inl x)]) (st' := [.inl (H.1 1858 (x).toNat)]) rfl ?_
      refine h_reti (x := (H.1 1858 (x).toNat)) rfl rfl ?_
      exact ⟨⟨_, rfl⟩, rfl⟩

/-! count -/
set_option maxRecDepth 100000 in
theorem m_count {zC : Nat → Option zsh} {d : Nat} (hd : 1 ≤ d) {H : hp} {x : Int} (hx : -2147483648 ≤ x ∧ x ≤ 2147483647) : hG (zs zC) d mt_194 0 (zargs 0 [.inr (.inr 1826), .inl x]) [] H (fun r9 H2 => (∃ r0 : Int, r9 = some (.inl r0)) ∧ H = H2) := by
  refine h_rng (fun hrg0 => ?_)
  refine h_run 0 (pc' := 0) (l' := [(0, .inr (.inr 1826)), (1, .inl x)]) (st' := []) rfl ?_
  refine h_run 1 (pc' := 1) (l' := [(0, .inr (.inr 1826)), (1, .inl x)]) (st' := [.inl x]) rfl ?_
  rcases (show x < 0 ∨ 7 < x ∨ x = 0 ∨ x = 1 ∨ x = 2 ∨ x = 3 ∨ x = 4 ∨ x = 5 ∨ x = 6 ∨ x = 7 by omega) with c1 | c1 | c1 | c1 | c1 | c1 | c1 | c1 | c1 | c1
  · refine h_tout (t := 101) rfl (by omega) (Or.inl c1) rfl ?_
    refine h_run 1 (pc' := 103) (l' := [(0, .inr (.inr 1826)), (1, .inl x)]) (st' := [.inl (-102)]) rfl ?_
    refine h_reti (x := (-102)) rfl rfl ?_
    exact ⟨⟨_, rfl⟩, rfl⟩
  · refine h_tout (t := 101) rfl (by omega) (Or.inr c1) rfl ?_
    refine h_run 1 (pc' := 103) (l' := [(0, .inr (.inr 1826)), (1, .inl x)]) (st' := [.inl (-102)]) rfl ?_
    refine h_reti (x := (-102)) rfl rfl ?_
    exact ⟨⟨_, rfl⟩, rfl⟩
  · refine h_tin (k := 0) (t := 48) rfl (by omega) (show x = 0 + ((0 : Nat) : Int) by omega) (by decide) rfl rfl ?_
    refine h_run 2 (pc' := 52) (l' := [(0, .inr (.inr 1826)), (1, .inl x)]) (st' := [.inl (H.1 1826 1)]) rfl ?_
    have g2 : -2147483648 ≤ (H.1 1826 1) ∧ (H.1 1826 1) ≤ 2147483647 := hrg0.1 1826 13 1 _ .int rfl rfl
    refine h_reti (x := (H.1 1826 1)) rfl rfl ?_
    exact ⟨⟨_, rfl⟩, rfl⟩
  · refine h_tin (k := 1) (t := 53) rfl (by omega) (show x = 0 + ((1 : Nat) : Int) by omega) (by decide) rfl rfl ?_
    refine h_run 2 (pc' := 57) (l' := [(0, .inr (.inr 1826)), (1, .inl x)]) (st' := [.inl (H.1 1826 3)]) rfl ?_
    have g3 : -2147483648 ≤ (H.1 1826 3) ∧ (H.1 1826 3) ≤ 2147483647 := hrg0.1 1826 13 3 _ .int rfl rfl
    refine h_reti (x := (H.1 1826 3)) rfl rfl ?_
    exact ⟨⟨_, rfl⟩, rfl⟩
  · refine h_tin (k := 2) (t := 58) rfl (by omega) (show x = 0 + ((2 : Nat) : Int) by omega) (by decide) rfl rfl ?_
    refine h_run 2 (pc' := 62) (l' := [(0, .inr (.inr 1826)), (1, .inl x)]) (st' := [.inl (H.1 1826 8)]) rfl ?_
    have g4 : -2147483648 ≤ (H.1 1826 8) ∧ (H.1 1826 8) ≤ 2147483647 := hrg0.1 1826 13 8 _ .int rfl rfl
    refine h_reti (x := (H.1 1826 8)) rfl rfl ?_
    exact ⟨⟨_, rfl⟩, rfl⟩
  · refine h_tin (k := 3) (t := 63) rfl (by omega) (show x = 0 + ((3 : Nat) : Int) by omega) (by decide) rfl rfl ?_
    refine h_run 2 (pc' := 67) (l' := [(0, .inr (.inr 1826)), (1, .inl x)]) (st' := [.inl (H.1 1826 13)]) rfl ?_
    have g5 : -2147483648 ≤ (H.1 1826 13) ∧ (H.1 1826 13) ≤ 2147483647 := hrg0.1 1826 13 13 _ .int rfl rfl
    refine h_reti (x := (H.1 1826 13)) rfl rfl ?_
    exact ⟨⟨_, rfl⟩, rfl⟩
  · refine h_tin (k := 4) (t := 68) rfl (by omega) (show x = 0 + ((4 : Nat) : Int) by omega) (by decide) rfl rfl ?_
    refine h_run 2 (pc' := 72) (l' := [(0, .inr (.inr 1826)), (1, .inl x)]) (st' := [.inl (H.1 1826 19)]) rfl ?_
    have g6 : -2147483648 ≤ (H.1 1826 19) ∧ (H.1 1826 19) ≤ 2147483647 := hrg0.1 1826 13 19 _ .int rfl rfl
    refine h_reti (x := (H.1 1826 19)) rfl rfl ?_
    exact ⟨⟨_, rfl⟩, rfl⟩
  · refine h_tin (k := 5) (t := 73) rfl (by omega) (show x = 0 + ((5 : Nat) : Int) by omega) (by decide) rfl rfl ?_
    refine h_run 2 (pc' := 77) (l' := [(0, .inr (.inr 1826)), (1, .inl x)]) (st' := [.inl (H.1 1826 77)]) rfl ?_
    have g7 : -2147483648 ≤ (H.1 1826 77) ∧ (H.1 1826 77) ≤ 2147483647 := hrg0.1 1826 13 77 _ .int rfl rfl
    refine h_reti (x := (H.1 1826 77)) rfl rfl ?_
    exact ⟨⟨_, rfl⟩, rfl⟩
  · refine h_tin (k := 6) (t := 78) rfl (by omega) (show x = 0 + ((6 : Nat) : Int) by omega) (by decide) rfl rfl ?_
    refine h_run 2 (pc' := 82) (l' := [(0, .inr (.inr 1826)), (1, .inl x)]) (st' := [.inl (H.1 1826 76)]) rfl ?_
    have g8 : -2147483648 ≤ (H.1 1826 76) ∧ (H.1 1826 76) ≤ 2147483647 := hrg0.1 1826 13 76 _ .int rfl rfl
    refine h_reti (x := (H.1 1826 76)) rfl rfl ?_
    exact ⟨⟨_, rfl⟩, rfl⟩
  · refine h_tin (k := 7) (t := 83) rfl (by omega) (show x = 0 + ((7 : Nat) : Int) by omega) (by decide) rfl rfl ?_
    refine h_run 2 (pc' := 87) (l' := [(0, .inr (.inr 1826)), (1, .inl x)]) (st' := [.inl (H.1 1826 77)]) rfl ?_
    have g9 : -2147483648 ≤ (H.1 1826 77) ∧ (H.1 1826 77) ≤ 2147483647 := hrg0.1 1826 13 77 _ .int rfl rfl
    refine h_zle (off := 12) (t := 99) rfl rfl (by omega) (fun c10 => ?_) (fun c10 => ?_)
    · refine h_run 1 (pc' := 100) (l' := [(0, .inr (.inr 1826)), (1, .inl x)]) (st' := [.inl 0]) rfl ?_
      refine h_reti (x := 0) rfl rfl ?_
      exact ⟨⟨_, rfl⟩, rfl⟩
    · refine h_run 3 (pc' := 95) (l' := [(0, .inr (.inr 1826)), (1, .inl x)]) (st' := [.inl 0, .inr (.inr 1878)]) rfl ?_
      refine h_ild (c := 1878) (j := 0) (i := 0) rfl rfl (by decide) rfl (by omega) ?_
      have g11 : -2147483648 ≤ (H.1 1878 0) ∧ (H.1 1878 0) ≤ 2147483647 := hrg0.2 1878 0 1 .int rfl (by omega)
      refine h_run 0 (pc' := 96) (l' := [(0, .inr (.inr 1826)), (1, .inl x)]) (st' := [.inl (H.1 1878 0)]) rfl ?_
      refine h_run 1 (pc' := 100) (l' := [(0, .inr (.inr 1826)), (1, .inl x)]) (st' := [.inl (H.1 1878 0)]) rfl ?_
      refine h_reti (x := (H.1 1878 0)) rfl rfl ?_
      exact ⟨⟨_, rfl⟩, rfl⟩

/-! about -/
set_option maxRecDepth 100000 in
theorem m_about {zC : Nat → Option zsh} {d : Nat} (hd : 1 ≤ d) {H : hp} {x y : Int} (hx : -2147483648 ≤ x ∧ x ≤ 2147483647) (hy : -2147483648 ≤ y ∧ y ≤ 2147483647) (hl : (H.1 1826 19) ≤ 16) : hG (zs zC) d mt_195 0 (zargs 0 [.inr (.inr 1826), .inl x, .inl y]) [] H (fun r9 H2 => (∃ r0 : Int, r9 = some (.inl r0)) ∧ H = H2) := by
  refine h_rng (fun hrg0 => ?_)
  refine h_run 0 (pc' := 0) (l' := [(0, .inr (.inr 1826)), (1, .inl x), (2, .inl y)]) (st' := []) rfl ?_
  refine h_run 1 (pc' := 1) (l' := [(0, .inr (.inr 1826)), (1, .inl x), (2, .inl y)]) (st' := [.inl x]) rfl ?_
  refine h_zlt (off := 11) (t := 12) rfl rfl (by omega) (fun c1 => ?_) (fun c1 => ?_)
  · refine h_run 1 (pc' := 14) (l' := [(0, .inr (.inr 1826)), (1, .inl x), (2, .inl y)]) (st' := [.inl (-101)]) rfl ?_
    refine h_reti (x := (-101)) rfl rfl ?_
    exact ⟨⟨_, rfl⟩, rfl⟩
  · refine h_run 3 (pc' := 9) (l' := [(0, .inr (.inr 1826)), (1, .inl x), (2, .inl y)]) (st' := [.inl (H.1 1826 19), .inl x]) rfl ?_
    have g2 : -2147483648 ≤ (H.1 1826 19) ∧ (H.1 1826 19) ≤ 2147483647 := hrg0.1 1826 13 19 _ .int rfl rfl
    refine h_ilt (off := 6) (t := 15) rfl rfl (by omega) (by omega) (fun c3 => ?_) (fun c3 => ?_)
    · refine h_run 1 (pc' := 16) (l' := [(0, .inr (.inr 1826)), (1, .inl x), (2, .inl y)]) (st' := [.inl y]) rfl ?_
      rcases (show y < 0 ∨ 3 < y ∨ y = 0 ∨ y = 1 ∨ y = 2 ∨ y = 3 by omega) with c4 | c4 | c4 | c4 | c4 | c4
      · refine h_tout (t := 82) rfl (by omega) (Or.inl c4) rfl ?_
        refine h_run 1 (pc' := 84) (l' := [(0, .inr (.inr 1826)), (1, .inl x), (2, .inl y)]) (st' := [.inl (-102)]) rfl ?_
        refine h_reti (x := (-102)) rfl rfl ?_
        exact ⟨⟨_, rfl⟩, rfl⟩
      · refine h_tout (t := 82) rfl (by omega) (Or.inr c4) rfl ?_
        refine h_run 1 (pc' := 84) (l' := [(0, .inr (.inr 1826)), (1, .inl x), (2, .inl y)]) (st' := [.inl (-102)]) rfl ?_
        refine h_reti (x := (-102)) rfl rfl ?_
        exact ⟨⟨_, rfl⟩, rfl⟩
      · refine h_tin (k := 0) (t := 48) rfl (by omega) (show y = 0 + ((0 : Nat) : Int) by omega) (by decide) rfl rfl ?_
        refine h_run 3 (pc' := 53) (l' := [(0, .inr (.inr 1826)), (1, .inl x), (2, .inl y)]) (st' := [.inl x, .inr (.inr 1847)]) rfl ?_
        refine h_ild (c := 1847) (j := (x).toNat) (i := x) rfl rfl (by decide) (by omega) (by omega) ?_
        have g5 : -2147483648 ≤ (H.1 1847 (x).toNat) ∧ (H.1 1847 (x).toNat) ≤ 2147483647 := hrg0.2 1847 (x).toNat 16 .int rfl (by omega)
        refine h_run 0 (pc' := 54) (l' := [(0, .inr (.inr 1826)), (1, .inl x), (2, .inl y)]) (st' := [.inl (H.1 1847 (x).toNat)]) rfl ?_
        refine h_reti (x := (H.1 1847 (x).toNat)) rfl rfl ?_
        exact ⟨⟨_, rfl⟩, rfl⟩
      · refine h_tin (k := 1) (t := 55) rfl (by omega) (show y = 0 + ((1 : Nat) : Int) by omega) (by decide) rfl rfl ?_
        refine h_run 3 (pc' := 60) (l' := [(0, .inr (.inr 1826)), (1, .inl x), (2, .inl y)]) (st' := [.inl x, .inr (.inr 1845)]) rfl ?_
        refine h_ild (c := 1845) (j := (x).toNat) (i := x) rfl rfl (by decide) (by omega) (by omega) ?_
        have g6 : -2147483648 ≤ (H.1 1845 (x).toNat) ∧ (H.1 1845 (x).toNat) ≤ 2147483647 := hrg0.2 1845 (x).toNat 16 .int rfl (by omega)
        refine h_run 0 (pc' := 61) (l' := [(0, .inr (.inr 1826)), (1, .inl x), (2, .inl y)]) (st' := [.inl (H.1 1845 (x).toNat)]) rfl ?_
        refine h_reti (x := (H.1 1845 (x).toNat)) rfl rfl ?_
        exact ⟨⟨_, rfl⟩, rfl⟩
      · refine h_tin (k := 2) (t := 62) rfl (by omega) (show y = 0 + ((2 : Nat) : Int) by omega) (by decide) rfl rfl ?_
        refine h_run 5 (pc' := 69) (l' := [(0, .inr (.inr 1826)), (1, .inl x), (2, .inl y)]) (st' := [.inl (2 * x), .inr (.inr 1843)]) rfl ?_
        refine h_ild (c := 1843) (j := ((2 * x)).toNat) (i := (2 * x)) rfl rfl (by decide) (by omega) (by omega) ?_
        have g7 : -2147483648 ≤ (H.1 1843 ((2 * x)).toNat) ∧ (H.1 1843 ((2 * x)).toNat) ≤ 2147483647 := hrg0.2 1843 ((2 * x)).toNat 32 .int rfl (by omega)
        refine h_run 0 (pc' := 70) (l' := [(0, .inr (.inr 1826)), (1, .inl x), (2, .inl y)]) (st' := [.inl (H.1 1843 ((2 * x)).toNat)]) rfl ?_
        refine h_reti (x := (H.1 1843 ((2 * x)).toNat)) rfl rfl ?_
        exact ⟨⟨_, rfl⟩, rfl⟩
      · refine h_tin (k := 3) (t := 71) rfl (by omega) (show y = 0 + ((3 : Nat) : Int) by omega) (by decide) rfl rfl ?_
        refine h_run 7 (pc' := 80) (l' := [(0, .inr (.inr 1826)), (1, .inl x), (2, .inl y)]) (st' := [.inl ((2 * x) + 1), .inr (.inr 1843)]) rfl ?_
        refine h_ild (c := 1843) (j := (((2 * x) + 1)).toNat) (i := ((2 * x) + 1)) rfl rfl (by decide) (by omega) (by omega) ?_
        have g8 : -2147483648 ≤ (H.1 1843 (((2 * x) + 1)).toNat) ∧ (H.1 1843 (((2 * x) + 1)).toNat) ≤ 2147483647 := hrg0.2 1843 (((2 * x) + 1)).toNat 32 .int rfl (by omega)
        refine h_run 0 (pc' := 81) (l' := [(0, .inr (.inr 1826)), (1, .inl x), (2, .inl y)]) (st' := [.inl (H.1 1843 (((2 * x) + 1)).toNat)]) rfl ?_
        refine h_reti (x := (H.1 1843 (((2 * x) + 1)).toNat)) rfl rfl ?_
        exact ⟨⟨_, rfl⟩, rfl⟩
    · refine h_run 1 (pc' := 14) (l' := [(0, .inr (.inr 1826)), (1, .inl x), (2, .inl y)]) (st' := [.inl (-101)]) rfl ?_
      refine h_reti (x := (-101)) rfl rfl ?_
      exact ⟨⟨_, rfl⟩, rfl⟩

/-! end -/
set_option maxRecDepth 100000 in
theorem m_end {zC : Nat → Option zsh} {d : Nat} (hd : 1 ≤ d) {H : hp} {x : Int} (hx : -2147483648 ≤ x ∧ x ≤ 2147483647) (ht : 0 ≤ (H.1 1826 28) ∧ (H.1 1826 28) ≤ 1000) : hG (zs zC) d mt_190 0 (zargs 0 [.inr (.inr 1826), .inl x]) [] H (fun r9 H2 => r9 = none ∧ fr [0, 28] [] H H2 ∧ (((H2.1 1826 0) = 1 ∧ (H2.1 1826 28) = (H.1 1826 28) ∧ (x < 0 ∨ (H.1 1826 28) < x)) ∨ ((H2.1 1826 0) = 0 ∧ (H2.1 1826 28) = x ∧ 0 ≤ x ∧ x ≤ (H.1 1826 28)))) := by
  refine h_rng (fun hrg0 => ?_)
  refine h_run 0 (pc' := 0) (l' := [(0, .inr (.inr 1826)), (1, .inl x)]) (st' := []) rfl ?_
  refine h_run 2 (pc' := 2) (l' := [(0, .inr (.inr 1826)), (1, .inl x)]) (st' := [.inl 0, .inr (.inr 1826)]) rfl ?_
  refine h_puti (i := 241) (ci := 13) (k := 0) (a := 1826) (x := 0) rfl rfl rfl rfl rfl rfl (by decide) (by decide) ?_
  refine h_run 1 (pc' := 6) (l' := [(0, .inr (.inr 1826)), (1, .inl x)]) (st' := [.inl x]) rfl ?_
  refine h_zlt (off := 11) (t := 17) rfl rfl (by omega) (fun c1 => ?_) (fun c1 => ?_)
  · refine h_run 2 (pc' := 19) (l' := [(0, .inr (.inr 1826)), (1, .inl x)]) (st' := [.inl 1, .inr (.inr 1826)]) rfl ?_
    refine h_puti (i := 241) (ci := 13) (k := 0) (a := 1826) (x := 1) rfl rfl rfl rfl rfl rfl (by decide) (by decide) ?_
    refine h_ret rfl rfl ?_
    have g2 : -2147483648 ≤ (H.1 1826 28) ∧ (H.1 1826 28) ≤ 2147483647 := hrg0.1 1826 13 28 _ .int rfl rfl
    exact ⟨rfl, (fr_o (fr_o (fr_rf _ _ _) (by decide)) (by decide)), (by omega : ((1 : Int) = 1 ∧ (H.1 1826 28) = (H.1 1826 28) ∧ (x < 0 ∨ (H.1 1826 28) < x)) ∨ ((1 : Int) = 0 ∧ (H.1 1826 28) = x ∧ 0 ≤ x ∧ x ≤ (H.1 1826 28)))⟩
  · refine h_run 3 (pc' := 14) (l' := [(0, .inr (.inr 1826)), (1, .inl x)]) (st' := [.inl (H.1 1826 28), .inl x]) rfl ?_
    have g3 : -2147483648 ≤ (H.1 1826 28) ∧ (H.1 1826 28) ≤ 2147483647 := hrg0.1 1826 13 28 _ .int rfl rfl
    refine h_ile (off := 9) (t := 23) rfl rfl (by omega) (by omega) (fun c4 => ?_) (fun c4 => ?_)
    · refine h_run 2 (pc' := 25) (l' := [(0, .inr (.inr 1826)), (1, .inl x)]) (st' := [.inl x, .inr (.inr 1826)]) rfl ?_
      refine h_puti (i := 393) (ci := 13) (k := 28) (a := 1826) (x := x) rfl rfl rfl rfl rfl rfl (by decide) (by omega) ?_
      refine h_ret rfl rfl ?_
      exact ⟨rfl, (fr_o (fr_o (fr_rf _ _ _) (by decide)) (by decide)), (by omega : ((0 : Int) = 1 ∧ x = (H.1 1826 28) ∧ (x < 0 ∨ (H.1 1826 28) < x)) ∨ ((0 : Int) = 0 ∧ x = x ∧ 0 ≤ x ∧ x ≤ (H.1 1826 28)))⟩
    · refine h_run 2 (pc' := 19) (l' := [(0, .inr (.inr 1826)), (1, .inl x)]) (st' := [.inl 1, .inr (.inr 1826)]) rfl ?_
      refine h_puti (i := 241) (ci := 13) (k := 0) (a := 1826) (x := 1) rfl rfl rfl rfl rfl rfl (by decide) (by decide) ?_
      refine h_ret rfl rfl ?_
      exact ⟨rfl, (fr_o (fr_o (fr_rf _ _ _) (by decide)) (by decide)), (by omega : ((1 : Int) = 1 ∧ (H.1 1826 28) = (H.1 1826 28) ∧ (x < 0 ∨ (H.1 1826 28) < x)) ∨ ((1 : Int) = 0 ∧ (H.1 1826 28) = x ∧ 0 ≤ x ∧ x ≤ (H.1 1826 28)))⟩

/-! feed -/
set_option maxRecDepth 100000 in
theorem m_feed_cut {zC : Nat → Option zsh} {d : Nat} (hd : 1 ≤ d) {H : hp} {x1 x2 x3 x4 x5 : Int} (ht : 0 ≤ (H.1 1826 28) ∧ (H.1 1826 28) ≤ 1000) : ∀ w : Nat, (∀ (H1 : hp) (i : Nat), (fr [0, 28] [1848] H H1) → (i ≤ 20) → ((H1.1 1826 28) = (H.1 1826 28) + i ∧ (H.1 1826 28) ≤ 980 ∧ (H1.1 1826 0) = 0) → 20 - i < w → hG (zs zC) d mt_189 25 [(0, .inr (.inr 1826)), (1, .inl x1), (2, .inl x2), (3, .inl x3), (4, .inl x4), (5, .inl x5), (6, .inl (i : Int))] [] H1 (fun r9 H2 => (∃ r0 : Int, r9 = some (.inl r0) ∧ fr [0, 28] [1848] H H2 ∧ (((H2.1 1826 0) = 1 ∧ (H2.1 1826 28) = (H.1 1826 28) ∧ 980 < (H.1 1826 28)) ∨ ((H2.1 1826 0) = 0 ∧ (H2.1 1826 28) = (H.1 1826 28) + 20 ∧ (H.1 1826 28) ≤ 980 ∧ r0 = (H.1 1826 28) + 20))))) := by
  intro w
  induction w with
  | zero => exact fun _ _ _ _ _ h => absurd h (Nat.not_lt_zero _)
  | succ w ih =>
    intro H1 i hf hi hz hw
    refine h_rng (fun hrg1 => ?_)
    refine h_run 2 (pc' := 29) (l' := [(0, .inr (.inr 1826)), (1, .inl x1), (2, .inl x2), (3, .inl x3), (4, .inl x4), (5, .inl x5), (6, .inl (i : Int))]) (st' := [.inl 20, .inl (i : Int)]) rfl ?_
    refine h_ige (off := 90) (t := 119) rfl rfl (by omega) (by decide) (fun c2 => ?_) (fun c2 => ?_)
    · refine h_run 2 (pc' := 123) (l' := [(0, .inr (.inr 1826)), (1, .inl x1), (2, .inl x2), (3, .inl x3), (4, .inl x4), (5, .inl x5), (6, .inl (i : Int))]) (st' := [.inl (H1.1 1826 28)]) rfl ?_
      have g3 : -2147483648 ≤ (H1.1 1826 28) ∧ (H1.1 1826 28) ≤ 2147483647 := hrg1.1 1826 13 28 _ .int rfl rfl
      refine h_reti (x := (H1.1 1826 28)) rfl rfl ?_
      have g4 : -2147483648 ≤ (H1.1 1826 0) ∧ (H1.1 1826 0) ≤ 2147483647 := hrg1.1 1826 13 0 _ .int rfl rfl
      exact ⟨_, rfl, hf, (by omega : ((H1.1 1826 0) = 1 ∧ (H1.1 1826 28) = (H.1 1826 28) ∧ 980 < (H.1 1826 28)) ∨ ((H1.1 1826 0) = 0 ∧ (H1.1 1826 28) = (H.1 1826 28) + 20 ∧ (H.1 1826 28) ≤ 980 ∧ (H1.1 1826 28) = (H.1 1826 28) + 20))⟩
    · refine h_run 2 (pc' := 35) (l' := [(0, .inr (.inr 1826)), (1, .inl x1), (2, .inl x2), (3, .inl x3), (4, .inl x4), (5, .inl x5), (6, .inl (i : Int))]) (st' := [.inl 4, .inl (i : Int)]) rfl ?_
      refine h_ige (off := 7) (t := 42) rfl rfl (by omega) (by decide) (fun c5 => ?_) (fun c5 => ?_)
      · refine h_run 2 (pc' := 46) (l' := [(0, .inr (.inr 1826)), (1, .inl x1), (2, .inl x2), (3, .inl x3), (4, .inl x4), (5, .inl x5), (6, .inl (i : Int))]) (st' := [.inl 8, .inl (i : Int)]) rfl ?_
        refine h_ige (off := 7) (t := 53) rfl rfl (by omega) (by decide) (fun c6 => ?_) (fun c6 => ?_)
        · refine h_run 2 (pc' := 57) (l' := [(0, .inr (.inr 1826)), (1, .inl x1), (2, .inl x2), (3, .inl x3), (4, .inl x4), (5, .inl x5), (6, .inl (i : Int))]) (st' := [.inl 12, .inl (i : Int)]) rfl ?_
          refine h_ige (off := 7) (t := 64) rfl rfl (by omega) (by decide) (fun c7 => ?_) (fun c7 => ?_)
          · refine h_run 2 (pc' := 68) (l' := [(0, .inr (.inr 1826)), (1, .inl x1), (2, .inl x2), (3, .inl x3), (4, .inl x4), (5, .inl x5), (6, .inl (i : Int))]) (st' := [.inl 16, .inl (i : Int)]) rfl ?_
            refine h_ige (off := 8) (t := 76) rfl rfl (by omega) (by decide) (fun c8 => ?_) (fun c8 => ?_)
            · refine h_run 6 (pc' := 88) (l' := [(0, .inr (.inr 1826)), (1, .inl x1), (2, .inl x2), (3, .inl x3), (4, .inl x4), (5, .inl x5), (6, .inl (i : Int)), (7, .inl x5)]) (st' := [.inl (H1.1 1826 28), .inr (.inr 1848)]) rfl ?_
              have g9 : -2147483648 ≤ (H1.1 1826 28) ∧ (H1.1 1826 28) ≤ 2147483647 := hrg1.1 1826 13 28 _ .int rfl rfl
              refine h_run 10 (pc' := 102) (l' := [(0, .inr (.inr 1826)), (1, .inl x1), (2, .inl x2), (3, .inl x3), (4, .inl x4), (5, .inl x5), (6, .inl (i : Int)), (7, .inl x5)]) (st' := [.inl (z_i2b (z_shr x5 (24 - (8 * (z_and (i : Int) 3))))), .inl (H1.1 1826 28), .inr (.inr 1848)]) rfl ?_
              refine h_bst (c := 1848) (j := ((H1.1 1826 28)).toNat) (i := (H1.1 1826 28)) (x := (z_i2b (z_shr x5 (24 - (8 * (z_and (i : Int) 3)))))) (Or.inl rfl) rfl rfl (by decide) (by decide) (by omega) (by omega) (z_i2b_rng _) ?_
              refine h_run 3 (pc' := 108) (l' := [(0, .inr (.inr 1826)), (1, .inl x1), (2, .inl x2), (3, .inl x3), (4, .inl x4), (5, .inl x5), (6, .inl (i : Int)), (7, .inl x5)]) (st' := [.inl (H1.1 1826 28), .inr (.inr 1826)]) rfl ?_
              refine h_run 2 (pc' := 110) (l' := [(0, .inr (.inr 1826)), (1, .inl x1), (2, .inl x2), (3, .inl x3), (4, .inl x4), (5, .inl x5), (6, .inl (i : Int)), (7, .inl x5)]) (st' := [.inl ((H1.1 1826 28) + 1), .inr (.inr 1826)]) rfl ?_
              refine h_puti (i := 393) (ci := 13) (k := 28) (a := 1826) (x := ((H1.1 1826 28) + 1)) rfl rfl rfl rfl rfl rfl (by decide) (by omega) ?_
              refine h_run 2 (pc' := 25) (l' := [(0, .inr (.inr 1826)), (1, .inl x1), (2, .inl x2), (3, .inl x3), (4, .inl x4), (5, .inl x5), (6, .inl ((i : Int) + 1)), (7, .inl x5)]) (st' := []) rfl ?_
              have g10 : -2147483648 ≤ (H1.1 1826 0) ∧ (H1.1 1826 0) ≤ 2147483647 := hrg1.1 1826 13 0 _ .int rfl rfl
              refine h_loc [0, 1, 2, 3, 4, 5, 6] rfl ?_
              rw [show ((i : Int) + 1) = (((i + 1) : Nat) : Int) by omega]
              exact ih _ (i + 1) (fr_o (fr_a hf (by decide)) (by decide)) (by omega) (by omega : ((H1.1 1826 28) + 1) = (H.1 1826 28) + (i + 1) ∧ (H.1 1826 28) ≤ 980 ∧ (H1.1 1826 0) = 0) (by omega : 20 - (i + 1) < w)
            · refine h_run 7 (pc' := 88) (l' := [(0, .inr (.inr 1826)), (1, .inl x1), (2, .inl x2), (3, .inl x3), (4, .inl x4), (5, .inl x5), (6, .inl (i : Int)), (7, .inl x4)]) (st' := [.inl (H1.1 1826 28), .inr (.inr 1848)]) rfl ?_
              have g11 : -2147483648 ≤ (H1.1 1826 28) ∧ (H1.1 1826 28) ≤ 2147483647 := hrg1.1 1826 13 28 _ .int rfl rfl
              refine h_run 10 (pc' := 102) (l' := [(0, .inr (.inr 1826)), (1, .inl x1), (2, .inl x2), (3, .inl x3), (4, .inl x4), (5, .inl x5), (6, .inl (i : Int)), (7, .inl x4)]) (st' := [.inl (z_i2b (z_shr x4 (24 - (8 * (z_and (i : Int) 3))))), .inl (H1.1 1826 28), .inr (.inr 1848)]) rfl ?_
              refine h_bst (c := 1848) (j := ((H1.1 1826 28)).toNat) (i := (H1.1 1826 28)) (x := (z_i2b (z_shr x4 (24 - (8 * (z_and (i : Int) 3)))))) (Or.inl rfl) rfl rfl (by decide) (by decide) (by omega) (by omega) (z_i2b_rng _) ?_
              refine h_run 3 (pc' := 108) (l' := [(0, .inr (.inr 1826)), (1, .inl x1), (2, .inl x2), (3, .inl x3), (4, .inl x4), (5, .inl x5), (6, .inl (i : Int)), (7, .inl x4)]) (st' := [.inl (H1.1 1826 28), .inr (.inr 1826)]) rfl ?_
              refine h_run 2 (pc' := 110) (l' := [(0, .inr (.inr 1826)), (1, .inl x1), (2, .inl x2), (3, .inl x3), (4, .inl x4), (5, .inl x5), (6, .inl (i : Int)), (7, .inl x4)]) (st' := [.inl ((H1.1 1826 28) + 1), .inr (.inr 1826)]) rfl ?_
              refine h_puti (i := 393) (ci := 13) (k := 28) (a := 1826) (x := ((H1.1 1826 28) + 1)) rfl rfl rfl rfl rfl rfl (by decide) (by omega) ?_
              refine h_run 2 (pc' := 25) (l' := [(0, .inr (.inr 1826)), (1, .inl x1), (2, .inl x2), (3, .inl x3), (4, .inl x4), (5, .inl x5), (6, .inl ((i : Int) + 1)), (7, .inl x4)]) (st' := []) rfl ?_
              have g12 : -2147483648 ≤ (H1.1 1826 0) ∧ (H1.1 1826 0) ≤ 2147483647 := hrg1.1 1826 13 0 _ .int rfl rfl
              refine h_loc [0, 1, 2, 3, 4, 5, 6] rfl ?_
              rw [show ((i : Int) + 1) = (((i + 1) : Nat) : Int) by omega]
              exact ih _ (i + 1) (fr_o (fr_a hf (by decide)) (by decide)) (by omega) (by omega : ((H1.1 1826 28) + 1) = (H.1 1826 28) + (i + 1) ∧ (H.1 1826 28) ≤ 980 ∧ (H1.1 1826 0) = 0) (by omega : 20 - (i + 1) < w)
          · refine h_run 7 (pc' := 88) (l' := [(0, .inr (.inr 1826)), (1, .inl x1), (2, .inl x2), (3, .inl x3), (4, .inl x4), (5, .inl x5), (6, .inl (i : Int)), (7, .inl x3)]) (st' := [.inl (H1.1 1826 28), .inr (.inr 1848)]) rfl ?_
            have g13 : -2147483648 ≤ (H1.1 1826 28) ∧ (H1.1 1826 28) ≤ 2147483647 := hrg1.1 1826 13 28 _ .int rfl rfl
            refine h_run 10 (pc' := 102) (l' := [(0, .inr (.inr 1826)), (1, .inl x1), (2, .inl x2), (3, .inl x3), (4, .inl x4), (5, .inl x5), (6, .inl (i : Int)), (7, .inl x3)]) (st' := [.inl (z_i2b (z_shr x3 (24 - (8 * (z_and (i : Int) 3))))), .inl (H1.1 1826 28), .inr (.inr 1848)]) rfl ?_
            refine h_bst (c := 1848) (j := ((H1.1 1826 28)).toNat) (i := (H1.1 1826 28)) (x := (z_i2b (z_shr x3 (24 - (8 * (z_and (i : Int) 3)))))) (Or.inl rfl) rfl rfl (by decide) (by decide) (by omega) (by omega) (z_i2b_rng _) ?_
            refine h_run 3 (pc' := 108) (l' := [(0, .inr (.inr 1826)), (1, .inl x1), (2, .inl x2), (3, .inl x3), (4, .inl x4), (5, .inl x5), (6, .inl (i : Int)), (7, .inl x3)]) (st' := [.inl (H1.1 1826 28), .inr (.inr 1826)]) rfl ?_
            refine h_run 2 (pc' := 110) (l' := [(0, .inr (.inr 1826)), (1, .inl x1), (2, .inl x2), (3, .inl x3), (4, .inl x4), (5, .inl x5), (6, .inl (i : Int)), (7, .inl x3)]) (st' := [.inl ((H1.1 1826 28) + 1), .inr (.inr 1826)]) rfl ?_
            refine h_puti (i := 393) (ci := 13) (k := 28) (a := 1826) (x := ((H1.1 1826 28) + 1)) rfl rfl rfl rfl rfl rfl (by decide) (by omega) ?_
            refine h_run 2 (pc' := 25) (l' := [(0, .inr (.inr 1826)), (1, .inl x1), (2, .inl x2), (3, .inl x3), (4, .inl x4), (5, .inl x5), (6, .inl ((i : Int) + 1)), (7, .inl x3)]) (st' := []) rfl ?_
            have g14 : -2147483648 ≤ (H1.1 1826 0) ∧ (H1.1 1826 0) ≤ 2147483647 := hrg1.1 1826 13 0 _ .int rfl rfl
            refine h_loc [0, 1, 2, 3, 4, 5, 6] rfl ?_
            rw [show ((i : Int) + 1) = (((i + 1) : Nat) : Int) by omega]
            exact ih _ (i + 1) (fr_o (fr_a hf (by decide)) (by decide)) (by omega) (by omega : ((H1.1 1826 28) + 1) = (H.1 1826 28) + (i + 1) ∧ (H.1 1826 28) ≤ 980 ∧ (H1.1 1826 0) = 0) (by omega : 20 - (i + 1) < w)
        · refine h_run 7 (pc' := 88) (l' := [(0, .inr (.inr 1826)), (1, .inl x1), (2, .inl x2), (3, .inl x3), (4, .inl x4), (5, .inl x5), (6, .inl (i : Int)), (7, .inl x2)]) (st' := [.inl (H1.1 1826 28), .inr (.inr 1848)]) rfl ?_
          have g15 : -2147483648 ≤ (H1.1 1826 28) ∧ (H1.1 1826 28) ≤ 2147483647 := hrg1.1 1826 13 28 _ .int rfl rfl
          refine h_run 10 (pc' := 102) (l' := [(0, .inr (.inr 1826)), (1, .inl x1), (2, .inl x2), (3, .inl x3), (4, .inl x4), (5, .inl x5), (6, .inl (i : Int)), (7, .inl x2)]) (st' := [.inl (z_i2b (z_shr x2 (24 - (8 * (z_and (i : Int) 3))))), .inl (H1.1 1826 28), .inr (.inr 1848)]) rfl ?_
          refine h_bst (c := 1848) (j := ((H1.1 1826 28)).toNat) (i := (H1.1 1826 28)) (x := (z_i2b (z_shr x2 (24 - (8 * (z_and (i : Int) 3)))))) (Or.inl rfl) rfl rfl (by decide) (by decide) (by omega) (by omega) (z_i2b_rng _) ?_
          refine h_run 3 (pc' := 108) (l' := [(0, .inr (.inr 1826)), (1, .inl x1), (2, .inl x2), (3, .inl x3), (4, .inl x4), (5, .inl x5), (6, .inl (i : Int)), (7, .inl x2)]) (st' := [.inl (H1.1 1826 28), .inr (.inr 1826)]) rfl ?_
          refine h_run 2 (pc' := 110) (l' := [(0, .inr (.inr 1826)), (1, .inl x1), (2, .inl x2), (3, .inl x3), (4, .inl x4), (5, .inl x5), (6, .inl (i : Int)), (7, .inl x2)]) (st' := [.inl ((H1.1 1826 28) + 1), .inr (.inr 1826)]) rfl ?_
          refine h_puti (i := 393) (ci := 13) (k := 28) (a := 1826) (x := ((H1.1 1826 28) + 1)) rfl rfl rfl rfl rfl rfl (by decide) (by omega) ?_
          refine h_run 2 (pc' := 25) (l' := [(0, .inr (.inr 1826)), (1, .inl x1), (2, .inl x2), (3, .inl x3), (4, .inl x4), (5, .inl x5), (6, .inl ((i : Int) + 1)), (7, .inl x2)]) (st' := []) rfl ?_
          have g16 : -2147483648 ≤ (H1.1 1826 0) ∧ (H1.1 1826 0) ≤ 2147483647 := hrg1.1 1826 13 0 _ .int rfl rfl
          refine h_loc [0, 1, 2, 3, 4, 5, 6] rfl ?_
          rw [show ((i : Int) + 1) = (((i + 1) : Nat) : Int) by omega]
          exact ih _ (i + 1) (fr_o (fr_a hf (by decide)) (by decide)) (by omega) (by omega : ((H1.1 1826 28) + 1) = (H.1 1826 28) + (i + 1) ∧ (H.1 1826 28) ≤ 980 ∧ (H1.1 1826 0) = 0) (by omega : 20 - (i + 1) < w)
      · refine h_run 7 (pc' := 88) (l' := [(0, .inr (.inr 1826)), (1, .inl x1), (2, .inl x2), (3, .inl x3), (4, .inl x4), (5, .inl x5), (6, .inl (i : Int)), (7, .inl x1)]) (st' := [.inl (H1.1 1826 28), .inr (.inr 1848)]) rfl ?_
        have g17 : -2147483648 ≤ (H1.1 1826 28) ∧ (H1.1 1826 28) ≤ 2147483647 := hrg1.1 1826 13 28 _ .int rfl rfl
        refine h_run 10 (pc' := 102) (l' := [(0, .inr (.inr 1826)), (1, .inl x1), (2, .inl x2), (3, .inl x3), (4, .inl x4), (5, .inl x5), (6, .inl (i : Int)), (7, .inl x1)]) (st' := [.inl (z_i2b (z_shr x1 (24 - (8 * (z_and (i : Int) 3))))), .inl (H1.1 1826 28), .inr (.inr 1848)]) rfl ?_
        refine h_bst (c := 1848) (j := ((H1.1 1826 28)).toNat) (i := (H1.1 1826 28)) (x := (z_i2b (z_shr x1 (24 - (8 * (z_and (i : Int) 3)))))) (Or.inl rfl) rfl rfl (by decide) (by decide) (by omega) (by omega) (z_i2b_rng _) ?_
        refine h_run 3 (pc' := 108) (l' := [(0, .inr (.inr 1826)), (1, .inl x1), (2, .inl x2), (3, .inl x3), (4, .inl x4), (5, .inl x5), (6, .inl (i : Int)), (7, .inl x1)]) (st' := [.inl (H1.1 1826 28), .inr (.inr 1826)]) rfl ?_
        refine h_run 2 (pc' := 110) (l' := [(0, .inr (.inr 1826)), (1, .inl x1), (2, .inl x2), (3, .inl x3), (4, .inl x4), (5, .inl x5), (6, .inl (i : Int)), (7, .inl x1)]) (st' := [.inl ((H1.1 1826 28) + 1), .inr (.inr 1826)]) rfl ?_
        refine h_puti (i := 393) (ci := 13) (k := 28) (a := 1826) (x := ((H1.1 1826 28) + 1)) rfl rfl rfl rfl rfl rfl (by decide) (by omega) ?_
        refine h_run 2 (pc' := 25) (l' := [(0, .inr (.inr 1826)), (1, .inl x1), (2, .inl x2), (3, .inl x3), (4, .inl x4), (5, .inl x5), (6, .inl ((i : Int) + 1)), (7, .inl x1)]) (st' := []) rfl ?_
        have g18 : -2147483648 ≤ (H1.1 1826 0) ∧ (H1.1 1826 0) ≤ 2147483647 := hrg1.1 1826 13 0 _ .int rfl rfl
        refine h_loc [0, 1, 2, 3, 4, 5, 6] rfl ?_
        rw [show ((i : Int) + 1) = (((i + 1) : Nat) : Int) by omega]
        exact ih _ (i + 1) (fr_o (fr_a hf (by decide)) (by decide)) (by omega) (by omega : ((H1.1 1826 28) + 1) = (H.1 1826 28) + (i + 1) ∧ (H.1 1826 28) ≤ 980 ∧ (H1.1 1826 0) = 0) (by omega : 20 - (i + 1) < w)
set_option maxRecDepth 100000 in
theorem m_feed {zC : Nat → Option zsh} {d : Nat} (hd : 1 ≤ d) {H : hp} {x1 x2 x3 x4 x5 : Int} (ht : 0 ≤ (H.1 1826 28) ∧ (H.1 1826 28) ≤ 1000) : hG (zs zC) d mt_189 0 (zargs 0 [.inr (.inr 1826), .inl x1, .inl x2, .inl x3, .inl x4, .inl x5]) [] H (fun r9 H2 => (∃ r0 : Int, r9 = some (.inl r0) ∧ fr [0, 28] [1848] H H2 ∧ (((H2.1 1826 0) = 1 ∧ (H2.1 1826 28) = (H.1 1826 28) ∧ 980 < (H.1 1826 28)) ∨ ((H2.1 1826 0) = 0 ∧ (H2.1 1826 28) = (H.1 1826 28) + 20 ∧ (H.1 1826 28) ≤ 980 ∧ r0 = (H.1 1826 28) + 20)))) := by
  refine h_rng (fun hrg0 => ?_)
  refine h_run 0 (pc' := 0) (l' := [(0, .inr (.inr 1826)), (1, .inl x1), (2, .inl x2), (3, .inl x3), (4, .inl x4), (5, .inl x5)]) (st' := []) rfl ?_
  refine h_run 2 (pc' := 2) (l' := [(0, .inr (.inr 1826)), (1, .inl x1), (2, .inl x2), (3, .inl x3), (4, .inl x4), (5, .inl x5)]) (st' := [.inl 0, .inr (.inr 1826)]) rfl ?_
  refine h_puti (i := 241) (ci := 13) (k := 0) (a := 1826) (x := 0) rfl rfl rfl rfl rfl rfl (by decide) (by decide) ?_
  refine h_run 2 (pc' := 9) (l' := [(0, .inr (.inr 1826)), (1, .inl x1), (2, .inl x2), (3, .inl x3), (4, .inl x4), (5, .inl x5)]) (st' := [.inl (H.1 1826 28)]) rfl ?_
  have g19 : -2147483648 ≤ (H.1 1826 28) ∧ (H.1 1826 28) ≤ 2147483647 := hrg0.1 1826 13 28 _ .int rfl rfl
  refine h_run 1 (pc' := 12) (l' := [(0, .inr (.inr 1826)), (1, .inl x1), (2, .inl x2), (3, .inl x3), (4, .inl x4), (5, .inl x5)]) (st' := [.inl 980, .inl (H.1 1826 28)]) rfl ?_
  refine h_ile (off := 10) (t := 22) rfl rfl (by omega) (by decide) (fun c20 => ?_) (fun c20 => ?_)
  · refine h_run 2 (pc' := 25) (l' := [(0, .inr (.inr 1826)), (1, .inl x1), (2, .inl x2), (3, .inl x3), (4, .inl x4), (5, .inl x5), (6, .inl 0)]) (st' := []) rfl ?_
    exact (m_feed_cut hd ht _) _ 0 (fr_o (fr_rf _ _ _) (by decide)) (by omega) (by omega : (H.1 1826 28) = (H.1 1826 28) + 0 ∧ (H.1 1826 28) ≤ 980 ∧ (0 : Int) = 0) (Nat.lt_succ_self _)
  · refine h_run 2 (pc' := 17) (l' := [(0, .inr (.inr 1826)), (1, .inl x1), (2, .inl x2), (3, .inl x3), (4, .inl x4), (5, .inl x5)]) (st' := [.inl 1, .inr (.inr 1826)]) rfl ?_
    refine h_puti (i := 241) (ci := 13) (k := 0) (a := 1826) (x := 1) rfl rfl rfl rfl rfl rfl (by decide) (by decide) ?_
    refine h_run 1 (pc' := 21) (l' := [(0, .inr (.inr 1826)), (1, .inl x1), (2, .inl x2), (3, .inl x3), (4, .inl x4), (5, .inl x5)]) (st' := [.inl 0]) rfl ?_
    refine h_reti (x := 0) rfl rfl ?_
    exact ⟨_, rfl, (fr_o (fr_o (fr_rf _ _ _) (by decide)) (by decide)), (by omega : ((1 : Int) = 1 ∧ (H.1 1826 28) = (H.1 1826 28) ∧ 980 < (H.1 1826 28)) ∨ ((1 : Int) = 0 ∧ (H.1 1826 28) = (H.1 1826 28) + 20 ∧ (H.1 1826 28) ≤ 980 ∧ 0 = (H.1 1826 28) + 20))⟩
