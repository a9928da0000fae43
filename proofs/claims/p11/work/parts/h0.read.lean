/-! the reference's reading against the machine: bytes, tokens -/
theorem z_ln {x y : Int} (hx : 0 ≤ x ∧ x < 281474976710656) (hy : 0 ≤ y ∧ y ≤ 255) : z_lor (z_lshl x 8) (z_i2l y) = 256 * x + y := by
  obtain ⟨n, rfl⟩ : ∃ n : Nat, x = n := ⟨x.toNat, by omega⟩
  obtain ⟨m, rfl⟩ : ∃ m : Nat, y = m := ⟨y.toNat, by omega⟩
  have e1 : z_i2l (m : Int) = m := by
    have h : ∀ k : Nat, k < 256 → z_i2l (k : Int) = k := by decide +kernel
    exact h m (by omega)
  rw [e1]
  have hs : ((Int32.ofInt 8).toInt64 &&& 63) = (8 : Int64) := by decide +kernel
  have a1 : (Int64.ofInt (n : Int)).toBitVec = BitVec.ofNat 64 n := BitVec.ofInt_natCast 64 n
  have a2 : (Int64.ofInt (m : Int)).toBitVec = BitVec.ofNat 64 m := BitVec.ofInt_natCast 64 m
  have b1 : (Int64.ofInt (n : Int) <<< (8 : Int64)).toBitVec = BitVec.ofNat 64 n <<< (8 : Nat) := by
    show (Int64.ofInt (n : Int)).toBitVec <<< ((8 : Int64).toBitVec.smod 64) = _
    rw [a1, show ((8 : Int64).toBitVec.smod 64) = (8 : BitVec 64) by decide +kernel]
    rfl
  unfold z_lor z_lshl
  rw [hs, Int64.ofInt_toInt]
  show BitVec.toInt ((Int64.ofInt (n : Int) <<< (8 : Int64)).toBitVec ||| (Int64.ofInt (m : Int)).toBitVec) = _
  rw [b1, a2]
  have hn : (BitVec.ofNat 64 n <<< (8 : Nat) ||| BitVec.ofNat 64 m).toNat = 256 * n + m := by
    rw [BitVec.toNat_or, BitVec.toNat_shiftLeft, BitVec.toNat_ofNat, BitVec.toNat_ofNat, Nat.mod_eq_of_lt (by omega : n < 2 ^ 64), Nat.mod_eq_of_lt (by omega : m < 2 ^ 64), Nat.shiftLeft_eq, Nat.mod_eq_of_lt (by omega : n * 2 ^ 8 < 2 ^ 64), ← Nat.shiftLeft_eq, ← Nat.shiftLeft_add_eq_or_of_lt (by omega : m < 2 ^ 8), Nat.shiftLeft_eq]
    omega
  rw [BitVec.toInt_eq_toNat_of_lt (by rw [hn]; omega), hn]
  omega
/-- a great name is no word of the language -/
theorem nmz_kw {b : Nat → Int} {s k : Nat} (hk : 1 ≤ k ∧ k ≤ 6) (hb : ∀ j, j < k → 0 ≤ b (s + j) ∧ b (s + j) ≤ 255) (hc : 65 ≤ b s ∧ b s ≤ 90) : nmz b s k ≠ 1684108385 ∧ nmz b s k ≠ 6714734 ∧ nmz b s k ≠ 1920298085 ∧ nmz b s k ≠ 7102839 := by
  have s1 : ∀ j, 0 ≤ nmz b s j ∧ nmz b s j < 281474976710656 → j < k → nmz b s (j + 1) = 256 * nmz b s j + b (s + j) := fun j hj hk => z_ln hj (hb j hk)
  have e0 : nmz b s 0 = 0 := rfl
  have e1 : nmz b s 1 = 256 * nmz b s 0 + b s := s1 0 (by omega) (by omega)
  have h0 : 0 ≤ b s ∧ b s ≤ 255 := hb 0 (by omega)
  by_cases k1 : k = 1
  · subst k1
    omega
  have e2 : nmz b s 2 = 256 * nmz b s 1 + b (s + 1) := s1 1 (by omega) (by omega)
  have h1 := hb 1 (by omega)
  by_cases k2 : k = 2
  · subst k2
    omega
  have e3 : nmz b s 3 = 256 * nmz b s 2 + b (s + 2) := s1 2 (by omega) (by omega)
  have h2 := hb 2 (by omega)
  by_cases k3 : k = 3
  · subst k3
    omega
  have e4 : nmz b s 4 = 256 * nmz b s 3 + b (s + 3) := s1 3 (by omega) (by omega)
  have h3 := hb 3 (by omega)
  by_cases k4 : k = 4
  · subst k4
    omega
  have e5 : nmz b s 5 = 256 * nmz b s 4 + b (s + 4) := s1 4 (by omega) (by omega)
  have h4 := hb 4 (by omega)
  by_cases k5 : k = 5
  · subst k5
    omega
  have e6 : nmz b s 6 = 256 * nmz b s 5 + b (s + 5) := s1 5 (by omega) (by omega)
  have h5 := hb 5 (by omega)
  obtain rfl : k = 6 := by omega
  omega
/-- the reference's tape is Y's -/
def YB (Y : yx) (H : hp) : Prop := ((H.1 1826 29) = Y.2 ∧ Y.2 ≤ 1000) ∧ ∀ j : Nat, j < Y.2 → z_and ((H.1 1848) j) 255 = Y.1 j
theorem YB_fr {ob ar : List Nat} {Y : yx} {H K : hp} (h : YB Y H) (g : fr ob ar H K) (h1 : 1848 ∉ ar) (h2 : 29 ∉ ob) : YB Y K := by
  unfold YB
  rw [g.2.1 1848 (by decide) h1, g.2.2 29 h2]
  exact h
theorem YB_b {Y : yx} {H : hp} (h : YB Y H) {j : Nat} (hj : j < Y.2) : 0 ≤ Y.1 j ∧ Y.1 j ≤ 255 := by
  rw [← h.2 j hj]
  exact z_and_255 _
theorem lk_Y {Y : yx} {H : hp} (h : YB Y H) (h0 : 0 ≤ (H.1 1826 30)) (h1 : (H.1 1826 30) < (H.1 1826 29)) : lk H = Y.1 ((H.1 1826 30)).toNat := by
  have e := h.1
  unfold lk
  rw [if_pos h1]
  exact h.2 _ (by omega)
theorem lk_no {H : hp} (h : lk H = -1) : (H.1 1826 29) ≤ (H.1 1826 30) := by
  unfold lk at h
  split at h
  · have := z_and_255 ((H.1 1848) ((H.1 1826 30)).toNat)
    omega
  · omega
theorem lk_nb {Y : yx} {H : hp} (h : YB Y H) (h0 : 0 ≤ (H.1 1826 30)) (h1 : lk H ≠ 32) (h2 : lk H ≠ 10) : (H.1 1826 29) ≤ (H.1 1826 30) ∨ ¬ cB (Y.1 ((H.1 1826 30)).toNat) := by
  by_cases q : (H.1 1826 30) < (H.1 1826 29)
  · rw [lk_Y h h0 q] at h1 h2
    refine Or.inr (fun e => ?_)
    unfold cB at e
    omega
  · omega
/-- the reference stands behind the token that begins at s -/
def TKs (Y : yx) (s : Nat) (H : hp) : Prop := ((H.1 1826 32) = s ∧ (H.1 1826 30) = tEd Y.1 Y.2 s) ∧ tKd Y.1 Y.2 s ≠ 1 ∧ ((2 ≤ tKd Y.1 Y.2 s ∧ tKd Y.1 Y.2 s ≤ 7 ∧ (H.1 1826 31) = tKd Y.1 Y.2 s - 1 ∧ (H.1 1826 33) = tNm Y.1 Y.2 s) ∨ ((tKd Y.1 Y.2 s = 0 ∨ 40 ≤ tKd Y.1 Y.2 s) ∧ (H.1 1826 31) = tKd Y.1 Y.2 s))
theorem TKs_end {Y : yx} {s : Nat} {H : hp} (h : Y.2 ≤ s) (h1 : (H.1 1826 32) = s) (h2 : (H.1 1826 30) = s) (h3 : (H.1 1826 31) = 0) : TKs Y s H := by
  have e1 : tKd Y.1 Y.2 s = 0 := if_pos h
  have e2 : tEd Y.1 Y.2 s = s := if_pos h
  unfold TKs
  rw [e1, e2]
  exact ⟨⟨h1, h2⟩, by decide, Or.inr ⟨Or.inl rfl, h3⟩⟩
theorem TKs_sign {Y : yx} {s : Nat} {H : hp} (h : s < Y.2) (hl : ¬ cL (Y.1 s)) (hs : cS (Y.1 s)) (h1 : (H.1 1826 32) = s) (h2 : (H.1 1826 30) = s + 1) (h3 : (H.1 1826 31) = Y.1 s) : TKs Y s H := by
  obtain ⟨e1, e2, -⟩ := tKd_s (nm := nmz Y.1 s 1) h hl rfl (Or.inl ⟨hs, rfl⟩)
  unfold TKs
  rw [e1, e2]
  have hs9 := hs
  unfold cS at hs9
  exact ⟨⟨h1, by omega⟩, by omega, Or.inr ⟨Or.inr (by omega), h3⟩⟩
theorem tKd_none {Y : yx} {s : Nat} (h : s < Y.2) (hl : ¬ cL (Y.1 s)) (hs : ¬ cS (Y.1 s)) : tKd Y.1 Y.2 s = 1 := (tKd_s (nm := nmz Y.1 s 1) h hl rfl (Or.inr ⟨hs, rfl⟩)).1
theorem tKd_long {Y : yx} {s : Nat} (h : s < Y.2) (hl : cL (Y.1 s)) (h6 : 6 < wnd Y.1 (Y.2 - s) s - s) : tKd Y.1 Y.2 s = 1 := by
  unfold tKd
  rw [if_neg (by omega), if_pos hl, if_pos h6]
theorem wnd_gt {b : Nat → Int} {n x : Int} (h0 : 0 ≤ x) (h : x < n) (hw : cW (b x.toNat)) : x.toNat < wnd b (n - x).toNat x.toNat := by
  rw [← wnd_go h0 h hw]
  have := (wnd_le b (n - (x + 1)).toNat (x + 1).toNat).1
  omega
theorem TKs_word {Y : yx} {s e : Nat} {H : hp} (h : s < Y.2) (hl : cL (Y.1 s)) (he : wnd Y.1 (Y.2 - s) s = e) (h6 : e - s ≤ 6) (h1 : (H.1 1826 32) = s) (h2 : (H.1 1826 30) = e) (h3 : (H.1 1826 33) = nmz Y.1 s (e - s)) (h4 : (H.1 1826 31) = (if Y.1 s ≤ 90 then 3 else kwd (nmz Y.1 s (e - s))) - 1) : TKs Y s H := by
  have e1 : tKd Y.1 Y.2 s = if Y.1 s ≤ 90 then 3 else kwd (nmz Y.1 s (e - s)) := by
    unfold tKd
    rw [if_neg (by omega), if_pos hl, he, if_neg (by omega)]
  have e2 : tEd Y.1 Y.2 s = e := by
    unfold tEd
    rw [if_neg (by omega), if_pos hl, he]
  have e3 : 2 ≤ tKd Y.1 Y.2 s ∧ tKd Y.1 Y.2 s ≤ 7 := by
    rw [e1]
    unfold kwd
    repeat (split)
    all_goals omega
  refine ⟨⟨h1, by rw [e2]; exact h2⟩, by omega, Or.inl ⟨e3.1, e3.2, by rw [e1]; exact h4, ?_⟩⟩
  unfold tNm
  rw [e2]
  exact h3
theorem nmr_go {b : Nat → Int} {s : Nat} {x y z : Int} (h : (s : Int) ≤ x) (hy : y = nmz b s (x - s).toNat) (hz : z = b x.toNat) : z_lor (z_lshl y 8) (z_i2l z) = nmz b s (x + 1 - s).toNat := by
  subst hz
  exact nmz_go (a := (s : Int)) (by omega) h hy
theorem kw_tok {x c z : Int} (hc : (97 ≤ c ∧ c ≤ 122) ∨ (65 ≤ c ∧ c ≤ 90)) (hx : c ≤ 90 → x ≠ 1684108385 ∧ x ≠ 6714734 ∧ x ≠ 1920298085 ∧ x ≠ 7102839) (hz : (x = 1684108385 ∧ z = 3) ∨ (x = 6714734 ∧ z = 4) ∨ (x = 1920298085 ∧ z = 5) ∨ (x = 7102839 ∧ z = 6) ∨ ((x ≠ 1684108385 ∧ x ≠ 6714734 ∧ x ≠ 1920298085 ∧ x ≠ 7102839) ∧ ((c < 97 ∧ z = 2) ∨ (97 ≤ c ∧ z = 1)))) : z = (if c ≤ 90 then 3 else kwd x) - 1 := by
  by_cases h : c ≤ 90
  · rw [if_pos h]
    have := hx h
    omega
  · rw [if_neg h]
    clear hx
    unfold kwd
    rcases hz with ⟨e, q⟩ | ⟨e, q⟩ | ⟨e, q⟩ | ⟨e, q⟩ | ⟨⟨e1, e2, e3, e4⟩, q⟩
    · rw [if_pos e]; omega
    · rw [if_neg (by omega), if_pos e]; omega
    · rw [if_neg (by omega), if_neg (by omega), if_pos e]; omega
    · rw [if_neg (by omega), if_neg (by omega), if_neg (by omega), if_pos e]; omega
    · rw [if_neg e1, if_neg e2, if_neg e3, if_neg e4]; omega
theorem word_no {Y : yx} {H : hp} {n : Int} (h : YB Y H) (h0 : 0 ≤ (H.1 1826 30)) (hn : (H.1 1826 29) = n) (hw : ¬ cW (lk H)) : n ≤ (H.1 1826 30) ∨ ¬ cW (Y.1 ((H.1 1826 30)).toNat) := by
  by_cases q : (H.1 1826 30) < (H.1 1826 29)
  · rw [← lk_Y h h0 q]
    exact Or.inr hw
  · omega

/-! word -/
set_option maxRecDepth 100000 in
theorem n_word100 {zC : Nat → Option zsh} {d : Nat} (hd : 1 ≤ d) {H : hp}   : hG (zs zC) d mt_164 0 (zargs 0 [.inl 100, .inl 97, .inl 116, .inl 97]) [] H (fun r H2 => r = some (.inr (.inl 1684108385)) ∧ H = H2) := by
  refine h_rng (fun hrg0 => ?_)
  refine h_run 0 (pc' := 0) (l' := [(0, .inl 100), (1, .inl 97), (2, .inl 116), (3, .inl 97)]) (st' := []) rfl ?_
  refine h_run 14 (pc' := 17) (l' := [(0, .inl 100), (1, .inl 97), (2, .inl 116), (3, .inl 97), (4, .inr (.inl (z_lor (z_lor (z_lshl (z_i2l 100) 16) (z_i2l (z_shl 97 8))) (z_i2l 116))))]) (st' := [.inl 97]) rfl ?_
  refine h_zne (off := 8) (t := 25) rfl rfl (by decide) (fun _ => ?_) (fun c => absurd c (by decide))
  refine h_run 6 (pc' := 33) (l' := [(0, .inl 100), (1, .inl 97), (2, .inl 116), (3, .inl 97), (4, .inr (.inl (z_lor (z_lor (z_lshl (z_i2l 100) 16) (z_i2l (z_shl 97 8))) (z_i2l 116))))]) (st' := [.inr (.inl (z_lor (z_lshl (z_lor (z_lor (z_lshl (z_i2l 100) 16) (z_i2l (z_shl 97 8))) (z_i2l 116)) 8) (z_i2l 97)))]) rfl ?_
  refine h_retl (x := (z_lor (z_lshl (z_lor (z_lor (z_lshl (z_i2l 100) 16) (z_i2l (z_shl 97 8))) (z_i2l 116)) 8) (z_i2l 97))) rfl rfl ?_
  exact ⟨congrArg (fun z => some (Sum.inr (Sum.inl z))) (by decide +kernel), rfl⟩

/-! word -/
set_option maxRecDepth 100000 in
theorem n_word102 {zC : Nat → Option zsh} {d : Nat} (hd : 1 ≤ d) {H : hp}   : hG (zs zC) d mt_164 0 (zargs 0 [.inl 102, .inl 117, .inl 110, .inl 0]) [] H (fun r H2 => r = some (.inr (.inl 6714734)) ∧ H = H2) := by
  refine h_rng (fun hrg0 => ?_)
  refine h_run 0 (pc' := 0) (l' := [(0, .inl 102), (1, .inl 117), (2, .inl 110), (3, .inl 0)]) (st' := []) rfl ?_
  refine h_run 14 (pc' := 17) (l' := [(0, .inl 102), (1, .inl 117), (2, .inl 110), (3, .inl 0), (4, .inr (.inl (z_lor (z_lor (z_lshl (z_i2l 102) 16) (z_i2l (z_shl 117 8))) (z_i2l 110))))]) (st' := [.inl 0]) rfl ?_
  refine h_zne (off := 8) (t := 25) rfl rfl (by decide) (fun c => absurd c (by decide)) (fun _ => ?_)
  refine h_run 2 (pc' := 33) (l' := [(0, .inl 102), (1, .inl 117), (2, .inl 110), (3, .inl 0), (4, .inr (.inl (z_lor (z_lor (z_lshl (z_i2l 102) 16) (z_i2l (z_shl 117 8))) (z_i2l 110))))]) (st' := [.inr (.inl (z_lor (z_lor (z_lshl (z_i2l 102) 16) (z_i2l (z_shl 117 8))) (z_i2l 110)))]) rfl ?_
  refine h_retl (x := (z_lor (z_lor (z_lshl (z_i2l 102) 16) (z_i2l (z_shl 117 8))) (z_i2l 110))) rfl rfl ?_
  exact ⟨congrArg (fun z => some (Sum.inr (Sum.inl z))) (by decide +kernel), rfl⟩

/-! word -/
set_option maxRecDepth 100000 in
theorem n_word114 {zC : Nat → Option zsh} {d : Nat} (hd : 1 ≤ d) {H : hp}   : hG (zs zC) d mt_164 0 (zargs 0 [.inl 114, .inl 117, .inl 108, .inl 101]) [] H (fun r H2 => r = some (.inr (.inl 1920298085)) ∧ H = H2) := by
  refine h_rng (fun hrg0 => ?_)
  refine h_run 0 (pc' := 0) (l' := [(0, .inl 114), (1, .inl 117), (2, .inl 108), (3, .inl 101)]) (st' := []) rfl ?_
  refine h_run 14 (pc' := 17) (l' := [(0, .inl 114), (1, .inl 117), (2, .inl 108), (3, .inl 101), (4, .inr (.inl (z_lor (z_lor (z_lshl (z_i2l 114) 16) (z_i2l (z_shl 117 8))) (z_i2l 108))))]) (st' := [.inl 101]) rfl ?_
  refine h_zne (off := 8) (t := 25) rfl rfl (by decide) (fun _ => ?_) (fun c => absurd c (by decide))
  refine h_run 6 (pc' := 33) (l' := [(0, .inl 114), (1, .inl 117), (2, .inl 108), (3, .inl 101), (4, .inr (.inl (z_lor (z_lor (z_lshl (z_i2l 114) 16) (z_i2l (z_shl 117 8))) (z_i2l 108))))]) (st' := [.inr (.inl (z_lor (z_lshl (z_lor (z_lor (z_lshl (z_i2l 114) 16) (z_i2l (z_shl 117 8))) (z_i2l 108)) 8) (z_i2l 101)))]) rfl ?_
  refine h_retl (x := (z_lor (z_lshl (z_lor (z_lor (z_lshl (z_i2l 114) 16) (z_i2l (z_shl 117 8))) (z_i2l 108)) 8) (z_i2l 101))) rfl rfl ?_
  exact ⟨congrArg (fun z => some (Sum.inr (Sum.inl z))) (by decide +kernel), rfl⟩

/-! word -/
set_option maxRecDepth 100000 in
theorem n_word108 {zC : Nat → Option zsh} {d : Nat} (hd : 1 ≤ d) {H : hp}   : hG (zs zC) d mt_164 0 (zargs 0 [.inl 108, .inl 97, .inl 119, .inl 0]) [] H (fun r H2 => r = some (.inr (.inl 7102839)) ∧ H = H2) := by
  refine h_rng (fun hrg0 => ?_)
  refine h_run 0 (pc' := 0) (l' := [(0, .inl 108), (1, .inl 97), (2, .inl 119), (3, .inl 0)]) (st' := []) rfl ?_
  refine h_run 14 (pc' := 17) (l' := [(0, .inl 108), (1, .inl 97), (2, .inl 119), (3, .inl 0), (4, .inr (.inl (z_lor (z_lor (z_lshl (z_i2l 108) 16) (z_i2l (z_shl 97 8))) (z_i2l 119))))]) (st' := [.inl 0]) rfl ?_
  refine h_zne (off := 8) (t := 25) rfl rfl (by decide) (fun c => absurd c (by decide)) (fun _ => ?_)
  refine h_run 2 (pc' := 33) (l' := [(0, .inl 108), (1, .inl 97), (2, .inl 119), (3, .inl 0), (4, .inr (.inl (z_lor (z_lor (z_lshl (z_i2l 108) 16) (z_i2l (z_shl 97 8))) (z_i2l 119))))]) (st' := [.inr (.inl (z_lor (z_lor (z_lshl (z_i2l 108) 16) (z_i2l (z_shl 97 8))) (z_i2l 119)))]) rfl ?_
  refine h_retl (x := (z_lor (z_lor (z_lshl (z_i2l 108) 16) (z_i2l (z_shl 97 8))) (z_i2l 119))) rfl rfl ?_
  exact ⟨congrArg (fun z => some (Sum.inr (Sum.inl z))) (by decide +kernel), rfl⟩

/-! next -/
set_option maxRecDepth 100000 in
set_option maxHeartbeats 4000000 in
theorem n_next_cut {zC : Nat → Option zsh} {d : Nat} (hd : 3 ≤ d) {H : hp} {Y : yx} {s : Nat} (h0 : 0 ≤ (H.1 1826 30) ∧ (H.1 1826 30) ≤ (H.1 1826 29) ∧ (H.1 1826 29) ≤ 1000) (hw : 0 ≤ (H.1 1826 35) ∧ (H.1 1826 35) ≤ 5) (hst : 0 ≤ (H.1 1826 32) ∧ (H.1 1826 32) ≤ 1000) (hw0 : (H.1 1826 35) = 0) (hY : YB Y H) (hs : skp Y.1 ((H.1 1826 29) - (H.1 1826 30)).toNat ((H.1 1826 30)).toNat = s) : ∀ w : Nat, (∀ (H1 : hp), (fr [30, 31, 32, 33, 35, 36] [] H H1) → ((H.1 1826 30) ≤ (H1.1 1826 30) ∧ (H1.1 1826 30) ≤ (H.1 1826 29)) → ((H1.1 1826 35) = (H.1 1826 35)) → (skp Y.1 ((H.1 1826 29) - (H1.1 1826 30)).toNat ((H1.1 1826 30)).toNat = s) → 2 * ((H.1 1826 29) - (H1.1 1826 30)).toNat + 2 < w → hG (zs zC) d mt_165 0 [(0, .inr (.inr 1826))] [] H1 (fun r H2 => r = none ∧ fr [30, 31, 32, 33, 35, 36] [] H H2 ∧ (H.1 1826 30) ≤ (H2.1 1826 30) ∧ (H2.1 1826 30) ≤ (H.1 1826 29) ∧ (0 ≤ (H2.1 1826 35) ∧ (H2.1 1826 35) ≤ 5) ∧ ((H.1 1826 35) ≠ 0 → (H2.1 1826 35) = (H.1 1826 35)) ∧ (0 ≤ (H2.1 1826 32) ∧ (H2.1 1826 32) ≤ 1000) ∧ ((H2.1 1826 35) = 0 → ((H2.1 1826 31) = 0 ∨ (H.1 1826 30) < (H2.1 1826 30))) ∧ (((H2.1 1826 35) = 0 ∧ TKs Y s H2) ∨ ((H2.1 1826 35) = 1 ∧ (H2.1 1826 36) = s ∧ tKd Y.1 Y.2 s = 1)))) ∧ (∀ (H1 : hp) (c : Int), (fr [30, 31, 32, 33, 35, 36] [] H H1) → ((H.1 1826 30) ≤ (H1.1 1826 30) ∧ (H1.1 1826 30) ≤ (H.1 1826 29)) → ((H1.1 1826 35) = (H.1 1826 35)) → ((H1.1 1826 32) = s) → ((H.1 1826 30) ≤ (H1.1 1826 32) ∧ (H1.1 1826 32) ≤ (H1.1 1826 30)) → ((97 ≤ c ∧ c ≤ 122) ∨ (65 ≤ c ∧ c ≤ 90)) → ((H1.1 1826 32) < (H1.1 1826 30) ∨ lk H1 = c) → (c = Y.1 s) → (s < Y.2) → (wnd Y.1 ((H.1 1826 29) - (H1.1 1826 30)).toNat ((H1.1 1826 30)).toNat = wnd Y.1 (Y.2 - s) s) → ((H1.1 1826 33) = nmz Y.1 s ((H1.1 1826 30) - s).toNat) → (s ≤ (H1.1 1826 30) ∧ (H1.1 1826 30) - s ≤ 6) → 2 * ((H.1 1826 29) - (H1.1 1826 30)).toNat + 1 < w → hG (zs zC) d mt_165 146 [(0, .inr (.inr 1826)), (1, .inl c)] [] H1 (fun r H2 => r = none ∧ fr [30, 31, 32, 33, 35, 36] [] H H2 ∧ (H.1 1826 30) ≤ (H2.1 1826 30) ∧ (H2.1 1826 30) ≤ (H.1 1826 29) ∧ (0 ≤ (H2.1 1826 35) ∧ (H2.1 1826 35) ≤ 5) ∧ ((H.1 1826 35) ≠ 0 → (H2.1 1826 35) = (H.1 1826 35)) ∧ (0 ≤ (H2.1 1826 32) ∧ (H2.1 1826 32) ≤ 1000) ∧ ((H2.1 1826 35) = 0 → ((H2.1 1826 31) = 0 ∨ (H.1 1826 30) < (H2.1 1826 30))) ∧ (((H2.1 1826 35) = 0 ∧ TKs Y s H2) ∨ ((H2.1 1826 35) = 1 ∧ (H2.1 1826 36) = s ∧ tKd Y.1 Y.2 s = 1)))) ∧ (∀ (H1 : hp) (c : Int), (fr [30, 31, 32, 33, 35, 36] [] H H1) → ((H.1 1826 30) ≤ (H1.1 1826 30) ∧ (H1.1 1826 30) ≤ (H.1 1826 29)) → ((H1.1 1826 35) = (H.1 1826 35)) → ((H1.1 1826 32) = s) → ((H.1 1826 30) ≤ (H1.1 1826 32)) → ((97 ≤ c ∧ c ≤ 122) ∨ (65 ≤ c ∧ c ≤ 90)) → (c = Y.1 s) → (s < Y.2) → (wnd Y.1 (Y.2 - s) s = ((H1.1 1826 30)).toNat) → ((s : Int) < (H1.1 1826 30) ∧ (H1.1 1826 30) - s ≤ 6) → ((H1.1 1826 33) = nmz Y.1 s (((H1.1 1826 30)).toNat - s)) → (hid (c ≤ 90 → (H1.1 1826 33) ≠ 1684108385 ∧ (H1.1 1826 33) ≠ 6714734 ∧ (H1.1 1826 33) ≠ 1920298085 ∧ (H1.1 1826 33) ≠ 7102839)) → 0 < w → hG (zs zC) d mt_165 216 [(0, .inr (.inr 1826)), (1, .inl c)] [] H1 (fun r H2 => r = none ∧ fr [30, 31, 32, 33, 35, 36] [] H H2 ∧ (H.1 1826 30) ≤ (H2.1 1826 30) ∧ (H2.1 1826 30) ≤ (H.1 1826 29) ∧ (0 ≤ (H2.1 1826 35) ∧ (H2.1 1826 35) ≤ 5) ∧ ((H.1 1826 35) ≠ 0 → (H2.1 1826 35) = (H.1 1826 35)) ∧ (0 ≤ (H2.1 1826 32) ∧ (H2.1 1826 32) ≤ 1000) ∧ ((H2.1 1826 35) = 0 → ((H2.1 1826 31) = 0 ∨ (H.1 1826 30) < (H2.1 1826 30))) ∧ (((H2.1 1826 35) = 0 ∧ TKs Y s H2) ∨ ((H2.1 1826 35) = 1 ∧ (H2.1 1826 36) = s ∧ tKd Y.1 Y.2 s = 1)))) := by
  intro w
  induction w with
  | zero => exact ⟨fun _ _ _ _ _ h => absurd h (Nat.not_lt_zero _), fun _ _ _ _ _ _ _ _ _ _ _ _ _ _ h => absurd h (Nat.not_lt_zero _), fun _ _ _ _ _ _ _ _ _ _ _ _ _ _ h => absurd h (Nat.not_lt_zero _)⟩
  | succ w ih =>
    refine ⟨?_, ?_, ?_⟩
    · intro H1 hf ha hk hs1 hw
      refine h_rng (fun hrg1 => ?_)
      have hY1 := YB_fr hY hf (by decide) (by decide)
      have hsz := hY.1
      have esz : (H1.1 1826 29) = (H.1 1826 29) := hf.2.2 29 (by decide)
      refine h_run 1 (pc' := 1) (l' := [(0, .inr (.inr 1826))]) (st' := [.inr (.inr 1826)]) rfl ?_
      have g2 : -2147483648 ≤ (H1.1 1826 30) ∧ (H1.1 1826 30) ≤ 2147483647 := hrg1.1 1826 13 30 _ .int rfl rfl
      have g3 : -2147483648 ≤ (H1.1 1826 29) ∧ (H1.1 1826 29) ≤ 2147483647 := hrg1.1 1826 13 29 _ .int rfl rfl
      have e4 : (H1.1 1826 29) = (H.1 1826 29) := hf.2.2 29 (by decide)
      refine h_cv (i := 267) (j := 161) (b := 1826) (M' := mt_161) (xs := []) (rest := []) rfl rfl rfl rfl rfl rfl (Nat.le_of_ble_eq_true rfl) (Nat.le_of_ble_eq_true rfl) (by omega) (m_look (by omega) (by omega : 0 ≤ (H1.1 1826 30) ∧ (H1.1 1826 29) ≤ 1000)) ?_
      rintro _ _ ⟨rfl, rfl⟩
      have l5 := lk_rng H1
      have l5x : lk H1 = -1 ∨ (H1.1 1826 30) < (H1.1 1826 29) := lk_in H1
      refine h_run 0 (pc' := 4) (l' := [(0, .inr (.inr 1826))]) (st' := [.inl (lk H1)]) rfl ?_
      refine h_run 1 (pc' := 6) (l' := [(0, .inr (.inr 1826))]) (st' := [.inl 32, .inl (lk H1)]) rfl ?_
      refine h_ieq (off := 12) (t := 18) rfl rfl (by omega) (by decide) (fun c6 => ?_) (fun c6 => ?_)
      · have hly := lk_Y hY1 (by omega) (by omega)
        have hcb : cB (Y.1 ((H1.1 1826 30)).toNat) := by unfold cB; omega
        refine h_run 3 (pc' := 23) (l' := [(0, .inr (.inr 1826))]) (st' := [.inl (H1.1 1826 30), .inr (.inr 1826)]) rfl ?_
        refine h_run 2 (pc' := 25) (l' := [(0, .inr (.inr 1826))]) (st' := [.inl ((H1.1 1826 30) + 1), .inr (.inr 1826)]) rfl ?_
        refine h_puti (i := 261) (ci := 13) (k := 30) (a := 1826) (x := ((H1.1 1826 30) + 1)) rfl rfl rfl rfl rfl rfl (by decide) (by omega) ?_
        refine h_run 1 (pc' := 0) (l' := [(0, .inr (.inr 1826))]) (st' := []) rfl ?_
        exact ih.1 _ (fr_o hf (by decide)) (by omega : (H.1 1826 30) ≤ ((H1.1 1826 30) + 1) ∧ ((H1.1 1826 30) + 1) ≤ (H.1 1826 29)) (by omega : (H1.1 1826 35) = (H.1 1826 35)) ((skp_b (by omega) (by omega) hcb).trans hs1 : skp Y.1 ((H.1 1826 29) - ((H1.1 1826 30) + 1)).toNat (((H1.1 1826 30) + 1)).toNat = s) (by omega : 2 * ((H.1 1826 29) - ((H1.1 1826 30) + 1)).toNat + 2 < w)
      · refine h_run 1 (pc' := 10) (l' := [(0, .inr (.inr 1826))]) (st' := [.inr (.inr 1826)]) rfl ?_
        refine h_cv (i := 267) (j := 161) (b := 1826) (M' := mt_161) (xs := []) (rest := []) rfl rfl rfl rfl rfl rfl (Nat.le_of_ble_eq_true rfl) (Nat.le_of_ble_eq_true rfl) (by omega) (m_look (by omega) (by omega : 0 ≤ (H1.1 1826 30) ∧ (H1.1 1826 29) ≤ 1000)) ?_
        rintro _ _ ⟨rfl, rfl⟩
        refine h_run 0 (pc' := 13) (l' := [(0, .inr (.inr 1826))]) (st' := [.inl (lk H1)]) rfl ?_
        refine h_run 1 (pc' := 15) (l' := [(0, .inr (.inr 1826))]) (st' := [.inl 10, .inl (lk H1)]) rfl ?_
        refine h_ine (off := 16) (t := 31) rfl rfl (by omega) (by decide) (fun c8 => ?_) (fun c8 => ?_)
        · have hse : s = ((H1.1 1826 30)).toNat := hs1.symm.trans ((by rw [← esz]; exact skp_no (lk_nb hY1 (by omega) (by omega) (by omega))))
          refine h_run 3 (pc' := 36) (l' := [(0, .inr (.inr 1826))]) (st' := [.inl (H1.1 1826 30), .inr (.inr 1826)]) rfl ?_
          refine h_puti (i := 251) (ci := 13) (k := 32) (a := 1826) (x := (H1.1 1826 30)) rfl rfl rfl rfl rfl rfl (by decide) (by omega) ?_
          refine h_run 1 (pc' := 40) (l' := [(0, .inr (.inr 1826))]) (st' := [.inr (.inr 1826)]) rfl ?_
          refine h_cv (i := 267) (j := 161) (b := 1826) (M' := mt_161) (xs := []) (rest := []) rfl rfl rfl rfl rfl rfl (Nat.le_of_ble_eq_true rfl) (Nat.le_of_ble_eq_true rfl) (by omega) (m_look (by omega) (by omega : 0 ≤ (H1.1 1826 30) ∧ (H1.1 1826 29) ≤ 1000)) ?_
          rintro _ _ ⟨rfl, rfl⟩
          have l9 := lk_rng (zu H1 1826 (up (H1.1 1826) 32 (H1.1 1826 30)))
          have l9x : lk (zu H1 1826 (up (H1.1 1826) 32 (H1.1 1826 30))) = -1 ∨ (H1.1 1826 30) < (H1.1 1826 29) := lk_in (zu H1 1826 (up (H1.1 1826) 32 (H1.1 1826 30)))
          refine h_run 0 (pc' := 43) (l' := [(0, .inr (.inr 1826))]) (st' := [.inl (lk (zu H1 1826 (up (H1.1 1826) 32 (H1.1 1826 30))))]) rfl ?_
          have hlk2 : lk (zu H1 1826 (up (H1.1 1826) 32 (H1.1 1826 30))) = lk H1 := rfl
          refine h_run 3 (pc' := 46) (l' := [(0, .inr (.inr 1826)), (1, .inl (lk (zu H1 1826 (up (H1.1 1826) 32 (H1.1 1826 30)))))]) (st' := [.inl (-1), .inl (lk (zu H1 1826 (up (H1.1 1826) 32 (H1.1 1826 30))))]) rfl ?_
          refine h_ine (off := 9) (t := 55) rfl rfl (by omega) (by decide) (fun c10 => ?_) (fun c10 => ?_)
          · have hcy : lk H1 = Y.1 s := by rw [hse]; exact lk_Y hY1 (by omega) (by omega)
            refine h_run 1 (pc' := 56) (l' := [(0, .inr (.inr 1826)), (1, .inl (lk (zu H1 1826 (up (H1.1 1826) 32 (H1.1 1826 30)))))]) (st' := [.inl (lk (zu H1 1826 (up (H1.1 1826) 32 (H1.1 1826 30))))]) rfl ?_
            refine h_cs (i := 274) (j := 162) (M' := mt_162) (xs := [.inl (lk (zu H1 1826 (up (H1.1 1826) 32 (H1.1 1826 30))))]) (rest := []) rfl rfl rfl rfl rfl (Nat.le_of_ble_eq_true rfl) (Nat.le_of_ble_eq_true rfl) (by omega) (m_isLetter (by omega) (by omega)) ?_
            rintro _ _ ⟨⟨rfl, b11⟩ | ⟨rfl, b11⟩, rfl⟩
            · refine h_run 0 (pc' := 59) (l' := [(0, .inr (.inr 1826)), (1, .inl (lk (zu H1 1826 (up (H1.1 1826) 32 (H1.1 1826 30)))))]) (st' := [.inl 1]) rfl ?_
              refine h_zne (off := 82) (t := 141) rfl rfl (by decide) (fun _ => ?_) (fun c => absurd c (by decide))
              refine h_run 2 (pc' := 143) (l' := [(0, .inr (.inr 1826)), (1, .inl (lk (zu H1 1826 (up (H1.1 1826) 32 (H1.1 1826 30)))))]) (st' := [.inr (.inl 0), .inr (.inr 1826)]) rfl ?_
              refine h_putl (i := 282) (ci := 13) (k := 33) (a := 1826) (x := 0) rfl rfl rfl rfl rfl rfl (by decide) (by decide) ?_
              exact ih.2.1 _ (lk (zu H1 1826 (up (H1.1 1826) 32 (H1.1 1826 30)))) (fr_o (fr_o hf (by decide)) (by decide)) (by omega : (H.1 1826 30) ≤ (H1.1 1826 30) ∧ (H1.1 1826 30) ≤ (H.1 1826 29)) (by omega : (H1.1 1826 35) = (H.1 1826 35)) (by omega : (H1.1 1826 30) = s) (by omega : (H.1 1826 30) ≤ (H1.1 1826 30) ∧ (H1.1 1826 30) ≤ (H1.1 1826 30)) (by omega) (Or.inr rfl) (by omega) (by omega) (show wnd Y.1 ((H.1 1826 29) - (H1.1 1826 30)).toNat ((H1.1 1826 30)).toNat = _ by rw [show ((H1.1 1826 30)).toNat = s by omega, show ((H.1 1826 29) - (H1.1 1826 30)).toNat = Y.2 - s by omega]) (show (0 : Int) = nmz Y.1 s ((H1.1 1826 30) - s).toNat by rw [show ((H1.1 1826 30) - s).toNat = 0 by omega]; rfl) (by omega : (s : Int) ≤ (H1.1 1826 30) ∧ (H1.1 1826 30) - s ≤ 6) (by omega : 2 * ((H.1 1826 29) - (H1.1 1826 30)).toNat + 1 < w)
            · refine h_run 0 (pc' := 59) (l' := [(0, .inr (.inr 1826)), (1, .inl (lk (zu H1 1826 (up (H1.1 1826) 32 (H1.1 1826 30)))))]) (st' := [.inl 0]) rfl ?_
              refine h_zne (off := 82) (t := 141) rfl rfl (by decide) (fun c => absurd c (by decide)) (fun _ => ?_)
              refine h_run 2 (pc' := 65) (l' := [(0, .inr (.inr 1826)), (1, .inl (lk (zu H1 1826 (up (H1.1 1826) 32 (H1.1 1826 30)))))]) (st' := [.inl 61, .inl (lk (zu H1 1826 (up (H1.1 1826) 32 (H1.1 1826 30))))]) rfl ?_
              refine h_ieq (off := 45) (t := 110) rfl rfl (by omega) (by decide) (fun c12 => ?_) (fun c12 => ?_)
              · refine h_run 4 (pc' := 117) (l' := [(0, .inr (.inr 1826)), (1, .inl (lk (zu H1 1826 (up (H1.1 1826) 32 (H1.1 1826 30))))), (2, .inl 1)]) (st' := [.inl 1]) rfl ?_
                refine h_zne (off := 8) (t := 125) rfl rfl (by decide) (fun _ => ?_) (fun c => absurd c (by decide))
                refine h_run 2 (pc' := 127) (l' := [(0, .inr (.inr 1826)), (1, .inl (lk (zu H1 1826 (up (H1.1 1826) 32 (H1.1 1826 30))))), (2, .inl 1)]) (st' := [.inl (lk (zu H1 1826 (up (H1.1 1826) 32 (H1.1 1826 30)))), .inr (.inr 1826)]) rfl ?_
                refine h_puti (i := 271) (ci := 13) (k := 31) (a := 1826) (x := (lk (zu H1 1826 (up (H1.1 1826) 32 (H1.1 1826 30))))) rfl rfl rfl rfl rfl rfl (by decide) (by omega) ?_
                refine h_run 3 (pc' := 135) (l' := [(0, .inr (.inr 1826)), (1, .inl (lk (zu H1 1826 (up (H1.1 1826) 32 (H1.1 1826 30))))), (2, .inl 1)]) (st' := [.inl (H1.1 1826 30), .inr (.inr 1826)]) rfl ?_
                refine h_run 2 (pc' := 137) (l' := [(0, .inr (.inr 1826)), (1, .inl (lk (zu H1 1826 (up (H1.1 1826) 32 (H1.1 1826 30))))), (2, .inl 1)]) (st' := [.inl ((H1.1 1826 30) + 1), .inr (.inr 1826)]) rfl ?_
                refine h_puti (i := 261) (ci := 13) (k := 30) (a := 1826) (x := ((H1.1 1826 30) + 1)) rfl rfl rfl rfl rfl rfl (by decide) (by omega) ?_
                refine h_ret rfl rfl ?_
                have g13 : -2147483648 ≤ (H1.1 1826 35) ∧ (H1.1 1826 35) ≤ 2147483647 := hrg1.1 1826 13 35 _ .int rfl rfl
                have g14 : -9223372036854775808 ≤ (H1.1 1826 33) ∧ (H1.1 1826 33) ≤ 9223372036854775807 := hrg1.1 1826 13 33 _ .long rfl rfl
                exact ⟨rfl, (fr_o (fr_o (fr_o hf (by decide)) (by decide)) (by decide)), (by omega : (H.1 1826 30) ≤ ((H1.1 1826 30) + 1)), (by omega : ((H1.1 1826 30) + 1) ≤ (H.1 1826 29)), (by omega : 0 ≤ (H1.1 1826 35) ∧ (H1.1 1826 35) ≤ 5), (by omega : (H.1 1826 35) ≠ 0 → (H1.1 1826 35) = (H.1 1826 35)), (by omega : 0 ≤ (H1.1 1826 30) ∧ (H1.1 1826 30) ≤ 1000), (by omega : (H1.1 1826 35) = 0 → ((lk (zu H1 1826 (up (H1.1 1826) 32 (H1.1 1826 30)))) = 0 ∨ (H.1 1826 30) < ((H1.1 1826 30) + 1))), (Or.inl ⟨(by omega : (H1.1 1826 35) = 0), TKs_sign (by omega) (by unfold cL; omega) (by unfold cS; omega) (by omega : (H1.1 1826 30) = (s : Int)) (by omega : ((H1.1 1826 30) + 1) = (s : Int) + 1) (by omega : (lk (zu H1 1826 (up (H1.1 1826) 32 (H1.1 1826 30)))) = Y.1 s)⟩)⟩
              · refine h_run 2 (pc' := 71) (l' := [(0, .inr (.inr 1826)), (1, .inl (lk (zu H1 1826 (up (H1.1 1826) 32 (H1.1 1826 30)))))]) (st' := [.inl 124, .inl (lk (zu H1 1826 (up (H1.1 1826) 32 (H1.1 1826 30))))]) rfl ?_
                refine h_ieq (off := 39) (t := 110) rfl rfl (by omega) (by decide) (fun c15 => ?_) (fun c15 => ?_)
                · refine h_run 4 (pc' := 117) (l' := [(0, .inr (.inr 1826)), (1, .inl (lk (zu H1 1826 (up (H1.1 1826) 32 (H1.1 1826 30))))), (2, .inl 1)]) (st' := [.inl 1]) rfl ?_
                  refine h_zne (off := 8) (t := 125) rfl rfl (by decide) (fun _ => ?_) (fun c => absurd c (by decide))
                  refine h_run 2 (pc' := 127) (l' := [(0, .inr (.inr 1826)), (1, .inl (lk (zu H1 1826 (up (H1.1 1826) 32 (H1.1 1826 30))))), (2, .inl 1)]) (st' := [.inl (lk (zu H1 1826 (up (H1.1 1826) 32 (H1.1 1826 30)))), .inr (.inr 1826)]) rfl ?_
                  refine h_puti (i := 271) (ci := 13) (k := 31) (a := 1826) (x := (lk (zu H1 1826 (up (H1.1 1826) 32 (H1.1 1826 30))))) rfl rfl rfl rfl rfl rfl (by decide) (by omega) ?_
                  refine h_run 3 (pc' := 135) (l' := [(0, .inr (.inr 1826)), (1, .inl (lk (zu H1 1826 (up (H1.1 1826) 32 (H1.1 1826 30))))), (2, .inl 1)]) (st' := [.inl (H1.1 1826 30), .inr (.inr 1826)]) rfl ?_
                  refine h_run 2 (pc' := 137) (l' := [(0, .inr (.inr 1826)), (1, .inl (lk (zu H1 1826 (up (H1.1 1826) 32 (H1.1 1826 30))))), (2, .inl 1)]) (st' := [.inl ((H1.1 1826 30) + 1), .inr (.inr 1826)]) rfl ?_
                  refine h_puti (i := 261) (ci := 13) (k := 30) (a := 1826) (x := ((H1.1 1826 30) + 1)) rfl rfl rfl rfl rfl rfl (by decide) (by omega) ?_
                  refine h_ret rfl rfl ?_
                  have g16 : -2147483648 ≤ (H1.1 1826 35) ∧ (H1.1 1826 35) ≤ 2147483647 := hrg1.1 1826 13 35 _ .int rfl rfl
                  have g17 : -9223372036854775808 ≤ (H1.1 1826 33) ∧ (H1.1 1826 33) ≤ 9223372036854775807 := hrg1.1 1826 13 33 _ .long rfl rfl
                  exact ⟨rfl, (fr_o (fr_o (fr_o hf (by decide)) (by decide)) (by decide)), (by omega : (H.1 1826 30) ≤ ((H1.1 1826 30) + 1)), (by omega : ((H1.1 1826 30) + 1) ≤ (H.1 1826 29)), (by omega : 0 ≤ (H1.1 1826 35) ∧ (H1.1 1826 35) ≤ 5), (by omega : (H.1 1826 35) ≠ 0 → (H1.1 1826 35) = (H.1 1826 35)), (by omega : 0 ≤ (H1.1 1826 30) ∧ (H1.1 1826 30) ≤ 1000), (by omega : (H1.1 1826 35) = 0 → ((lk (zu H1 1826 (up (H1.1 1826) 32 (H1.1 1826 30)))) = 0 ∨ (H.1 1826 30) < ((H1.1 1826 30) + 1))), (Or.inl ⟨(by omega : (H1.1 1826 35) = 0), TKs_sign (by omega) (by unfold cL; omega) (by unfold cS; omega) (by omega : (H1.1 1826 30) = (s : Int)) (by omega : ((H1.1 1826 30) + 1) = (s : Int) + 1) (by omega : (lk (zu H1 1826 (up (H1.1 1826) 32 (H1.1 1826 30)))) = Y.1 s)⟩)⟩
                · refine h_run 2 (pc' := 77) (l' := [(0, .inr (.inr 1826)), (1, .inl (lk (zu H1 1826 (up (H1.1 1826) 32 (H1.1 1826 30)))))]) (st' := [.inl 58, .inl (lk (zu H1 1826 (up (H1.1 1826) 32 (H1.1 1826 30))))]) rfl ?_
                  refine h_ieq (off := 33) (t := 110) rfl rfl (by omega) (by decide) (fun c18 => ?_) (fun c18 => ?_)
                  · refine h_run 4 (pc' := 117) (l' := [(0, .inr (.inr 1826)), (1, .inl (lk (zu H1 1826 (up (H1.1 1826) 32 (H1.1 1826 30))))), (2, .inl 1)]) (st' := [.inl 1]) rfl ?_
                    refine h_zne (off := 8) (t := 125) rfl rfl (by decide) (fun _ => ?_) (fun c => absurd c (by decide))
                    refine h_run 2 (pc' := 127) (l' := [(0, .inr (.inr 1826)), (1, .inl (lk (zu H1 1826 (up (H1.1 1826) 32 (H1.1 1826 30))))), (2, .inl 1)]) (st' := [.inl (lk (zu H1 1826 (up (H1.1 1826) 32 (H1.1 1826 30)))), .inr (.inr 1826)]) rfl ?_
                    refine h_puti (i := 271) (ci := 13) (k := 31) (a := 1826) (x := (lk (zu H1 1826 (up (H1.1 1826) 32 (H1.1 1826 30))))) rfl rfl rfl rfl rfl rfl (by decide) (by omega) ?_
                    refine h_run 3 (pc' := 135) (l' := [(0, .inr (.inr 1826)), (1, .inl (lk (zu H1 1826 (up (H1.1 1826) 32 (H1.1 1826 30))))), (2, .inl 1)]) (st' := [.inl (H1.1 1826 30), .inr (.inr 1826)]) rfl ?_
                    refine h_run 2 (pc' := 137) (l' := [(0, .inr (.inr 1826)), (1, .inl (lk (zu H1 1826 (up (H1.1 1826) 32 (H1.1 1826 30))))), (2, .inl 1)]) (st' := [.inl ((H1.1 1826 30) + 1), .inr (.inr 1826)]) rfl ?_
                    refine h_puti (i := 261) (ci := 13) (k := 30) (a := 1826) (x := ((H1.1 1826 30) + 1)) rfl rfl rfl rfl rfl rfl (by decide) (by omega) ?_
                    refine h_ret rfl rfl ?_
                    have g19 : -2147483648 ≤ (H1.1 1826 35) ∧ (H1.1 1826 35) ≤ 2147483647 := hrg1.1 1826 13 35 _ .int rfl rfl
                    have g20 : -9223372036854775808 ≤ (H1.1 1826 33) ∧ (H1.1 1826 33) ≤ 9223372036854775807 := hrg1.1 1826 13 33 _ .long rfl rfl
                    exact ⟨rfl, (fr_o (fr_o (fr_o hf (by decide)) (by decide)) (by decide)), (by omega : (H.1 1826 30) ≤ ((H1.1 1826 30) + 1)), (by omega : ((H1.1 1826 30) + 1) ≤ (H.1 1826 29)), (by omega : 0 ≤ (H1.1 1826 35) ∧ (H1.1 1826 35) ≤ 5), (by omega : (H.1 1826 35) ≠ 0 → (H1.1 1826 35) = (H.1 1826 35)), (by omega : 0 ≤ (H1.1 1826 30) ∧ (H1.1 1826 30) ≤ 1000), (by omega : (H1.1 1826 35) = 0 → ((lk (zu H1 1826 (up (H1.1 1826) 32 (H1.1 1826 30)))) = 0 ∨ (H.1 1826 30) < ((H1.1 1826 30) + 1))), (Or.inl ⟨(by omega : (H1.1 1826 35) = 0), TKs_sign (by omega) (by unfold cL; omega) (by unfold cS; omega) (by omega : (H1.1 1826 30) = (s : Int)) (by omega : ((H1.1 1826 30) + 1) = (s : Int) + 1) (by omega : (lk (zu H1 1826 (up (H1.1 1826) 32 (H1.1 1826 30)))) = Y.1 s)⟩)⟩
                  · refine h_run 2 (pc' := 83) (l' := [(0, .inr (.inr 1826)), (1, .inl (lk (zu H1 1826 (up (H1.1 1826) 32 (H1.1 1826 30)))))]) (st' := [.inl 59, .inl (lk (zu H1 1826 (up (H1.1 1826) 32 (H1.1 1826 30))))]) rfl ?_
                    refine h_ieq (off := 27) (t := 110) rfl rfl (by omega) (by decide) (fun c21 => ?_) (fun c21 => ?_)
                    · refine h_run 4 (pc' := 117) (l' := [(0, .inr (.inr 1826)), (1, .inl (lk (zu H1 1826 (up (H1.1 1826) 32 (H1.1 1826 30))))), (2, .inl 1)]) (st' := [.inl 1]) rfl ?_
                      refine h_zne (off := 8) (t := 125) rfl rfl (by decide) (fun _ => ?_) (fun c => absurd c (by decide))
                      refine h_run 2 (pc' := 127) (l' := [(0, .inr (.inr 1826)), (1, .inl (lk (zu H1 1826 (up (H1.1 1826) 32 (H1.1 1826 30))))), (2, .inl 1)]) (st' := [.inl (lk (zu H1 1826 (up (H1.1 1826) 32 (H1.1 1826 30)))), .inr (.inr 1826)]) rfl ?_
                      refine h_puti (i := 271) (ci := 13) (k := 31) (a := 1826) (x := (lk (zu H1 1826 (up (H1.1 1826) 32 (H1.1 1826 30))))) rfl rfl rfl rfl rfl rfl (by decide) (by omega) ?_
                      refine h_run 3 (pc' := 135) (l' := [(0, .inr (.inr 1826)), (1, .inl (lk (zu H1 1826 (up (H1.1 1826) 32 (H1.1 1826 30))))), (2, .inl 1)]) (st' := [.inl (H1.1 1826 30), .inr (.inr 1826)]) rfl ?_
                      refine h_run 2 (pc' := 137) (l' := [(0, .inr (.inr 1826)), (1, .inl (lk (zu H1 1826 (up (H1.1 1826) 32 (H1.1 1826 30))))), (2, .inl 1)]) (st' := [.inl ((H1.1 1826 30) + 1), .inr (.inr 1826)]) rfl ?_
                      refine h_puti (i := 261) (ci := 13) (k := 30) (a := 1826) (x := ((H1.1 1826 30) + 1)) rfl rfl rfl rfl rfl rfl (by decide) (by omega) ?_
                      refine h_ret rfl rfl ?_
                      have g22 : -2147483648 ≤ (H1.1 1826 35) ∧ (H1.1 1826 35) ≤ 2147483647 := hrg1.1 1826 13 35 _ .int rfl rfl
                      have g23 : -9223372036854775808 ≤ (H1.1 1826 33) ∧ (H1.1 1826 33) ≤ 9223372036854775807 := hrg1.1 1826 13 33 _ .long rfl rfl
                      exact ⟨rfl, (fr_o (fr_o (fr_o hf (by decide)) (by decide)) (by decide)), (by omega : (H.1 1826 30) ≤ ((H1.1 1826 30) + 1)), (by omega : ((H1.1 1826 30) + 1) ≤ (H.1 1826 29)), (by omega : 0 ≤ (H1.1 1826 35) ∧ (H1.1 1826 35) ≤ 5), (by omega : (H.1 1826 35) ≠ 0 → (H1.1 1826 35) = (H.1 1826 35)), (by omega : 0 ≤ (H1.1 1826 30) ∧ (H1.1 1826 30) ≤ 1000), (by omega : (H1.1 1826 35) = 0 → ((lk (zu H1 1826 (up (H1.1 1826) 32 (H1.1 1826 30)))) = 0 ∨ (H.1 1826 30) < ((H1.1 1826 30) + 1))), (Or.inl ⟨(by omega : (H1.1 1826 35) = 0), TKs_sign (by omega) (by unfold cL; omega) (by unfold cS; omega) (by omega : (H1.1 1826 30) = (s : Int)) (by omega : ((H1.1 1826 30) + 1) = (s : Int) + 1) (by omega : (lk (zu H1 1826 (up (H1.1 1826) 32 (H1.1 1826 30)))) = Y.1 s)⟩)⟩
                    · refine h_run 2 (pc' := 89) (l' := [(0, .inr (.inr 1826)), (1, .inl (lk (zu H1 1826 (up (H1.1 1826) 32 (H1.1 1826 30)))))]) (st' := [.inl 62, .inl (lk (zu H1 1826 (up (H1.1 1826) 32 (H1.1 1826 30))))]) rfl ?_
                      refine h_ieq (off := 21) (t := 110) rfl rfl (by omega) (by decide) (fun c24 => ?_) (fun c24 => ?_)
                      · refine h_run 4 (pc' := 117) (l' := [(0, .inr (.inr 1826)), (1, .inl (lk (zu H1 1826 (up (H1.1 1826) 32 (H1.1 1826 30))))), (2, .inl 1)]) (st' := [.inl 1]) rfl ?_
                        refine h_zne (off := 8) (t := 125) rfl rfl (by decide) (fun _ => ?_) (fun c => absurd c (by decide))
                        refine h_run 2 (pc' := 127) (l' := [(0, .inr (.inr 1826)), (1, .inl (lk (zu H1 1826 (up (H1.1 1826) 32 (H1.1 1826 30))))), (2, .inl 1)]) (st' := [.inl (lk (zu H1 1826 (up (H1.1 1826) 32 (H1.1 1826 30)))), .inr (.inr 1826)]) rfl ?_
                        refine h_puti (i := 271) (ci := 13) (k := 31) (a := 1826) (x := (lk (zu H1 1826 (up (H1.1 1826) 32 (H1.1 1826 30))))) rfl rfl rfl rfl rfl rfl (by decide) (by omega) ?_
                        refine h_run 3 (pc' := 135) (l' := [(0, .inr (.inr 1826)), (1, .inl (lk (zu H1 1826 (up (H1.1 1826) 32 (H1.1 1826 30))))), (2, .inl 1)]) (st' := [.inl (H1.1 1826 30), .inr (.inr 1826)]) rfl ?_
                        refine h_run 2 (pc' := 137) (l' := [(0, .inr (.inr 1826)), (1, .inl (lk (zu H1 1826 (up (H1.1 1826) 32 (H1.1 1826 30))))), (2, .inl 1)]) (st' := [.inl ((H1.1 1826 30) + 1), .inr (.inr 1826)]) rfl ?_
                        refine h_puti (i := 261) (ci := 13) (k := 30) (a := 1826) (x := ((H1.1 1826 30) + 1)) rfl rfl rfl rfl rfl rfl (by decide) (by omega) ?_
                        refine h_ret rfl rfl ?_
                        have g25 : -2147483648 ≤ (H1.1 1826 35) ∧ (H1.1 1826 35) ≤ 2147483647 := hrg1.1 1826 13 35 _ .int rfl rfl
                        have g26 : -9223372036854775808 ≤ (H1.1 1826 33) ∧ (H1.1 1826 33) ≤ 9223372036854775807 := hrg1.1 1826 13 33 _ .long rfl rfl
                        exact ⟨rfl, (fr_o (fr_o (fr_o hf (by decide)) (by decide)) (by decide)), (by omega : (H.1 1826 30) ≤ ((H1.1 1826 30) + 1)), (by omega : ((H1.1 1826 30) + 1) ≤ (H.1 1826 29)), (by omega : 0 ≤ (H1.1 1826 35) ∧ (H1.1 1826 35) ≤ 5), (by omega : (H.1 1826 35) ≠ 0 → (H1.1 1826 35) = (H.1 1826 35)), (by omega : 0 ≤ (H1.1 1826 30) ∧ (H1.1 1826 30) ≤ 1000), (by omega : (H1.1 1826 35) = 0 → ((lk (zu H1 1826 (up (H1.1 1826) 32 (H1.1 1826 30)))) = 0 ∨ (H.1 1826 30) < ((H1.1 1826 30) + 1))), (Or.inl ⟨(by omega : (H1.1 1826 35) = 0), TKs_sign (by omega) (by unfold cL; omega) (by unfold cS; omega) (by omega : (H1.1 1826 30) = (s : Int)) (by omega : ((H1.1 1826 30) + 1) = (s : Int) + 1) (by omega : (lk (zu H1 1826 (up (H1.1 1826) 32 (H1.1 1826 30)))) = Y.1 s)⟩)⟩
                      · refine h_run 2 (pc' := 95) (l' := [(0, .inr (.inr 1826)), (1, .inl (lk (zu H1 1826 (up (H1.1 1826) 32 (H1.1 1826 30)))))]) (st' := [.inl 40, .inl (lk (zu H1 1826 (up (H1.1 1826) 32 (H1.1 1826 30))))]) rfl ?_
                        refine h_ieq (off := 15) (t := 110) rfl rfl (by omega) (by decide) (fun c27 => ?_) (fun c27 => ?_)
                        · refine h_run 4 (pc' := 117) (l' := [(0, .inr (.inr 1826)), (1, .inl (lk (zu H1 1826 (up (H1.1 1826) 32 (H1.1 1826 30))))), (2, .inl 1)]) (st' := [.inl 1]) rfl ?_
                          refine h_zne (off := 8) (t := 125) rfl rfl (by decide) (fun _ => ?_) (fun c => absurd c (by decide))
                          refine h_run 2 (pc' := 127) (l' := [(0, .inr (.inr 1826)), (1, .inl (lk (zu H1 1826 (up (H1.1 1826) 32 (H1.1 1826 30))))), (2, .inl 1)]) (st' := [.inl (lk (zu H1 1826 (up (H1.1 1826) 32 (H1.1 1826 30)))), .inr (.inr 1826)]) rfl ?_
                          refine h_puti (i := 271) (ci := 13) (k := 31) (a := 1826) (x := (lk (zu H1 1826 (up (H1.1 1826) 32 (H1.1 1826 30))))) rfl rfl rfl rfl rfl rfl (by decide) (by omega) ?_
                          refine h_run 3 (pc' := 135) (l' := [(0, .inr (.inr 1826)), (1, .inl (lk (zu H1 1826 (up (H1.1 1826) 32 (H1.1 1826 30))))), (2, .inl 1)]) (st' := [.inl (H1.1 1826 30), .inr (.inr 1826)]) rfl ?_
                          refine h_run 2 (pc' := 137) (l' := [(0, .inr (.inr 1826)), (1, .inl (lk (zu H1 1826 (up (H1.1 1826) 32 (H1.1 1826 30))))), (2, .inl 1)]) (st' := [.inl ((H1.1 1826 30) + 1), .inr (.inr 1826)]) rfl ?_
                          refine h_puti (i := 261) (ci := 13) (k := 30) (a := 1826) (x := ((H1.1 1826 30) + 1)) rfl rfl rfl rfl rfl rfl (by decide) (by omega) ?_
                          refine h_ret rfl rfl ?_
                          have g28 : -2147483648 ≤ (H1.1 1826 35) ∧ (H1.1 1826 35) ≤ 2147483647 := hrg1.1 1826 13 35 _ .int rfl rfl
                          have g29 : -9223372036854775808 ≤ (H1.1 1826 33) ∧ (H1.1 1826 33) ≤ 9223372036854775807 := hrg1.1 1826 13 33 _ .long rfl rfl
                          exact ⟨rfl, (fr_o (fr_o (fr_o hf (by decide)) (by decide)) (by decide)), (by omega : (H.1 1826 30) ≤ ((H1.1 1826 30) + 1)), (by omega : ((H1.1 1826 30) + 1) ≤ (H.1 1826 29)), (by omega : 0 ≤ (H1.1 1826 35) ∧ (H1.1 1826 35) ≤ 5), (by omega : (H.1 1826 35) ≠ 0 → (H1.1 1826 35) = (H.1 1826 35)), (by omega : 0 ≤ (H1.1 1826 30) ∧ (H1.1 1826 30) ≤ 1000), (by omega : (H1.1 1826 35) = 0 → ((lk (zu H1 1826 (up (H1.1 1826) 32 (H1.1 1826 30)))) = 0 ∨ (H.1 1826 30) < ((H1.1 1826 30) + 1))), (Or.inl ⟨(by omega : (H1.1 1826 35) = 0), TKs_sign (by omega) (by unfold cL; omega) (by unfold cS; omega) (by omega : (H1.1 1826 30) = (s : Int)) (by omega : ((H1.1 1826 30) + 1) = (s : Int) + 1) (by omega : (lk (zu H1 1826 (up (H1.1 1826) 32 (H1.1 1826 30)))) = Y.1 s)⟩)⟩
                        · refine h_run 2 (pc' := 101) (l' := [(0, .inr (.inr 1826)), (1, .inl (lk (zu H1 1826 (up (H1.1 1826) 32 (H1.1 1826 30)))))]) (st' := [.inl 41, .inl (lk (zu H1 1826 (up (H1.1 1826) 32 (H1.1 1826 30))))]) rfl ?_
                          refine h_ieq (off := 9) (t := 110) rfl rfl (by omega) (by decide) (fun c30 => ?_) (fun c30 => ?_)
                          · refine h_run 4 (pc' := 117) (l' := [(0, .inr (.inr 1826)), (1, .inl (lk (zu H1 1826 (up (H1.1 1826) 32 (H1.1 1826 30))))), (2, .inl 1)]) (st' := [.inl 1]) rfl ?_
                            refine h_zne (off := 8) (t := 125) rfl rfl (by decide) (fun _ => ?_) (fun c => absurd c (by decide))
                            refine h_run 2 (pc' := 127) (l' := [(0, .inr (.inr 1826)), (1, .inl (lk (zu H1 1826 (up (H1.1 1826) 32 (H1.1 1826 30))))), (2, .inl 1)]) (st' := [.inl (lk (zu H1 1826 (up (H1.1 1826) 32 (H1.1 1826 30)))), .inr (.inr 1826)]) rfl ?_
                            refine h_puti (i := 271) (ci := 13) (k := 31) (a := 1826) (x := (lk (zu H1 1826 (up (H1.1 1826) 32 (H1.1 1826 30))))) rfl rfl rfl rfl rfl rfl (by decide) (by omega) ?_
                            refine h_run 3 (pc' := 135) (l' := [(0, .inr (.inr 1826)), (1, .inl (lk (zu H1 1826 (up (H1.1 1826) 32 (H1.1 1826 30))))), (2, .inl 1)]) (st' := [.inl (H1.1 1826 30), .inr (.inr 1826)]) rfl ?_
                            refine h_run 2 (pc' := 137) (l' := [(0, .inr (.inr 1826)), (1, .inl (lk (zu H1 1826 (up (H1.1 1826) 32 (H1.1 1826 30))))), (2, .inl 1)]) (st' := [.inl ((H1.1 1826 30) + 1), .inr (.inr 1826)]) rfl ?_
                            refine h_puti (i := 261) (ci := 13) (k := 30) (a := 1826) (x := ((H1.1 1826 30) + 1)) rfl rfl rfl rfl rfl rfl (by decide) (by omega) ?_
                            refine h_ret rfl rfl ?_
                            have g31 : -2147483648 ≤ (H1.1 1826 35) ∧ (H1.1 1826 35) ≤ 2147483647 := hrg1.1 1826 13 35 _ .int rfl rfl
                            have g32 : -9223372036854775808 ≤ (H1.1 1826 33) ∧ (H1.1 1826 33) ≤ 9223372036854775807 := hrg1.1 1826 13 33 _ .long rfl rfl
                            exact ⟨rfl, (fr_o (fr_o (fr_o hf (by decide)) (by decide)) (by decide)), (by omega : (H.1 1826 30) ≤ ((H1.1 1826 30) + 1)), (by omega : ((H1.1 1826 30) + 1) ≤ (H.1 1826 29)), (by omega : 0 ≤ (H1.1 1826 35) ∧ (H1.1 1826 35) ≤ 5), (by omega : (H.1 1826 35) ≠ 0 → (H1.1 1826 35) = (H.1 1826 35)), (by omega : 0 ≤ (H1.1 1826 30) ∧ (H1.1 1826 30) ≤ 1000), (by omega : (H1.1 1826 35) = 0 → ((lk (zu H1 1826 (up (H1.1 1826) 32 (H1.1 1826 30)))) = 0 ∨ (H.1 1826 30) < ((H1.1 1826 30) + 1))), (Or.inl ⟨(by omega : (H1.1 1826 35) = 0), TKs_sign (by omega) (by unfold cL; omega) (by unfold cS; omega) (by omega : (H1.1 1826 30) = (s : Int)) (by omega : ((H1.1 1826 30) + 1) = (s : Int) + 1) (by omega : (lk (zu H1 1826 (up (H1.1 1826) 32 (H1.1 1826 30)))) = Y.1 s)⟩)⟩
                          · refine h_run 2 (pc' := 107) (l' := [(0, .inr (.inr 1826)), (1, .inl (lk (zu H1 1826 (up (H1.1 1826) 32 (H1.1 1826 30)))))]) (st' := [.inl 95, .inl (lk (zu H1 1826 (up (H1.1 1826) 32 (H1.1 1826 30))))]) rfl ?_
                            refine h_ine (off := 7) (t := 114) rfl rfl (by omega) (by decide) (fun c33 => ?_) (fun c33 => ?_)
                            · refine h_run 3 (pc' := 117) (l' := [(0, .inr (.inr 1826)), (1, .inl (lk (zu H1 1826 (up (H1.1 1826) 32 (H1.1 1826 30))))), (2, .inl 0)]) (st' := [.inl 0]) rfl ?_
                              refine h_zne (off := 8) (t := 125) rfl rfl (by decide) (fun c => absurd c (by decide)) (fun _ => ?_)
                              refine h_run 2 (pc' := 122) (l' := [(0, .inr (.inr 1826)), (1, .inl (lk (zu H1 1826 (up (H1.1 1826) 32 (H1.1 1826 30))))), (2, .inl 0)]) (st' := [.inl 1, .inr (.inr 1826)]) rfl ?_
                              have g34 : -2147483648 ≤ (H1.1 1826 35) ∧ (H1.1 1826 35) ≤ 2147483647 := hrg1.1 1826 13 35 _ .int rfl rfl
                              refine h_cv (i := 278) (j := 159) (b := 1826) (M' := mt_159) (xs := [.inl 1]) (rest := []) rfl rfl rfl rfl rfl rfl (Nat.le_of_ble_eq_true rfl) (Nat.le_of_ble_eq_true rfl) (by omega) (m_bad0 (by omega) (by omega) (by omega : (H1.1 1826 35) = 0)) ?_
                              rintro _ _ ⟨rfl, rfl⟩
                              refine h_run 0 (pc' := 125) (l' := [(0, .inr (.inr 1826)), (1, .inl (lk (zu H1 1826 (up (H1.1 1826) 32 (H1.1 1826 30))))), (2, .inl 0)]) (st' := []) rfl ?_
                              refine h_run 2 (pc' := 127) (l' := [(0, .inr (.inr 1826)), (1, .inl (lk (zu H1 1826 (up (H1.1 1826) 32 (H1.1 1826 30))))), (2, .inl 0)]) (st' := [.inl (lk (zu H1 1826 (up (H1.1 1826) 32 (H1.1 1826 30)))), .inr (.inr 1826)]) rfl ?_
                              refine h_puti (i := 271) (ci := 13) (k := 31) (a := 1826) (x := (lk (zu H1 1826 (up (H1.1 1826) 32 (H1.1 1826 30))))) rfl rfl rfl rfl rfl rfl (by decide) (by omega) ?_
                              refine h_run 3 (pc' := 135) (l' := [(0, .inr (.inr 1826)), (1, .inl (lk (zu H1 1826 (up (H1.1 1826) 32 (H1.1 1826 30))))), (2, .inl 0)]) (st' := [.inl (H1.1 1826 30), .inr (.inr 1826)]) rfl ?_
                              refine h_run 2 (pc' := 137) (l' := [(0, .inr (.inr 1826)), (1, .inl (lk (zu H1 1826 (up (H1.1 1826) 32 (H1.1 1826 30))))), (2, .inl 0)]) (st' := [.inl ((H1.1 1826 30) + 1), .inr (.inr 1826)]) rfl ?_
                              refine h_puti (i := 261) (ci := 13) (k := 30) (a := 1826) (x := ((H1.1 1826 30) + 1)) rfl rfl rfl rfl rfl rfl (by decide) (by omega) ?_
                              refine h_ret rfl rfl ?_
                              have g35 : -9223372036854775808 ≤ (H1.1 1826 33) ∧ (H1.1 1826 33) ≤ 9223372036854775807 := hrg1.1 1826 13 33 _ .long rfl rfl
                              exact ⟨rfl, (fr_o (fr_o (fr_o (fr_o (fr_o hf (by decide)) (by decide)) (by decide)) (by decide)) (by decide)), (by omega : (H.1 1826 30) ≤ ((H1.1 1826 30) + 1)), (by omega : ((H1.1 1826 30) + 1) ≤ (H.1 1826 29)), (by omega : 0 ≤ (1 : Int) ∧ (1 : Int) ≤ 5), (by omega : (H.1 1826 35) ≠ 0 → (1 : Int) = (H.1 1826 35)), (by omega : 0 ≤ (H1.1 1826 30) ∧ (H1.1 1826 30) ≤ 1000), (by omega : (1 : Int) = 0 → ((lk (zu H1 1826 (up (H1.1 1826) 32 (H1.1 1826 30)))) = 0 ∨ (H.1 1826 30) < ((H1.1 1826 30) + 1))), (Or.inr ⟨rfl, (by omega : (H1.1 1826 30) = (s : Int)), tKd_none (by omega) (by unfold cL; omega) (by unfold cS; omega)⟩)⟩
                            · refine h_run 4 (pc' := 117) (l' := [(0, .inr (.inr 1826)), (1, .inl (lk (zu H1 1826 (up (H1.1 1826) 32 (H1.1 1826 30))))), (2, .inl 1)]) (st' := [.inl 1]) rfl ?_
                              refine h_zne (off := 8) (t := 125) rfl rfl (by decide) (fun _ => ?_) (fun c => absurd c (by decide))
                              refine h_run 2 (pc' := 127) (l' := [(0, .inr (.inr 1826)), (1, .inl (lk (zu H1 1826 (up (H1.1 1826) 32 (H1.1 1826 30))))), (2, .inl 1)]) (st' := [.inl (lk (zu H1 1826 (up (H1.1 1826) 32 (H1.1 1826 30)))), .inr (.inr 1826)]) rfl ?_
                              refine h_puti (i := 271) (ci := 13) (k := 31) (a := 1826) (x := (lk (zu H1 1826 (up (H1.1 1826) 32 (H1.1 1826 30))))) rfl rfl rfl rfl rfl rfl (by decide) (by omega) ?_
                              refine h_run 3 (pc' := 135) (l' := [(0, .inr (.inr 1826)), (1, .inl (lk (zu H1 1826 (up (H1.1 1826) 32 (H1.1 1826 30))))), (2, .inl 1)]) (st' := [.inl (H1.1 1826 30), .inr (.inr 1826)]) rfl ?_
                              refine h_run 2 (pc' := 137) (l' := [(0, .inr (.inr 1826)), (1, .inl (lk (zu H1 1826 (up (H1.1 1826) 32 (H1.1 1826 30))))), (2, .inl 1)]) (st' := [.inl ((H1.1 1826 30) + 1), .inr (.inr 1826)]) rfl ?_
                              refine h_puti (i := 261) (ci := 13) (k := 30) (a := 1826) (x := ((H1.1 1826 30) + 1)) rfl rfl rfl rfl rfl rfl (by decide) (by omega) ?_
                              refine h_ret rfl rfl ?_
                              have g36 : -2147483648 ≤ (H1.1 1826 35) ∧ (H1.1 1826 35) ≤ 2147483647 := hrg1.1 1826 13 35 _ .int rfl rfl
                              have g37 : -9223372036854775808 ≤ (H1.1 1826 33) ∧ (H1.1 1826 33) ≤ 9223372036854775807 := hrg1.1 1826 13 33 _ .long rfl rfl
                              exact ⟨rfl, (fr_o (fr_o (fr_o hf (by decide)) (by decide)) (by decide)), (by omega : (H.1 1826 30) ≤ ((H1.1 1826 30) + 1)), (by omega : ((H1.1 1826 30) + 1) ≤ (H.1 1826 29)), (by omega : 0 ≤ (H1.1 1826 35) ∧ (H1.1 1826 35) ≤ 5), (by omega : (H.1 1826 35) ≠ 0 → (H1.1 1826 35) = (H.1 1826 35)), (by omega : 0 ≤ (H1.1 1826 30) ∧ (H1.1 1826 30) ≤ 1000), (by omega : (H1.1 1826 35) = 0 → ((lk (zu H1 1826 (up (H1.1 1826) 32 (H1.1 1826 30)))) = 0 ∨ (H.1 1826 30) < ((H1.1 1826 30) + 1))), (Or.inl ⟨(by omega : (H1.1 1826 35) = 0), TKs_sign (by omega) (by unfold cL; omega) (by unfold cS; omega) (by omega : (H1.1 1826 30) = (s : Int)) (by omega : ((H1.1 1826 30) + 1) = (s : Int) + 1) (by omega : (lk (zu H1 1826 (up (H1.1 1826) 32 (H1.1 1826 30)))) = Y.1 s)⟩)⟩
          · have hno := lk_no (by omega : lk H1 = -1)
            refine h_run 2 (pc' := 51) (l' := [(0, .inr (.inr 1826)), (1, .inl (lk (zu H1 1826 (up (H1.1 1826) 32 (H1.1 1826 30)))))]) (st' := [.inl 0, .inr (.inr 1826)]) rfl ?_
            refine h_puti (i := 271) (ci := 13) (k := 31) (a := 1826) (x := 0) rfl rfl rfl rfl rfl rfl (by decide) (by decide) ?_
            refine h_ret rfl rfl ?_
            have g38 : -2147483648 ≤ (H1.1 1826 35) ∧ (H1.1 1826 35) ≤ 2147483647 := hrg1.1 1826 13 35 _ .int rfl rfl
            have g39 : -9223372036854775808 ≤ (H1.1 1826 33) ∧ (H1.1 1826 33) ≤ 9223372036854775807 := hrg1.1 1826 13 33 _ .long rfl rfl
            exact ⟨rfl, (fr_o (fr_o hf (by decide)) (by decide)), (by omega : (H.1 1826 30) ≤ (H1.1 1826 30)), (by omega : (H1.1 1826 30) ≤ (H.1 1826 29)), (by omega : 0 ≤ (H1.1 1826 35) ∧ (H1.1 1826 35) ≤ 5), (by omega : (H.1 1826 35) ≠ 0 → (H1.1 1826 35) = (H.1 1826 35)), (by omega : 0 ≤ (H1.1 1826 30) ∧ (H1.1 1826 30) ≤ 1000), (by omega : (H1.1 1826 35) = 0 → ((0 : Int) = 0 ∨ (H.1 1826 30) < (H1.1 1826 30))), (Or.inl ⟨(by omega : (H1.1 1826 35) = 0), TKs_end (by omega) (by omega : (H1.1 1826 30) = (s : Int)) (by omega : (H1.1 1826 30) = (s : Int)) rfl⟩)⟩
        · have hly := lk_Y hY1 (by omega) (by omega)
          have hcb : cB (Y.1 ((H1.1 1826 30)).toNat) := by unfold cB; omega
          refine h_run 3 (pc' := 23) (l' := [(0, .inr (.inr 1826))]) (st' := [.inl (H1.1 1826 30), .inr (.inr 1826)]) rfl ?_
          refine h_run 2 (pc' := 25) (l' := [(0, .inr (.inr 1826))]) (st' := [.inl ((H1.1 1826 30) + 1), .inr (.inr 1826)]) rfl ?_
          refine h_puti (i := 261) (ci := 13) (k := 30) (a := 1826) (x := ((H1.1 1826 30) + 1)) rfl rfl rfl rfl rfl rfl (by decide) (by omega) ?_
          refine h_run 1 (pc' := 0) (l' := [(0, .inr (.inr 1826))]) (st' := []) rfl ?_
          exact ih.1 _ (fr_o hf (by decide)) (by omega : (H.1 1826 30) ≤ ((H1.1 1826 30) + 1) ∧ ((H1.1 1826 30) + 1) ≤ (H.1 1826 29)) (by omega : (H1.1 1826 35) = (H.1 1826 35)) ((skp_b (by omega) (by omega) hcb).trans hs1 : skp Y.1 ((H.1 1826 29) - ((H1.1 1826 30) + 1)).toNat (((H1.1 1826 30) + 1)).toNat = s) (by omega : 2 * ((H.1 1826 29) - ((H1.1 1826 30) + 1)).toNat + 2 < w)
    · intro H1 c hf ha hk hss hsx hc hl hcs hlt hwn hnm h6 hw
      refine h_rng (fun hrg40 => ?_)
      have hY1 := YB_fr hY hf (by decide) (by decide)
      have hsz := hY.1
      have esz : (H1.1 1826 29) = (H.1 1826 29) := hf.2.2 29 (by decide)
      refine h_run 1 (pc' := 147) (l' := [(0, .inr (.inr 1826)), (1, .inl c)]) (st' := [.inr (.inr 1826)]) rfl ?_
      have g41 : -2147483648 ≤ (H1.1 1826 30) ∧ (H1.1 1826 30) ≤ 2147483647 := hrg40.1 1826 13 30 _ .int rfl rfl
      have g42 : -2147483648 ≤ (H1.1 1826 29) ∧ (H1.1 1826 29) ≤ 2147483647 := hrg40.1 1826 13 29 _ .int rfl rfl
      have e43 : (H1.1 1826 29) = (H.1 1826 29) := hf.2.2 29 (by decide)
      refine h_cv (i := 267) (j := 161) (b := 1826) (M' := mt_161) (xs := []) (rest := []) rfl rfl rfl rfl rfl rfl (Nat.le_of_ble_eq_true rfl) (Nat.le_of_ble_eq_true rfl) (by omega) (m_look (by omega) (by omega : 0 ≤ (H1.1 1826 30) ∧ (H1.1 1826 29) ≤ 1000)) ?_
      rintro _ _ ⟨rfl, rfl⟩
      have l44 := lk_rng H1
      have l44x : lk H1 = -1 ∨ (H1.1 1826 30) < (H1.1 1826 29) := lk_in H1
      refine h_run 0 (pc' := 150) (l' := [(0, .inr (.inr 1826)), (1, .inl c)]) (st' := [.inl (lk H1)]) rfl ?_
      refine h_cs (i := 274) (j := 162) (M' := mt_162) (xs := [.inl (lk H1)]) (rest := []) rfl rfl rfl rfl rfl (Nat.le_of_ble_eq_true rfl) (Nat.le_of_ble_eq_true rfl) (by omega) (m_isLetter (by omega) (by omega)) ?_
      rintro _ _ ⟨⟨rfl, b45⟩ | ⟨rfl, b45⟩, rfl⟩
      · refine h_run 0 (pc' := 153) (l' := [(0, .inr (.inr 1826)), (1, .inl c)]) (st' := [.inl 1]) rfl ?_
        refine h_zne (off := 13) (t := 166) rfl rfl (by decide) (fun _ => ?_) (fun c => absurd c (by decide))
        have hly := lk_Y hY1 (by omega) (by omega)
        refine h_run 2 (pc' := 170) (l' := [(0, .inr (.inr 1826)), (1, .inl c)]) (st' := [.inl (H1.1 1826 30)]) rfl ?_
        refine h_run 2 (pc' := 174) (l' := [(0, .inr (.inr 1826)), (1, .inl c)]) (st' := [.inl (H1.1 1826 32), .inl (H1.1 1826 30)]) rfl ?_
        have g46 : -2147483648 ≤ (H1.1 1826 32) ∧ (H1.1 1826 32) ≤ 2147483647 := hrg40.1 1826 13 32 _ .int rfl rfl
        refine h_run 2 (pc' := 177) (l' := [(0, .inr (.inr 1826)), (1, .inl c)]) (st' := [.inl 6, .inl ((H1.1 1826 30) - (H1.1 1826 32))]) rfl ?_
        refine h_ine (off := 9) (t := 186) rfl rfl (by omega) (by decide) (fun c47 => ?_) (fun c47 => ?_)
        · refine h_run 3 (pc' := 191) (l' := [(0, .inr (.inr 1826)), (1, .inl c)]) (st' := [.inr (.inl (H1.1 1826 33)), .inr (.inr 1826)]) rfl ?_
          have g48 : -9223372036854775808 ≤ (H1.1 1826 33) ∧ (H1.1 1826 33) ≤ 9223372036854775807 := hrg40.1 1826 13 33 _ .long rfl rfl
          refine h_run 3 (pc' := 195) (l' := [(0, .inr (.inr 1826)), (1, .inl c)]) (st' := [.inr (.inr 1826), .inr (.inl (z_lshl (H1.1 1826 33) 8)), .inr (.inr 1826)]) rfl ?_
          refine h_cv (i := 267) (j := 161) (b := 1826) (M' := mt_161) (xs := []) (rest := [.inr (.inl (z_lshl (H1.1 1826 33) 8)), .inr (.inr 1826)]) rfl rfl rfl rfl rfl rfl (Nat.le_of_ble_eq_true rfl) (Nat.le_of_ble_eq_true rfl) (by omega) (m_look (by omega) (by omega : 0 ≤ (H1.1 1826 30) ∧ (H1.1 1826 29) ≤ 1000)) ?_
          rintro _ _ ⟨rfl, rfl⟩
          refine h_run 0 (pc' := 198) (l' := [(0, .inr (.inr 1826)), (1, .inl c)]) (st' := [.inl (lk H1), .inr (.inl (z_lshl (H1.1 1826 33) 8)), .inr (.inr 1826)]) rfl ?_
          refine h_run 2 (pc' := 200) (l' := [(0, .inr (.inr 1826)), (1, .inl c)]) (st' := [.inr (.inl (z_lor (z_lshl (H1.1 1826 33) 8) (z_i2l (lk H1)))), .inr (.inr 1826)]) rfl ?_
          refine h_putl (i := 282) (ci := 13) (k := 33) (a := 1826) (x := (z_lor (z_lshl (H1.1 1826 33) 8) (z_i2l (lk H1)))) rfl rfl rfl rfl rfl rfl (by decide) (z_long _) ?_
          refine h_run 3 (pc' := 208) (l' := [(0, .inr (.inr 1826)), (1, .inl c)]) (st' := [.inl (H1.1 1826 30), .inr (.inr 1826)]) rfl ?_
          refine h_run 2 (pc' := 210) (l' := [(0, .inr (.inr 1826)), (1, .inl c)]) (st' := [.inl ((H1.1 1826 30) + 1), .inr (.inr 1826)]) rfl ?_
          refine h_puti (i := 261) (ci := 13) (k := 30) (a := 1826) (x := ((H1.1 1826 30) + 1)) rfl rfl rfl rfl rfl rfl (by decide) (by omega) ?_
          refine h_run 1 (pc' := 146) (l' := [(0, .inr (.inr 1826)), (1, .inl c)]) (st' := []) rfl ?_
          exact ih.2.1 _ c (fr_o (fr_o hf (by decide)) (by decide)) (by omega : (H.1 1826 30) ≤ ((H1.1 1826 30) + 1) ∧ ((H1.1 1826 30) + 1) ≤ (H.1 1826 29)) (by omega : (H1.1 1826 35) = (H.1 1826 35)) (by omega : (H1.1 1826 32) = s) (by omega : (H.1 1826 30) ≤ (H1.1 1826 32) ∧ (H1.1 1826 32) ≤ ((H1.1 1826 30) + 1)) (by omega) (Or.inl (by omega : (H1.1 1826 32) < ((H1.1 1826 30) + 1))) hcs hlt ((wnd_go (by omega) (by omega) (by unfold cW cL; omega)).trans hwn : wnd Y.1 ((H.1 1826 29) - ((H1.1 1826 30) + 1)).toNat (((H1.1 1826 30) + 1)).toNat = _) (nmr_go (by omega) hnm hly : (z_lor (z_lshl (H1.1 1826 33) 8) (z_i2l (lk H1))) = nmz Y.1 s (((H1.1 1826 30) + 1) - s).toNat) (by omega : (s : Int) ≤ ((H1.1 1826 30) + 1) ∧ ((H1.1 1826 30) + 1) - s ≤ 6) (by omega : 2 * ((H.1 1826 29) - ((H1.1 1826 30) + 1)).toNat + 1 < w)
        · refine h_run 2 (pc' := 182) (l' := [(0, .inr (.inr 1826)), (1, .inl c)]) (st' := [.inl 1, .inr (.inr 1826)]) rfl ?_
          have g50 : -2147483648 ≤ (H1.1 1826 35) ∧ (H1.1 1826 35) ≤ 2147483647 := hrg40.1 1826 13 35 _ .int rfl rfl
          refine h_cv (i := 278) (j := 159) (b := 1826) (M' := mt_159) (xs := [.inl 1]) (rest := []) rfl rfl rfl rfl rfl rfl (Nat.le_of_ble_eq_true rfl) (Nat.le_of_ble_eq_true rfl) (by omega) (m_bad0 (by omega) (by omega) (by omega : (H1.1 1826 35) = 0)) ?_
          rintro _ _ ⟨rfl, rfl⟩
          refine h_run 0 (pc' := 185) (l' := [(0, .inr (.inr 1826)), (1, .inl c)]) (st' := []) rfl ?_
          refine h_ret rfl rfl ?_
          have g51 : -2147483648 ≤ (H1.1 1826 31) ∧ (H1.1 1826 31) ≤ 2147483647 := hrg40.1 1826 13 31 _ .int rfl rfl
          have g52 : -9223372036854775808 ≤ (H1.1 1826 33) ∧ (H1.1 1826 33) ≤ 9223372036854775807 := hrg40.1 1826 13 33 _ .long rfl rfl
          exact ⟨rfl, (fr_o (fr_o hf (by decide)) (by decide)), (by omega : (H.1 1826 30) ≤ (H1.1 1826 30)), (by omega : (H1.1 1826 30) ≤ (H.1 1826 29)), (by omega : 0 ≤ (1 : Int) ∧ (1 : Int) ≤ 5), (by omega : (H.1 1826 35) ≠ 0 → (1 : Int) = (H.1 1826 35)), (by omega : 0 ≤ (H1.1 1826 32) ∧ (H1.1 1826 32) ≤ 1000), (by omega : (1 : Int) = 0 → ((H1.1 1826 31) = 0 ∨ (H.1 1826 30) < (H1.1 1826 30))), (Or.inr ⟨rfl, (by omega : (H1.1 1826 32) = (s : Int)), tKd_long hlt (by unfold cL; omega) (by have q9 := wnd_gt (b := Y.1) (n := (H.1 1826 29)) (x := (H1.1 1826 30)) (by omega) (by omega) (by unfold cW cL; omega); rw [hwn] at q9; omega)⟩)⟩
      · refine h_run 0 (pc' := 153) (l' := [(0, .inr (.inr 1826)), (1, .inl c)]) (st' := [.inl 0]) rfl ?_
        refine h_zne (off := 13) (t := 166) rfl rfl (by decide) (fun c => absurd c (by decide)) (fun _ => ?_)
        refine h_run 1 (pc' := 157) (l' := [(0, .inr (.inr 1826)), (1, .inl c)]) (st' := [.inr (.inr 1826)]) rfl ?_
        refine h_cv (i := 267) (j := 161) (b := 1826) (M' := mt_161) (xs := []) (rest := []) rfl rfl rfl rfl rfl rfl (Nat.le_of_ble_eq_true rfl) (Nat.le_of_ble_eq_true rfl) (by omega) (m_look (by omega) (by omega : 0 ≤ (H1.1 1826 30) ∧ (H1.1 1826 29) ≤ 1000)) ?_
        rintro _ _ ⟨rfl, rfl⟩
        refine h_run 0 (pc' := 160) (l' := [(0, .inr (.inr 1826)), (1, .inl c)]) (st' := [.inl (lk H1)]) rfl ?_
        refine h_cs (i := 286) (j := 163) (M' := mt_163) (xs := [.inl (lk H1)]) (rest := []) rfl rfl rfl rfl rfl (Nat.le_of_ble_eq_true rfl) (Nat.le_of_ble_eq_true rfl) (by omega) (m_isDigit (by omega) (by omega)) ?_
        rintro _ _ ⟨⟨rfl, b54⟩ | ⟨rfl, b54⟩, rfl⟩
        · refine h_run 0 (pc' := 163) (l' := [(0, .inr (.inr 1826)), (1, .inl c)]) (st' := [.inl 1]) rfl ?_
          skip
          refine h_zeq (off := 53) (t := 216) rfl rfl (by decide) (fun c => absurd c (by decide)) (fun _ => ?_)
          have hly := lk_Y hY1 (by omega) (by omega)
          refine h_run 2 (pc' := 170) (l' := [(0, .inr (.inr 1826)), (1, .inl c)]) (st' := [.inl (H1.1 1826 30)]) rfl ?_
          refine h_run 2 (pc' := 174) (l' := [(0, .inr (.inr 1826)), (1, .inl c)]) (st' := [.inl (H1.1 1826 32), .inl (H1.1 1826 30)]) rfl ?_
          have g55 : -2147483648 ≤ (H1.1 1826 32) ∧ (H1.1 1826 32) ≤ 2147483647 := hrg40.1 1826 13 32 _ .int rfl rfl
          refine h_run 2 (pc' := 177) (l' := [(0, .inr (.inr 1826)), (1, .inl c)]) (st' := [.inl 6, .inl ((H1.1 1826 30) - (H1.1 1826 32))]) rfl ?_
          refine h_ine (off := 9) (t := 186) rfl rfl (by omega) (by decide) (fun c56 => ?_) (fun c56 => ?_)
          · refine h_run 3 (pc' := 191) (l' := [(0, .inr (.inr 1826)), (1, .inl c)]) (st' := [.inr (.inl (H1.1 1826 33)), .inr (.inr 1826)]) rfl ?_
            have g57 : -9223372036854775808 ≤ (H1.1 1826 33) ∧ (H1.1 1826 33) ≤ 9223372036854775807 := hrg40.1 1826 13 33 _ .long rfl rfl
            refine h_run 3 (pc' := 195) (l' := [(0, .inr (.inr 1826)), (1, .inl c)]) (st' := [.inr (.inr 1826), .inr (.inl (z_lshl (H1.1 1826 33) 8)), .inr (.inr 1826)]) rfl ?_
            refine h_cv (i := 267) (j := 161) (b := 1826) (M' := mt_161) (xs := []) (rest := [.inr (.inl (z_lshl (H1.1 1826 33) 8)), .inr (.inr 1826)]) rfl rfl rfl rfl rfl rfl (Nat.le_of_ble_eq_true rfl) (Nat.le_of_ble_eq_true rfl) (by omega) (m_look (by omega) (by omega : 0 ≤ (H1.1 1826 30) ∧ (H1.1 1826 29) ≤ 1000)) ?_
            rintro _ _ ⟨rfl, rfl⟩
            refine h_run 0 (pc' := 198) (l' := [(0, .inr (.inr 1826)), (1, .inl c)]) (st' := [.inl (lk H1), .inr (.inl (z_lshl (H1.1 1826 33) 8)), .inr (.inr 1826)]) rfl ?_
            refine h_run 2 (pc' := 200) (l' := [(0, .inr (.inr 1826)), (1, .inl c)]) (st' := [.inr (.inl (z_lor (z_lshl (H1.1 1826 33) 8) (z_i2l (lk H1)))), .inr (.inr 1826)]) rfl ?_
            refine h_putl (i := 282) (ci := 13) (k := 33) (a := 1826) (x := (z_lor (z_lshl (H1.1 1826 33) 8) (z_i2l (lk H1)))) rfl rfl rfl rfl rfl rfl (by decide) (z_long _) ?_
            refine h_run 3 (pc' := 208) (l' := [(0, .inr (.inr 1826)), (1, .inl c)]) (st' := [.inl (H1.1 1826 30), .inr (.inr 1826)]) rfl ?_
            refine h_run 2 (pc' := 210) (l' := [(0, .inr (.inr 1826)), (1, .inl c)]) (st' := [.inl ((H1.1 1826 30) + 1), .inr (.inr 1826)]) rfl ?_
            refine h_puti (i := 261) (ci := 13) (k := 30) (a := 1826) (x := ((H1.1 1826 30) + 1)) rfl rfl rfl rfl rfl rfl (by decide) (by omega) ?_
            refine h_run 1 (pc' := 146) (l' := [(0, .inr (.inr 1826)), (1, .inl c)]) (st' := []) rfl ?_
            exact ih.2.1 _ c (fr_o (fr_o hf (by decide)) (by decide)) (by omega : (H.1 1826 30) ≤ ((H1.1 1826 30) + 1) ∧ ((H1.1 1826 30) + 1) ≤ (H.1 1826 29)) (by omega : (H1.1 1826 35) = (H.1 1826 35)) (by omega : (H1.1 1826 32) = s) (by omega : (H.1 1826 30) ≤ (H1.1 1826 32) ∧ (H1.1 1826 32) ≤ ((H1.1 1826 30) + 1)) (by omega) (Or.inl (by omega : (H1.1 1826 32) < ((H1.1 1826 30) + 1))) hcs hlt ((wnd_go (by omega) (by omega) (by unfold cW cL; omega)).trans hwn : wnd Y.1 ((H.1 1826 29) - ((H1.1 1826 30) + 1)).toNat (((H1.1 1826 30) + 1)).toNat = _) (nmr_go (by omega) hnm hly : (z_lor (z_lshl (H1.1 1826 33) 8) (z_i2l (lk H1))) = nmz Y.1 s (((H1.1 1826 30) + 1) - s).toNat) (by omega : (s : Int) ≤ ((H1.1 1826 30) + 1) ∧ ((H1.1 1826 30) + 1) - s ≤ 6) (by omega : 2 * ((H.1 1826 29) - ((H1.1 1826 30) + 1)).toNat + 1 < w)
          · refine h_run 2 (pc' := 182) (l' := [(0, .inr (.inr 1826)), (1, .inl c)]) (st' := [.inl 1, .inr (.inr 1826)]) rfl ?_
            have g59 : -2147483648 ≤ (H1.1 1826 35) ∧ (H1.1 1826 35) ≤ 2147483647 := hrg40.1 1826 13 35 _ .int rfl rfl
            refine h_cv (i := 278) (j := 159) (b := 1826) (M' := mt_159) (xs := [.inl 1]) (rest := []) rfl rfl rfl rfl rfl rfl (Nat.le_of_ble_eq_true rfl) (Nat.le_of_ble_eq_true rfl) (by omega) (m_bad0 (by omega) (by omega) (by omega : (H1.1 1826 35) = 0)) ?_
            rintro _ _ ⟨rfl, rfl⟩
            refine h_run 0 (pc' := 185) (l' := [(0, .inr (.inr 1826)), (1, .inl c)]) (st' := []) rfl ?_
            refine h_ret rfl rfl ?_
            have g60 : -2147483648 ≤ (H1.1 1826 31) ∧ (H1.1 1826 31) ≤ 2147483647 := hrg40.1 1826 13 31 _ .int rfl rfl
            have g61 : -9223372036854775808 ≤ (H1.1 1826 33) ∧ (H1.1 1826 33) ≤ 9223372036854775807 := hrg40.1 1826 13 33 _ .long rfl rfl
            exact ⟨rfl, (fr_o (fr_o hf (by decide)) (by decide)), (by omega : (H.1 1826 30) ≤ (H1.1 1826 30)), (by omega : (H1.1 1826 30) ≤ (H.1 1826 29)), (by omega : 0 ≤ (1 : Int) ∧ (1 : Int) ≤ 5), (by omega : (H.1 1826 35) ≠ 0 → (1 : Int) = (H.1 1826 35)), (by omega : 0 ≤ (H1.1 1826 32) ∧ (H1.1 1826 32) ≤ 1000), (by omega : (1 : Int) = 0 → ((H1.1 1826 31) = 0 ∨ (H.1 1826 30) < (H1.1 1826 30))), (Or.inr ⟨rfl, (by omega : (H1.1 1826 32) = (s : Int)), tKd_long hlt (by unfold cL; omega) (by have q9 := wnd_gt (b := Y.1) (n := (H.1 1826 29)) (x := (H1.1 1826 30)) (by omega) (by omega) (by unfold cW cL; omega); rw [hwn] at q9; omega)⟩)⟩
        · refine h_run 0 (pc' := 163) (l' := [(0, .inr (.inr 1826)), (1, .inl c)]) (st' := [.inl 0]) rfl ?_
          skip
          refine h_zeq (off := 53) (t := 216) rfl rfl (by decide) (fun _ => ?_) (fun c => absurd c (by decide))
          have g62 : -2147483648 ≤ (H1.1 1826 32) ∧ (H1.1 1826 32) ≤ 2147483647 := hrg40.1 1826 13 32 _ .int rfl rfl
          have g63 : -9223372036854775808 ≤ (H1.1 1826 33) ∧ (H1.1 1826 33) ≤ 9223372036854775807 := hrg40.1 1826 13 33 _ .long rfl rfl
          have hee : wnd Y.1 (Y.2 - s) s = ((H1.1 1826 30)).toNat := hwn.symm.trans (wnd_no (word_no hY1 (by omega) esz (by unfold cW cL; omega)))
          have hpos : (s : Int) < (H1.1 1826 30) := by rcases hl with q | q <;> omega
          have hnm3 : (H1.1 1826 33) = nmz Y.1 s (((H1.1 1826 30)).toNat - s) := by rw [hnm]; congr 1; omega
          have hkw : c ≤ 90 → (H1.1 1826 33) ≠ 1684108385 ∧ (H1.1 1826 33) ≠ 6714734 ∧ (H1.1 1826 33) ≠ 1920298085 ∧ (H1.1 1826 33) ≠ 7102839 := by intro q; rw [hnm3]; exact nmz_kw (by omega) (fun j hj => YB_b hY (by omega)) (by omega)
          exact ih.2.2 _ c hf (by omega : (H.1 1826 30) ≤ (H1.1 1826 30) ∧ (H1.1 1826 30) ≤ (H.1 1826 29)) (by omega : (H1.1 1826 35) = (H.1 1826 35)) (by omega : (H1.1 1826 32) = s) (by omega : (H.1 1826 30) ≤ (H1.1 1826 32)) hc hcs hlt hee (by omega) hnm3 hkw (by omega : 0 < w)
    · intro H1 c hf ha hk hss hsx hc hcs hlt hee hpos hnm3 hkw hw
      refine h_rng (fun hrg64 => ?_)
      have hsz := hY.1
      have esz : (H1.1 1826 29) = (H.1 1826 29) := hf.2.2 29 (by decide)
      clear hY hs
      refine h_run 3 (pc' := 220) (l' := [(0, .inr (.inr 1826)), (1, .inl c)]) (st' := [.inl 97, .inl c, .inr (.inr 1826)]) rfl ?_
      refine h_ilt (off := 7) (t := 227) rfl rfl (by omega) (by decide) (fun c65 => ?_) (fun c65 => ?_)
      · refine h_run 1 (pc' := 228) (l' := [(0, .inr (.inr 1826)), (1, .inl c)]) (st' := [.inl 2, .inr (.inr 1826)]) rfl ?_
        refine h_puti (i := 271) (ci := 13) (k := 31) (a := 1826) (x := 2) rfl rfl rfl rfl rfl rfl (by decide) (by decide) ?_
        refine h_run 3 (pc' := 236) (l' := [(0, .inr (.inr 1826)), (1, .inl c)]) (st' := [.inr (.inl (H1.1 1826 33)), .inr (.inr 1826)]) rfl ?_
        have g66 : -9223372036854775808 ≤ (H1.1 1826 33) ∧ (H1.1 1826 33) ≤ 9223372036854775807 := hrg64.1 1826 13 33 _ .long rfl rfl
        refine h_run 4 (pc' := 244) (l' := [(0, .inr (.inr 1826)), (1, .inl c)]) (st' := [.inl 97, .inl 116, .inl 97, .inl 100, .inr (.inl (H1.1 1826 33)), .inr (.inr 1826)]) rfl ?_
        refine h_cs (i := 289) (j := 164) (M' := mt_164) (xs := [.inl 97, .inl 116, .inl 97, .inl 100]) (rest := [.inr (.inl (H1.1 1826 33)), .inr (.inr 1826)]) rfl rfl rfl rfl rfl (Nat.le_of_ble_eq_true rfl) (Nat.le_of_ble_eq_true rfl) (by omega) (n_word100 (by omega)) ?_
        rintro _ _ ⟨rfl, rfl⟩
        refine h_run 0 (pc' := 247) (l' := [(0, .inr (.inr 1826)), (1, .inl c)]) (st' := [.inr (.inl 1684108385), .inr (.inl (H1.1 1826 33)), .inr (.inr 1826)]) rfl ?_
        refine h_run 1 (pc' := 248) (l' := [(0, .inr (.inr 1826)), (1, .inl c)]) (st' := [.inl (z_cmp (H1.1 1826 33) 1684108385), .inr (.inr 1826)]) rfl ?_
        refine h_zne (off := 7) (t := 255) rfl rfl (z_int _) (fun c67 => ?_) (fun c67 => ?_)
        · have k1 : hid ((H1.1 1826 33) ≠ 1684108385) := fun q => absurd ((z_cmp_eq (by omega) (by omega)).mpr q) (by omega)
          clear c67
          refine h_run 2 (pc' := 259) (l' := [(0, .inr (.inr 1826)), (1, .inl c)]) (st' := [.inr (.inl (H1.1 1826 33)), .inr (.inr 1826)]) rfl ?_
          refine h_run 4 (pc' := 266) (l' := [(0, .inr (.inr 1826)), (1, .inl c)]) (st' := [.inl 0, .inl 110, .inl 117, .inl 102, .inr (.inl (H1.1 1826 33)), .inr (.inr 1826)]) rfl ?_
          refine h_cs (i := 289) (j := 164) (M' := mt_164) (xs := [.inl 0, .inl 110, .inl 117, .inl 102]) (rest := [.inr (.inl (H1.1 1826 33)), .inr (.inr 1826)]) rfl rfl rfl rfl rfl (Nat.le_of_ble_eq_true rfl) (Nat.le_of_ble_eq_true rfl) (by omega) (n_word102 (by omega)) ?_
          rintro _ _ ⟨rfl, rfl⟩
          refine h_run 0 (pc' := 269) (l' := [(0, .inr (.inr 1826)), (1, .inl c)]) (st' := [.inr (.inl 6714734), .inr (.inl (H1.1 1826 33)), .inr (.inr 1826)]) rfl ?_
          refine h_run 1 (pc' := 270) (l' := [(0, .inr (.inr 1826)), (1, .inl c)]) (st' := [.inl (z_cmp (H1.1 1826 33) 6714734), .inr (.inr 1826)]) rfl ?_
          refine h_zne (off := 7) (t := 277) rfl rfl (z_int _) (fun c68 => ?_) (fun c68 => ?_)
          · have k2 : hid ((H1.1 1826 33) ≠ 6714734) := fun q => absurd ((z_cmp_eq (by omega) (by omega)).mpr q) (by omega)
            clear c68
            refine h_run 2 (pc' := 281) (l' := [(0, .inr (.inr 1826)), (1, .inl c)]) (st' := [.inr (.inl (H1.1 1826 33)), .inr (.inr 1826)]) rfl ?_
            refine h_run 4 (pc' := 289) (l' := [(0, .inr (.inr 1826)), (1, .inl c)]) (st' := [.inl 101, .inl 108, .inl 117, .inl 114, .inr (.inl (H1.1 1826 33)), .inr (.inr 1826)]) rfl ?_
            refine h_cs (i := 289) (j := 164) (M' := mt_164) (xs := [.inl 101, .inl 108, .inl 117, .inl 114]) (rest := [.inr (.inl (H1.1 1826 33)), .inr (.inr 1826)]) rfl rfl rfl rfl rfl (Nat.le_of_ble_eq_true rfl) (Nat.le_of_ble_eq_true rfl) (by omega) (n_word114 (by omega)) ?_
            rintro _ _ ⟨rfl, rfl⟩
            refine h_run 0 (pc' := 292) (l' := [(0, .inr (.inr 1826)), (1, .inl c)]) (st' := [.inr (.inl 1920298085), .inr (.inl (H1.1 1826 33)), .inr (.inr 1826)]) rfl ?_
            refine h_run 1 (pc' := 293) (l' := [(0, .inr (.inr 1826)), (1, .inl c)]) (st' := [.inl (z_cmp (H1.1 1826 33) 1920298085), .inr (.inr 1826)]) rfl ?_
            refine h_zne (off := 7) (t := 300) rfl rfl (z_int _) (fun c69 => ?_) (fun c69 => ?_)
            · have k3 : hid ((H1.1 1826 33) ≠ 1920298085) := fun q => absurd ((z_cmp_eq (by omega) (by omega)).mpr q) (by omega)
              clear c69
              refine h_run 2 (pc' := 304) (l' := [(0, .inr (.inr 1826)), (1, .inl c)]) (st' := [.inr (.inl (H1.1 1826 33)), .inr (.inr 1826)]) rfl ?_
              refine h_run 4 (pc' := 311) (l' := [(0, .inr (.inr 1826)), (1, .inl c)]) (st' := [.inl 0, .inl 119, .inl 97, .inl 108, .inr (.inl (H1.1 1826 33)), .inr (.inr 1826)]) rfl ?_
              refine h_cs (i := 289) (j := 164) (M' := mt_164) (xs := [.inl 0, .inl 119, .inl 97, .inl 108]) (rest := [.inr (.inl (H1.1 1826 33)), .inr (.inr 1826)]) rfl rfl rfl rfl rfl (Nat.le_of_ble_eq_true rfl) (Nat.le_of_ble_eq_true rfl) (by omega) (n_word108 (by omega)) ?_
              rintro _ _ ⟨rfl, rfl⟩
              refine h_run 0 (pc' := 314) (l' := [(0, .inr (.inr 1826)), (1, .inl c)]) (st' := [.inr (.inl 7102839), .inr (.inl (H1.1 1826 33)), .inr (.inr 1826)]) rfl ?_
              refine h_run 1 (pc' := 315) (l' := [(0, .inr (.inr 1826)), (1, .inl c)]) (st' := [.inl (z_cmp (H1.1 1826 33) 7102839), .inr (.inr 1826)]) rfl ?_
              refine h_zne (off := 8) (t := 323) rfl rfl (z_int _) (fun c70 => ?_) (fun c70 => ?_)
              · have k4 : hid ((H1.1 1826 33) ≠ 7102839) := fun q => absurd ((z_cmp_eq (by omega) (by omega)).mpr q) (by omega)
                clear c70
                refine h_run 2 (pc' := 327) (l' := [(0, .inr (.inr 1826)), (1, .inl c)]) (st' := [.inl 2, .inr (.inr 1826)]) rfl ?_
                refine h_puti (i := 271) (ci := 13) (k := 31) (a := 1826) (x := 2) rfl rfl rfl rfl rfl rfl (by decide) (by decide) ?_
                refine h_ret rfl rfl ?_
                have g71 : -2147483648 ≤ (H1.1 1826 30) ∧ (H1.1 1826 30) ≤ 2147483647 := hrg64.1 1826 13 30 _ .int rfl rfl
                have g72 : -2147483648 ≤ (H1.1 1826 35) ∧ (H1.1 1826 35) ≤ 2147483647 := hrg64.1 1826 13 35 _ .int rfl rfl
                have g73 : -2147483648 ≤ (H1.1 1826 32) ∧ (H1.1 1826 32) ≤ 2147483647 := hrg64.1 1826 13 32 _ .int rfl rfl
                have g74 : -2147483648 ≤ (H1.1 1826 29) ∧ (H1.1 1826 29) ≤ 2147483647 := hrg64.1 1826 13 29 _ .int rfl rfl
                have e75 : (H1.1 1826 29) = (H.1 1826 29) := hf.2.2 29 (by decide)
                exact ⟨rfl, (fr_o (fr_o hf (by decide)) (by decide)), (by omega : (H.1 1826 30) ≤ (H1.1 1826 30)), (by omega : (H1.1 1826 30) ≤ (H.1 1826 29)), (by omega : 0 ≤ (H1.1 1826 35) ∧ (H1.1 1826 35) ≤ 5), (by omega : (H.1 1826 35) ≠ 0 → (H1.1 1826 35) = (H.1 1826 35)), (by omega : 0 ≤ (H1.1 1826 32) ∧ (H1.1 1826 32) ≤ 1000), (by omega : (H1.1 1826 35) = 0 → ((2 : Int) = 0 ∨ (H.1 1826 30) < (H1.1 1826 30))), (Or.inl ⟨(by omega : (H1.1 1826 35) = 0), TKs_word (e := ((H1.1 1826 30)).toNat) hlt (by unfold cL; omega) hee (by omega) (by omega : (H1.1 1826 32) = (s : Int)) (by omega : (H1.1 1826 30) = ((((H1.1 1826 30)).toNat : Nat) : Int)) (hnm3 : (H1.1 1826 33) = nmz Y.1 s (((H1.1 1826 30)).toNat - s)) (by rw [← hnm3, ← hcs]; exact (kw_tok hc hkw (Or.inr (Or.inr (Or.inr (Or.inr ⟨⟨k1, k2, k3, k4⟩, Or.inl ⟨by omega, rfl⟩⟩)))) : (2 : Int) = (if c ≤ 90 then 3 else kwd ((H1.1 1826 33))) - 1))⟩)⟩
              · have k4 : hid ((H1.1 1826 33) = 7102839) := (z_cmp_eq (by omega) (by omega)).mp (by omega)
                clear c70
                refine h_run 2 (pc' := 327) (l' := [(0, .inr (.inr 1826)), (1, .inl c)]) (st' := [.inl 6, .inr (.inr 1826)]) rfl ?_
                refine h_puti (i := 271) (ci := 13) (k := 31) (a := 1826) (x := 6) rfl rfl rfl rfl rfl rfl (by decide) (by decide) ?_
                refine h_ret rfl rfl ?_
                have g76 : -2147483648 ≤ (H1.1 1826 30) ∧ (H1.1 1826 30) ≤ 2147483647 := hrg64.1 1826 13 30 _ .int rfl rfl
                have g77 : -2147483648 ≤ (H1.1 1826 35) ∧ (H1.1 1826 35) ≤ 2147483647 := hrg64.1 1826 13 35 _ .int rfl rfl
                have g78 : -2147483648 ≤ (H1.1 1826 32) ∧ (H1.1 1826 32) ≤ 2147483647 := hrg64.1 1826 13 32 _ .int rfl rfl
                have g79 : -2147483648 ≤ (H1.1 1826 29) ∧ (H1.1 1826 29) ≤ 2147483647 := hrg64.1 1826 13 29 _ .int rfl rfl
                have e80 : (H1.1 1826 29) = (H.1 1826 29) := hf.2.2 29 (by decide)
                exact ⟨rfl, (fr_o (fr_o hf (by decide)) (by decide)), (by omega : (H.1 1826 30) ≤ (H1.1 1826 30)), (by omega : (H1.1 1826 30) ≤ (H.1 1826 29)), (by omega : 0 ≤ (H1.1 1826 35) ∧ (H1.1 1826 35) ≤ 5), (by omega : (H.1 1826 35) ≠ 0 → (H1.1 1826 35) = (H.1 1826 35)), (by omega : 0 ≤ (H1.1 1826 32) ∧ (H1.1 1826 32) ≤ 1000), (by omega : (H1.1 1826 35) = 0 → ((6 : Int) = 0 ∨ (H.1 1826 30) < (H1.1 1826 30))), (Or.inl ⟨(by omega : (H1.1 1826 35) = 0), TKs_word (e := ((H1.1 1826 30)).toNat) hlt (by unfold cL; omega) hee (by omega) (by omega : (H1.1 1826 32) = (s : Int)) (by omega : (H1.1 1826 30) = ((((H1.1 1826 30)).toNat : Nat) : Int)) (hnm3 : (H1.1 1826 33) = nmz Y.1 s (((H1.1 1826 30)).toNat - s)) (by rw [← hnm3, ← hcs]; exact (kw_tok hc hkw (Or.inr (Or.inr (Or.inr (Or.inl ⟨k4, rfl⟩)))) : (6 : Int) = (if c ≤ 90 then 3 else kwd ((H1.1 1826 33))) - 1))⟩)⟩
            · have k3 : hid ((H1.1 1826 33) = 1920298085) := (z_cmp_eq (by omega) (by omega)).mp (by omega)
              clear c69
              refine h_run 2 (pc' := 327) (l' := [(0, .inr (.inr 1826)), (1, .inl c)]) (st' := [.inl 5, .inr (.inr 1826)]) rfl ?_
              refine h_puti (i := 271) (ci := 13) (k := 31) (a := 1826) (x := 5) rfl rfl rfl rfl rfl rfl (by decide) (by decide) ?_
              refine h_ret rfl rfl ?_
              have g81 : -2147483648 ≤ (H1.1 1826 30) ∧ (H1.1 1826 30) ≤ 2147483647 := hrg64.1 1826 13 30 _ .int rfl rfl
              have g82 : -2147483648 ≤ (H1.1 1826 35) ∧ (H1.1 1826 35) ≤ 2147483647 := hrg64.1 1826 13 35 _ .int rfl rfl
              have g83 : -2147483648 ≤ (H1.1 1826 32) ∧ (H1.1 1826 32) ≤ 2147483647 := hrg64.1 1826 13 32 _ .int rfl rfl
              have g84 : -2147483648 ≤ (H1.1 1826 29) ∧ (H1.1 1826 29) ≤ 2147483647 := hrg64.1 1826 13 29 _ .int rfl rfl
              have e85 : (H1.1 1826 29) = (H.1 1826 29) := hf.2.2 29 (by decide)
              exact ⟨rfl, (fr_o (fr_o hf (by decide)) (by decide)), (by omega : (H.1 1826 30) ≤ (H1.1 1826 30)), (by omega : (H1.1 1826 30) ≤ (H.1 1826 29)), (by omega : 0 ≤ (H1.1 1826 35) ∧ (H1.1 1826 35) ≤ 5), (by omega : (H.1 1826 35) ≠ 0 → (H1.1 1826 35) = (H.1 1826 35)), (by omega : 0 ≤ (H1.1 1826 32) ∧ (H1.1 1826 32) ≤ 1000), (by omega : (H1.1 1826 35) = 0 → ((5 : Int) = 0 ∨ (H.1 1826 30) < (H1.1 1826 30))), (Or.inl ⟨(by omega : (H1.1 1826 35) = 0), TKs_word (e := ((H1.1 1826 30)).toNat) hlt (by unfold cL; omega) hee (by omega) (by omega : (H1.1 1826 32) = (s : Int)) (by omega : (H1.1 1826 30) = ((((H1.1 1826 30)).toNat : Nat) : Int)) (hnm3 : (H1.1 1826 33) = nmz Y.1 s (((H1.1 1826 30)).toNat - s)) (by rw [← hnm3, ← hcs]; exact (kw_tok hc hkw (Or.inr (Or.inr (Or.inl ⟨k3, rfl⟩))) : (5 : Int) = (if c ≤ 90 then 3 else kwd ((H1.1 1826 33))) - 1))⟩)⟩
          · have k2 : hid ((H1.1 1826 33) = 6714734) := (z_cmp_eq (by omega) (by omega)).mp (by omega)
            clear c68
            refine h_run 2 (pc' := 327) (l' := [(0, .inr (.inr 1826)), (1, .inl c)]) (st' := [.inl 4, .inr (.inr 1826)]) rfl ?_
            refine h_puti (i := 271) (ci := 13) (k := 31) (a := 1826) (x := 4) rfl rfl rfl rfl rfl rfl (by decide) (by decide) ?_
            refine h_ret rfl rfl ?_
            have g86 : -2147483648 ≤ (H1.1 1826 30) ∧ (H1.1 1826 30) ≤ 2147483647 := hrg64.1 1826 13 30 _ .int rfl rfl
            have g87 : -2147483648 ≤ (H1.1 1826 35) ∧ (H1.1 1826 35) ≤ 2147483647 := hrg64.1 1826 13 35 _ .int rfl rfl
            have g88 : -2147483648 ≤ (H1.1 1826 32) ∧ (H1.1 1826 32) ≤ 2147483647 := hrg64.1 1826 13 32 _ .int rfl rfl
            have g89 : -2147483648 ≤ (H1.1 1826 29) ∧ (H1.1 1826 29) ≤ 2147483647 := hrg64.1 1826 13 29 _ .int rfl rfl
            have e90 : (H1.1 1826 29) = (H.1 1826 29) := hf.2.2 29 (by decide)
            exact ⟨rfl, (fr_o (fr_o hf (by decide)) (by decide)), (by omega : (H.1 1826 30) ≤ (H1.1 1826 30)), (by omega : (H1.1 1826 30) ≤ (H.1 1826 29)), (by omega : 0 ≤ (H1.1 1826 35) ∧ (H1.1 1826 35) ≤ 5), (by omega : (H.1 1826 35) ≠ 0 → (H1.1 1826 35) = (H.1 1826 35)), (by omega : 0 ≤ (H1.1 1826 32) ∧ (H1.1 1826 32) ≤ 1000), (by omega : (H1.1 1826 35) = 0 → ((4 : Int) = 0 ∨ (H.1 1826 30) < (H1.1 1826 30))), (Or.inl ⟨(by omega : (H1.1 1826 35) = 0), TKs_word (e := ((H1.1 1826 30)).toNat) hlt (by unfold cL; omega) hee (by omega) (by omega : (H1.1 1826 32) = (s : Int)) (by omega : (H1.1 1826 30) = ((((H1.1 1826 30)).toNat : Nat) : Int)) (hnm3 : (H1.1 1826 33) = nmz Y.1 s (((H1.1 1826 30)).toNat - s)) (by rw [← hnm3, ← hcs]; exact (kw_tok hc hkw (Or.inr (Or.inl ⟨k2, rfl⟩)) : (4 : Int) = (if c ≤ 90 then 3 else kwd ((H1.1 1826 33))) - 1))⟩)⟩
        · have k1 : hid ((H1.1 1826 33) = 1684108385) := (z_cmp_eq (by omega) (by omega)).mp (by omega)
          clear c67
          refine h_run 2 (pc' := 327) (l' := [(0, .inr (.inr 1826)), (1, .inl c)]) (st' := [.inl 3, .inr (.inr 1826)]) rfl ?_
          refine h_puti (i := 271) (ci := 13) (k := 31) (a := 1826) (x := 3) rfl rfl rfl rfl rfl rfl (by decide) (by decide) ?_
          refine h_ret rfl rfl ?_
          have g91 : -2147483648 ≤ (H1.1 1826 30) ∧ (H1.1 1826 30) ≤ 2147483647 := hrg64.1 1826 13 30 _ .int rfl rfl
          have g92 : -2147483648 ≤ (H1.1 1826 35) ∧ (H1.1 1826 35) ≤ 2147483647 := hrg64.1 1826 13 35 _ .int rfl rfl
          have g93 : -2147483648 ≤ (H1.1 1826 32) ∧ (H1.1 1826 32) ≤ 2147483647 := hrg64.1 1826 13 32 _ .int rfl rfl
          have g94 : -2147483648 ≤ (H1.1 1826 29) ∧ (H1.1 1826 29) ≤ 2147483647 := hrg64.1 1826 13 29 _ .int rfl rfl
          have e95 : (H1.1 1826 29) = (H.1 1826 29) := hf.2.2 29 (by decide)
          exact ⟨rfl, (fr_o (fr_o hf (by decide)) (by decide)), (by omega : (H.1 1826 30) ≤ (H1.1 1826 30)), (by omega : (H1.1 1826 30) ≤ (H.1 1826 29)), (by omega : 0 ≤ (H1.1 1826 35) ∧ (H1.1 1826 35) ≤ 5), (by omega : (H.1 1826 35) ≠ 0 → (H1.1 1826 35) = (H.1 1826 35)), (by omega : 0 ≤ (H1.1 1826 32) ∧ (H1.1 1826 32) ≤ 1000), (by omega : (H1.1 1826 35) = 0 → ((3 : Int) = 0 ∨ (H.1 1826 30) < (H1.1 1826 30))), (Or.inl ⟨(by omega : (H1.1 1826 35) = 0), TKs_word (e := ((H1.1 1826 30)).toNat) hlt (by unfold cL; omega) hee (by omega) (by omega : (H1.1 1826 32) = (s : Int)) (by omega : (H1.1 1826 30) = ((((H1.1 1826 30)).toNat : Nat) : Int)) (hnm3 : (H1.1 1826 33) = nmz Y.1 s (((H1.1 1826 30)).toNat - s)) (by rw [← hnm3, ← hcs]; exact (kw_tok hc hkw (Or.inl ⟨k1, rfl⟩) : (3 : Int) = (if c ≤ 90 then 3 else kwd ((H1.1 1826 33))) - 1))⟩)⟩
      · refine h_run 2 (pc' := 228) (l' := [(0, .inr (.inr 1826)), (1, .inl c)]) (st' := [.inl 1, .inr (.inr 1826)]) rfl ?_
        refine h_puti (i := 271) (ci := 13) (k := 31) (a := 1826) (x := 1) rfl rfl rfl rfl rfl rfl (by decide) (by decide) ?_
        refine h_run 3 (pc' := 236) (l' := [(0, .inr (.inr 1826)), (1, .inl c)]) (st' := [.inr (.inl (H1.1 1826 33)), .inr (.inr 1826)]) rfl ?_
        have g96 : -9223372036854775808 ≤ (H1.1 1826 33) ∧ (H1.1 1826 33) ≤ 9223372036854775807 := hrg64.1 1826 13 33 _ .long rfl rfl
        refine h_run 4 (pc' := 244) (l' := [(0, .inr (.inr 1826)), (1, .inl c)]) (st' := [.inl 97, .inl 116, .inl 97, .inl 100, .inr (.inl (H1.1 1826 33)), .inr (.inr 1826)]) rfl ?_
        refine h_cs (i := 289) (j := 164) (M' := mt_164) (xs := [.inl 97, .inl 116, .inl 97, .inl 100]) (rest := [.inr (.inl (H1.1 1826 33)), .inr (.inr 1826)]) rfl rfl rfl rfl rfl (Nat.le_of_ble_eq_true rfl) (Nat.le_of_ble_eq_true rfl) (by omega) (n_word100 (by omega)) ?_
        rintro _ _ ⟨rfl, rfl⟩
        refine h_run 0 (pc' := 247) (l' := [(0, .inr (.inr 1826)), (1, .inl c)]) (st' := [.inr (.inl 1684108385), .inr (.inl (H1.1 1826 33)), .inr (.inr 1826)]) rfl ?_
        refine h_run 1 (pc' := 248) (l' := [(0, .inr (.inr 1826)), (1, .inl c)]) (st' := [.inl (z_cmp (H1.1 1826 33) 1684108385), .inr (.inr 1826)]) rfl ?_
        refine h_zne (off := 7) (t := 255) rfl rfl (z_int _) (fun c97 => ?_) (fun c97 => ?_)
        · have k1 : hid ((H1.1 1826 33) ≠ 1684108385) := fun q => absurd ((z_cmp_eq (by omega) (by omega)).mpr q) (by omega)
          clear c97
          refine h_run 2 (pc' := 259) (l' := [(0, .inr (.inr 1826)), (1, .inl c)]) (st' := [.inr (.inl (H1.1 1826 33)), .inr (.inr 1826)]) rfl ?_
          refine h_run 4 (pc' := 266) (l' := [(0, .inr (.inr 1826)), (1, .inl c)]) (st' := [.inl 0, .inl 110, .inl 117, .inl 102, .inr (.inl (H1.1 1826 33)), .inr (.inr 1826)]) rfl ?_
          refine h_cs (i := 289) (j := 164) (M' := mt_164) (xs := [.inl 0, .inl 110, .inl 117, .inl 102]) (rest := [.inr (.inl (H1.1 1826 33)), .inr (.inr 1826)]) rfl rfl rfl rfl rfl (Nat.le_of_ble_eq_true rfl) (Nat.le_of_ble_eq_true rfl) (by omega) (n_word102 (by omega)) ?_
          rintro _ _ ⟨rfl, rfl⟩
          refine h_run 0 (pc' := 269) (l' := [(0, .inr (.inr 1826)), (1, .inl c)]) (st' := [.inr (.inl 6714734), .inr (.inl (H1.1 1826 33)), .inr (.inr 1826)]) rfl ?_
          refine h_run 1 (pc' := 270) (l' := [(0, .inr (.inr 1826)), (1, .inl c)]) (st' := [.inl (z_cmp (H1.1 1826 33) 6714734), .inr (.inr 1826)]) rfl ?_
          refine h_zne (off := 7) (t := 277) rfl rfl (z_int _) (fun c98 => ?_) (fun c98 => ?_)
          · have k2 : hid ((H1.1 1826 33) ≠ 6714734) := fun q => absurd ((z_cmp_eq (by omega) (by omega)).mpr q) (by omega)
            clear c98
            refine h_run 2 (pc' := 281) (l' := [(0, .inr (.inr 1826)), (1, .inl c)]) (st' := [.inr (.inl (H1.1 1826 33)), .inr (.inr 1826)]) rfl ?_
            refine h_run 4 (pc' := 289) (l' := [(0, .inr (.inr 1826)), (1, .inl c)]) (st' := [.inl 101, .inl 108, .inl 117, .inl 114, .inr (.inl (H1.1 1826 33)), .inr (.inr 1826)]) rfl ?_
            refine h_cs (i := 289) (j := 164) (M' := mt_164) (xs := [.inl 101, .inl 108, .inl 117, .inl 114]) (rest := [.inr (.inl (H1.1 1826 33)), .inr (.inr 1826)]) rfl rfl rfl rfl rfl (Nat.le_of_ble_eq_true rfl) (Nat.le_of_ble_eq_true rfl) (by omega) (n_word114 (by omega)) ?_
            rintro _ _ ⟨rfl, rfl⟩
            refine h_run 0 (pc' := 292) (l' := [(0, .inr (.inr 1826)), (1, .inl c)]) (st' := [.inr (.inl 1920298085), .inr (.inl (H1.1 1826 33)), .inr (.inr 1826)]) rfl ?_
            refine h_run 1 (pc' := 293) (l' := [(0, .inr (.inr 1826)), (1, .inl c)]) (st' := [.inl (z_cmp (H1.1 1826 33) 1920298085), .inr (.inr 1826)]) rfl ?_
            refine h_zne (off := 7) (t := 300) rfl rfl (z_int _) (fun c99 => ?_) (fun c99 => ?_)
            · have k3 : hid ((H1.1 1826 33) ≠ 1920298085) := fun q => absurd ((z_cmp_eq (by omega) (by omega)).mpr q) (by omega)
              clear c99
              refine h_run 2 (pc' := 304) (l' := [(0, .inr (.inr 1826)), (1, .inl c)]) (st' := [.inr (.inl (H1.1 1826 33)), .inr (.inr 1826)]) rfl ?_
              refine h_run 4 (pc' := 311) (l' := [(0, .inr (.inr 1826)), (1, .inl c)]) (st' := [.inl 0, .inl 119, .inl 97, .inl 108, .inr (.inl (H1.1 1826 33)), .inr (.inr 1826)]) rfl ?_
              refine h_cs (i := 289) (j := 164) (M' := mt_164) (xs := [.inl 0, .inl 119, .inl 97, .inl 108]) (rest := [.inr (.inl (H1.1 1826 33)), .inr (.inr 1826)]) rfl rfl rfl rfl rfl (Nat.le_of_ble_eq_true rfl) (Nat.le_of_ble_eq_true rfl) (by omega) (n_word108 (by omega)) ?_
              rintro _ _ ⟨rfl, rfl⟩
              refine h_run 0 (pc' := 314) (l' := [(0, .inr (.inr 1826)), (1, .inl c)]) (st' := [.inr (.inl 7102839), .inr (.inl (H1.1 1826 33)), .inr (.inr 1826)]) rfl ?_
              refine h_run 1 (pc' := 315) (l' := [(0, .inr (.inr 1826)), (1, .inl c)]) (st' := [.inl (z_cmp (H1.1 1826 33) 7102839), .inr (.inr 1826)]) rfl ?_
              refine h_zne (off := 8) (t := 323) rfl rfl (z_int _) (fun c100 => ?_) (fun c100 => ?_)
              · have k4 : hid ((H1.1 1826 33) ≠ 7102839) := fun q => absurd ((z_cmp_eq (by omega) (by omega)).mpr q) (by omega)
                clear c100
                refine h_run 2 (pc' := 327) (l' := [(0, .inr (.inr 1826)), (1, .inl c)]) (st' := [.inl 1, .inr (.inr 1826)]) rfl ?_
                refine h_puti (i := 271) (ci := 13) (k := 31) (a := 1826) (x := 1) rfl rfl rfl rfl rfl rfl (by decide) (by decide) ?_
                refine h_ret rfl rfl ?_
                have g101 : -2147483648 ≤ (H1.1 1826 30) ∧ (H1.1 1826 30) ≤ 2147483647 := hrg64.1 1826 13 30 _ .int rfl rfl
                have g102 : -2147483648 ≤ (H1.1 1826 35) ∧ (H1.1 1826 35) ≤ 2147483647 := hrg64.1 1826 13 35 _ .int rfl rfl
                have g103 : -2147483648 ≤ (H1.1 1826 32) ∧ (H1.1 1826 32) ≤ 2147483647 := hrg64.1 1826 13 32 _ .int rfl rfl
                have g104 : -2147483648 ≤ (H1.1 1826 29) ∧ (H1.1 1826 29) ≤ 2147483647 := hrg64.1 1826 13 29 _ .int rfl rfl
                have e105 : (H1.1 1826 29) = (H.1 1826 29) := hf.2.2 29 (by decide)
                exact ⟨rfl, (fr_o (fr_o hf (by decide)) (by decide)), (by omega : (H.1 1826 30) ≤ (H1.1 1826 30)), (by omega : (H1.1 1826 30) ≤ (H.1 1826 29)), (by omega : 0 ≤ (H1.1 1826 35) ∧ (H1.1 1826 35) ≤ 5), (by omega : (H.1 1826 35) ≠ 0 → (H1.1 1826 35) = (H.1 1826 35)), (by omega : 0 ≤ (H1.1 1826 32) ∧ (H1.1 1826 32) ≤ 1000), (by omega : (H1.1 1826 35) = 0 → ((1 : Int) = 0 ∨ (H.1 1826 30) < (H1.1 1826 30))), (Or.inl ⟨(by omega : (H1.1 1826 35) = 0), TKs_word (e := ((H1.1 1826 30)).toNat) hlt (by unfold cL; omega) hee (by omega) (by omega : (H1.1 1826 32) = (s : Int)) (by omega : (H1.1 1826 30) = ((((H1.1 1826 30)).toNat : Nat) : Int)) (hnm3 : (H1.1 1826 33) = nmz Y.1 s (((H1.1 1826 30)).toNat - s)) (by rw [← hnm3, ← hcs]; exact (kw_tok hc hkw (Or.inr (Or.inr (Or.inr (Or.inr ⟨⟨k1, k2, k3, k4⟩, Or.inr ⟨by omega, rfl⟩⟩)))) : (1 : Int) = (if c ≤ 90 then 3 else kwd ((H1.1 1826 33))) - 1))⟩)⟩
              · have k4 : hid ((H1.1 1826 33) = 7102839) := (z_cmp_eq (by omega) (by omega)).mp (by omega)
                clear c100
                refine h_run 2 (pc' := 327) (l' := [(0, .inr (.inr 1826)), (1, .inl c)]) (st' := [.inl 6, .inr (.inr 1826)]) rfl ?_
                refine h_puti (i := 271) (ci := 13) (k := 31) (a := 1826) (x := 6) rfl rfl rfl rfl rfl rfl (by decide) (by decide) ?_
                refine h_ret rfl rfl ?_
                have g106 : -2147483648 ≤ (H1.1 1826 30) ∧ (H1.1 1826 30) ≤ 2147483647 := hrg64.1 1826 13 30 _ .int rfl rfl
                have g107 : -2147483648 ≤ (H1.1 1826 35) ∧ (H1.1 1826 35) ≤ 2147483647 := hrg64.1 1826 13 35 _ .int rfl rfl
                have g108 : -2147483648 ≤ (H1.1 1826 32) ∧ (H1.1 1826 32) ≤ 2147483647 := hrg64.1 1826 13 32 _ .int rfl rfl
                have g109 : -2147483648 ≤ (H1.1 1826 29) ∧ (H1.1 1826 29) ≤ 2147483647 := hrg64.1 1826 13 29 _ .int rfl rfl
                have e110 : (H1.1 1826 29) = (H.1 1826 29) := hf.2.2 29 (by decide)
                exact ⟨rfl, (fr_o (fr_o hf (by decide)) (by decide)), (by omega : (H.1 1826 30) ≤ (H1.1 1826 30)), (by omega : (H1.1 1826 30) ≤ (H.1 1826 29)), (by omega : 0 ≤ (H1.1 1826 35) ∧ (H1.1 1826 35) ≤ 5), (by omega : (H.1 1826 35) ≠ 0 → (H1.1 1826 35) = (H.1 1826 35)), (by omega : 0 ≤ (H1.1 1826 32) ∧ (H1.1 1826 32) ≤ 1000), (by omega : (H1.1 1826 35) = 0 → ((6 : Int) = 0 ∨ (H.1 1826 30) < (H1.1 1826 30))), (Or.inl ⟨(by omega : (H1.1 1826 35) = 0), TKs_word (e := ((H1.1 1826 30)).toNat) hlt (by unfold cL; omega) hee (by omega) (by omega : (H1.1 1826 32) = (s : Int)) (by omega : (H1.1 1826 30) = ((((H1.1 1826 30)).toNat : Nat) : Int)) (hnm3 : (H1.1 1826 33) = nmz Y.1 s (((H1.1 1826 30)).toNat - s)) (by rw [← hnm3, ← hcs]; exact (kw_tok hc hkw (Or.inr (Or.inr (Or.inr (Or.inl ⟨k4, rfl⟩)))) : (6 : Int) = (if c ≤ 90 then 3 else kwd ((H1.1 1826 33))) - 1))⟩)⟩
            · have k3 : hid ((H1.1 1826 33) = 1920298085) := (z_cmp_eq (by omega) (by omega)).mp (by omega)
              clear c99
              refine h_run 2 (pc' := 327) (l' := [(0, .inr (.inr 1826)), (1, .inl c)]) (st' := [.inl 5, .inr (.inr 1826)]) rfl ?_
              refine h_puti (i := 271) (ci := 13) (k := 31) (a := 1826) (x := 5) rfl rfl rfl rfl rfl rfl (by decide) (by decide) ?_
              refine h_ret rfl rfl ?_
              have g111 : -2147483648 ≤ (H1.1 1826 30) ∧ (H1.1 1826 30) ≤ 2147483647 := hrg64.1 1826 13 30 _ .int rfl rfl
              have g112 : -2147483648 ≤ (H1.1 1826 35) ∧ (H1.1 1826 35) ≤ 2147483647 := hrg64.1 1826 13 35 _ .int rfl rfl
              have g113 : -2147483648 ≤ (H1.1 1826 32) ∧ (H1.1 1826 32) ≤ 2147483647 := hrg64.1 1826 13 32 _ .int rfl rfl
              have g114 : -2147483648 ≤ (H1.1 1826 29) ∧ (H1.1 1826 29) ≤ 2147483647 := hrg64.1 1826 13 29 _ .int rfl rfl
              have e115 : (H1.1 1826 29) = (H.1 1826 29) := hf.2.2 29 (by decide)
              exact ⟨rfl, (fr_o (fr_o hf (by decide)) (by decide)), (by omega : (H.1 1826 30) ≤ (H1.1 1826 30)), (by omega : (H1.1 1826 30) ≤ (H.1 1826 29)), (by omega : 0 ≤ (H1.1 1826 35) ∧ (H1.1 1826 35) ≤ 5), (by omega : (H.1 1826 35) ≠ 0 → (H1.1 1826 35) = (H.1 1826 35)), (by omega : 0 ≤ (H1.1 1826 32) ∧ (H1.1 1826 32) ≤ 1000), (by omega : (H1.1 1826 35) = 0 → ((5 : Int) = 0 ∨ (H.1 1826 30) < (H1.1 1826 30))), (Or.inl ⟨(by omega : (H1.1 1826 35) = 0), TKs_word (e := ((H1.1 1826 30)).toNat) hlt (by unfold cL; omega) hee (by omega) (by omega : (H1.1 1826 32) = (s : Int)) (by omega : (H1.1 1826 30) = ((((H1.1 1826 30)).toNat : Nat) : Int)) (hnm3 : (H1.1 1826 33) = nmz Y.1 s (((H1.1 1826 30)).toNat - s)) (by rw [← hnm3, ← hcs]; exact (kw_tok hc hkw (Or.inr (Or.inr (Or.inl ⟨k3, rfl⟩))) : (5 : Int) = (if c ≤ 90 then 3 else kwd ((H1.1 1826 33))) - 1))⟩)⟩
          · have k2 : hid ((H1.1 1826 33) = 6714734) := (z_cmp_eq (by omega) (by omega)).mp (by omega)
            clear c98
            refine h_run 2 (pc' := 327) (l' := [(0, .inr (.inr 1826)), (1, .inl c)]) (st' := [.inl 4, .inr (.inr 1826)]) rfl ?_
            refine h_puti (i := 271) (ci := 13) (k := 31) (a := 1826) (x := 4) rfl rfl rfl rfl rfl rfl (by decide) (by decide) ?_
            refine h_ret rfl rfl ?_
            have g116 : -2147483648 ≤ (H1.1 1826 30) ∧ (H1.1 1826 30) ≤ 2147483647 := hrg64.1 1826 13 30 _ .int rfl rfl
            have g117 : -2147483648 ≤ (H1.1 1826 35) ∧ (H1.1 1826 35) ≤ 2147483647 := hrg64.1 1826 13 35 _ .int rfl rfl
            have g118 : -2147483648 ≤ (H1.1 1826 32) ∧ (H1.1 1826 32) ≤ 2147483647 := hrg64.1 1826 13 32 _ .int rfl rfl
            have g119 : -2147483648 ≤ (H1.1 1826 29) ∧ (H1.1 1826 29) ≤ 2147483647 := hrg64.1 1826 13 29 _ .int rfl rfl
            have e120 : (H1.1 1826 29) = (H.1 1826 29) := hf.2.2 29 (by decide)
            exact ⟨rfl, (fr_o (fr_o hf (by decide)) (by decide)), (by omega : (H.1 1826 30) ≤ (H1.1 1826 30)), (by omega : (H1.1 1826 30) ≤ (H.1 1826 29)), (by omega : 0 ≤ (H1.1 1826 35) ∧ (H1.1 1826 35) ≤ 5), (by omega : (H.1 1826 35) ≠ 0 → (H1.1 1826 35) = (H.1 1826 35)), (by omega : 0 ≤ (H1.1 1826 32) ∧ (H1.1 1826 32) ≤ 1000), (by omega : (H1.1 1826 35) = 0 → ((4 : Int) = 0 ∨ (H.1 1826 30) < (H1.1 1826 30))), (Or.inl ⟨(by omega : (H1.1 1826 35) = 0), TKs_word (e := ((H1.1 1826 30)).toNat) hlt (by unfold cL; omega) hee (by omega) (by omega : (H1.1 1826 32) = (s : Int)) (by omega : (H1.1 1826 30) = ((((H1.1 1826 30)).toNat : Nat) : Int)) (hnm3 : (H1.1 1826 33) = nmz Y.1 s (((H1.1 1826 30)).toNat - s)) (by rw [← hnm3, ← hcs]; exact (kw_tok hc hkw (Or.inr (Or.inl ⟨k2, rfl⟩)) : (4 : Int) = (if c ≤ 90 then 3 else kwd ((H1.1 1826 33))) - 1))⟩)⟩
        · have k1 : hid ((H1.1 1826 33) = 1684108385) := (z_cmp_eq (by omega) (by omega)).mp (by omega)
          clear c97
          refine h_run 2 (pc' := 327) (l' := [(0, .inr (.inr 1826)), (1, .inl c)]) (st' := [.inl 3, .inr (.inr 1826)]) rfl ?_
          refine h_puti (i := 271) (ci := 13) (k := 31) (a := 1826) (x := 3) rfl rfl rfl rfl rfl rfl (by decide) (by decide) ?_
          refine h_ret rfl rfl ?_
          have g121 : -2147483648 ≤ (H1.1 1826 30) ∧ (H1.1 1826 30) ≤ 2147483647 := hrg64.1 1826 13 30 _ .int rfl rfl
          have g122 : -2147483648 ≤ (H1.1 1826 35) ∧ (H1.1 1826 35) ≤ 2147483647 := hrg64.1 1826 13 35 _ .int rfl rfl
          have g123 : -2147483648 ≤ (H1.1 1826 32) ∧ (H1.1 1826 32) ≤ 2147483647 := hrg64.1 1826 13 32 _ .int rfl rfl
          have g124 : -2147483648 ≤ (H1.1 1826 29) ∧ (H1.1 1826 29) ≤ 2147483647 := hrg64.1 1826 13 29 _ .int rfl rfl
          have e125 : (H1.1 1826 29) = (H.1 1826 29) := hf.2.2 29 (by decide)
          exact ⟨rfl, (fr_o (fr_o hf (by decide)) (by decide)), (by omega : (H.1 1826 30) ≤ (H1.1 1826 30)), (by omega : (H1.1 1826 30) ≤ (H.1 1826 29)), (by omega : 0 ≤ (H1.1 1826 35) ∧ (H1.1 1826 35) ≤ 5), (by omega : (H.1 1826 35) ≠ 0 → (H1.1 1826 35) = (H.1 1826 35)), (by omega : 0 ≤ (H1.1 1826 32) ∧ (H1.1 1826 32) ≤ 1000), (by omega : (H1.1 1826 35) = 0 → ((3 : Int) = 0 ∨ (H.1 1826 30) < (H1.1 1826 30))), (Or.inl ⟨(by omega : (H1.1 1826 35) = 0), TKs_word (e := ((H1.1 1826 30)).toNat) hlt (by unfold cL; omega) hee (by omega) (by omega : (H1.1 1826 32) = (s : Int)) (by omega : (H1.1 1826 30) = ((((H1.1 1826 30)).toNat : Nat) : Int)) (hnm3 : (H1.1 1826 33) = nmz Y.1 s (((H1.1 1826 30)).toNat - s)) (by rw [← hnm3, ← hcs]; exact (kw_tok hc hkw (Or.inl ⟨k1, rfl⟩) : (3 : Int) = (if c ≤ 90 then 3 else kwd ((H1.1 1826 33))) - 1))⟩)⟩
set_option maxRecDepth 100000 in
set_option maxHeartbeats 4000000 in
theorem n_next {zC : Nat → Option zsh} {d : Nat} (hd : 3 ≤ d) {H : hp} {Y : yx} {s : Nat} (h0 : 0 ≤ (H.1 1826 30) ∧ (H.1 1826 30) ≤ (H.1 1826 29) ∧ (H.1 1826 29) ≤ 1000) (hw : 0 ≤ (H.1 1826 35) ∧ (H.1 1826 35) ≤ 5) (hst : 0 ≤ (H.1 1826 32) ∧ (H.1 1826 32) ≤ 1000) (hw0 : (H.1 1826 35) = 0) (hY : YB Y H) (hs : skp Y.1 ((H.1 1826 29) - (H.1 1826 30)).toNat ((H.1 1826 30)).toNat = s) : hG (zs zC) d mt_165 0 (zargs 0 [.inr (.inr 1826)]) [] H (fun r H2 => r = none ∧ fr [30, 31, 32, 33, 35, 36] [] H H2 ∧ (H.1 1826 30) ≤ (H2.1 1826 30) ∧ (H2.1 1826 30) ≤ (H.1 1826 29) ∧ (0 ≤ (H2.1 1826 35) ∧ (H2.1 1826 35) ≤ 5) ∧ ((H.1 1826 35) ≠ 0 → (H2.1 1826 35) = (H.1 1826 35)) ∧ (0 ≤ (H2.1 1826 32) ∧ (H2.1 1826 32) ≤ 1000) ∧ ((H2.1 1826 35) = 0 → ((H2.1 1826 31) = 0 ∨ (H.1 1826 30) < (H2.1 1826 30))) ∧ (((H2.1 1826 35) = 0 ∧ TKs Y s H2) ∨ ((H2.1 1826 35) = 1 ∧ (H2.1 1826 36) = s ∧ tKd Y.1 Y.2 s = 1))) := by
  refine h_rng (fun hrg0 => ?_)
  refine h_run 0 (pc' := 0) (l' := [(0, .inr (.inr 1826))]) (st' := []) rfl ?_
  exact (n_next_cut hd h0 hw hst hw0 hY hs _).1 _ (fr_rf _ _ _) (by omega : (H.1 1826 30) ≤ (H.1 1826 30) ∧ (H.1 1826 30) ≤ (H.1 1826 29)) (by omega : (H.1 1826 35) = (H.1 1826 35)) hs (Nat.lt_succ_self _)

/-! find -/
set_option maxRecDepth 100000 in
theorem n_find_cut {zC : Nat → Option zsh} {d : Nat} (hd : 1 ≤ d) {H : hp} {c m : Nat} {N x z : Int} (hc : zs zC c = some (.inr (.long, m))) (hN : 0 ≤ N ∧ N ≤ m ∧ m ≤ 100) (hx : -9223372036854775808 ≤ x ∧ x ≤ 9223372036854775807) (hz : fnd (H.1 c) N x = z) : ∀ w : Nat, (∀ (i : Nat), ((i : Int) ≤ N) → (fndA (H.1 c) x (N - (i : Int)).toNat i = z) → (N - i).toNat < w → hG (zs zC) d mt_167 3 [(0, .inr (.inr c)), (1, .inl N), (2, .inr (.inl x)), (4, .inl (i : Int))] [] H (fun r H2 => ((∃ k : Nat, r = some (.inl (k : Int)) ∧ (k : Int) < N ∧ (k : Int) = z) ∨ (r = some (.inl (-1)) ∧ z = -1)) ∧ H = H2)) := by
  intro w
  induction w with
  | zero => exact fun _ _ _ h => absurd h (Nat.not_lt_zero _)
  | succ w ih =>
    intro i hi hz1 hw
    refine h_rng (fun hrg1 => ?_)
    refine h_run 2 (pc' := 6) (l' := [(0, .inr (.inr c)), (1, .inl N), (2, .inr (.inl x)), (4, .inl (i : Int))]) (st' := [.inl N, .inl (i : Int)]) rfl ?_
    refine h_ige (off := 21) (t := 27) rfl rfl (by omega) (by omega) (fun c2 => ?_) (fun c2 => ?_)
    · refine h_run 1 (pc' := 28) (l' := [(0, .inr (.inr c)), (1, .inl N), (2, .inr (.inl x)), (4, .inl (i : Int))]) (st' := [.inl (-1)]) rfl ?_
      refine h_reti (x := (-1)) rfl rfl ?_
      exact ⟨Or.inr ⟨rfl, hz1.symm.trans (fnd_end (n := N) (x := (i : Int)) (by omega))⟩, rfl⟩
    · refine h_run 2 (pc' := 12) (l' := [(0, .inr (.inr c)), (1, .inl N), (2, .inr (.inl x)), (4, .inl (i : Int))]) (st' := [.inl (i : Int), .inr (.inr c)]) rfl ?_
      refine h_lld (c := c) (j := i) (i := (i : Int)) rfl hc (by omega) rfl (by omega) ?_
      have g3 : -9223372036854775808 ≤ (H.1 c i) ∧ (H.1 c i) ≤ 9223372036854775807 := hrg1.2 c i m .long hc (by omega)
      refine h_run 0 (pc' := 13) (l' := [(0, .inr (.inr c)), (1, .inl N), (2, .inr (.inl x)), (4, .inl (i : Int))]) (st' := [.inr (.inl (H.1 c i))]) rfl ?_
      refine h_run 2 (pc' := 15) (l' := [(0, .inr (.inr c)), (1, .inl N), (2, .inr (.inl x)), (4, .inl (i : Int))]) (st' := [.inl (z_cmp (H.1 c i) x)]) rfl ?_
      refine h_zne (off := 6) (t := 21) rfl rfl (z_int _) (fun c4 => ?_) (fun c4 => ?_)
      · have h9 : H.1 c i ≠ x := fun q => absurd ((z_cmp_0 (by omega) (by omega)).mpr q) (by omega)
        refine h_run 2 (pc' := 3) (l' := [(0, .inr (.inr c)), (1, .inl N), (2, .inr (.inl x)), (4, .inl ((i : Int) + 1))]) (st' := []) rfl ?_
        rw [show ((i : Int) + 1) = (((i + 1) : Nat) : Int) by omega]
        exact ih (i + 1) (by omega) ((show N - ((i + 1 : Nat) : Int) = N - ((i : Int) + 1) by omega) ▸ ((fnd_go (n := N) (x := (i : Int)) (by omega) (by omega) h9).trans hz1)) (by omega : (N - (i + 1)).toNat < w)
      · have h9 : H.1 c i = x := (z_cmp_0 (by omega) (by omega)).mp (by omega)
        refine h_run 1 (pc' := 20) (l' := [(0, .inr (.inr c)), (1, .inl N), (2, .inr (.inl x)), (4, .inl (i : Int))]) (st' := [.inl (i : Int)]) rfl ?_
        refine h_reti (x := (i : Int)) rfl rfl ?_
        exact ⟨Or.inl ⟨i, rfl, by omega, (fnd_hit (n := N) (x := (i : Int)) (by omega) (by omega) h9).symm.trans hz1⟩, rfl⟩
set_option maxRecDepth 100000 in
theorem n_find {zC : Nat → Option zsh} {d : Nat} (hd : 1 ≤ d) {H : hp} {c m : Nat} {N x z : Int} (hc : zs zC c = some (.inr (.long, m))) (hN : 0 ≤ N ∧ N ≤ m ∧ m ≤ 100) (hx : -9223372036854775808 ≤ x ∧ x ≤ 9223372036854775807) (hz : fnd (H.1 c) N x = z) : hG (zs zC) d mt_167 0 (zargs 0 [.inr (.inr c), .inl N, .inr (.inl x)]) [] H (fun r H2 => ((∃ k : Nat, r = some (.inl (k : Int)) ∧ (k : Int) < N ∧ (k : Int) = z) ∨ (r = some (.inl (-1)) ∧ z = -1)) ∧ H = H2) := by
  refine h_rng (fun hrg0 => ?_)
  refine h_run 0 (pc' := 0) (l' := [(0, .inr (.inr c)), (1, .inl N), (2, .inr (.inl x))]) (st' := []) rfl ?_
  refine h_run 2 (pc' := 3) (l' := [(0, .inr (.inr c)), (1, .inl N), (2, .inr (.inl x)), (4, .inl 0)]) (st' := []) rfl ?_
  exact (n_find_cut hd hc hN hx hz _) 0 (by omega) (show fndA (H.1 c) x (N - ((0 : Nat) : Int)).toNat 0 = z by rw [show N - ((0 : Nat) : Int) = N by omega]; exact hz) (Nat.lt_succ_self _)
