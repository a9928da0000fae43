/-! the reference's feed, told exactly -/
theorem b_byte (b : BitVec 32) (k : Nat) (hk : k ≤ 24) : (BitVec.signExtend 32 (BitVec.signExtend 8 (b.sshiftRight k))) &&& 255#32 = (b >>> k) &&& 255#32 := by
  apply BitVec.eq_of_getLsbD_eq
  intro i hi
  rw [BitVec.getLsbD_and, BitVec.getLsbD_and]
  by_cases h : i < 8
  · have e1 : (BitVec.signExtend 32 (BitVec.signExtend 8 (b.sshiftRight k))).getLsbD i = (b >>> k).getLsbD i := by
      rw [BitVec.getLsbD_signExtend, BitVec.getLsbD_signExtend, BitVec.getLsbD_sshiftRight, BitVec.getLsbD_ushiftRight]
      simp only [h, hi, decide_true, Bool.true_and, if_true, show k + i < 32 by omega, show ¬ 32 ≤ i by omega, decide_false, Bool.not_false]
    rw [e1]
  · have e2 : ∀ j : Nat, j < 32 → ¬ j < 8 → (255#32).getLsbD j = false := by decide
    rw [e2 i hi h, Bool.and_false, Bool.and_false]
theorem i_byte (a : Int32) (k : Nat) (hk : k ≤ 24) {s : Int32} (h1 : (s &&& 31).toBitVec.smod 32 = BitVec.ofNat 32 k) (h2 : ((s.toUInt32 &&& Int32.toUInt32 31) % 32).toBitVec = BitVec.ofNat 32 k) : ((a >>> (s &&& 31)).toInt8.toInt32 &&& 255) = ((a.toUInt32 >>> (s.toUInt32 &&& Int32.toUInt32 31)).toInt32 &&& 255) := by
  apply Int32.toBitVec.inj
  have e1 : (a >>> (s &&& 31)).toBitVec = a.toBitVec.sshiftRight k := by
    show BitVec.sshiftRight' a.toBitVec ((s &&& 31).toBitVec.smod 32) = _
    rw [h1]
    show a.toBitVec.sshiftRight (BitVec.ofNat 32 k).toNat = _
    rw [BitVec.toNat_ofNat, Nat.mod_eq_of_lt (by omega)]
  have e2 : (a.toUInt32 >>> (s.toUInt32 &&& Int32.toUInt32 31)).toBitVec = a.toBitVec >>> k := by
    show a.toBitVec >>> ((s.toUInt32 &&& Int32.toUInt32 31) % 32).toBitVec = _
    rw [h2]
    show a.toBitVec >>> (BitVec.ofNat 32 k).toNat = _
    rw [BitVec.toNat_ofNat, Nat.mod_eq_of_lt (by omega)]
  show BitVec.signExtend 32 (BitVec.signExtend 8 (a >>> (s &&& 31)).toBitVec) &&& 255#32 = (a.toUInt32 >>> (s.toUInt32 &&& Int32.toUInt32 31)).toBitVec &&& 255#32
  rw [e1, e2]
  exact b_byte _ k hk
theorem z_byte {x s : Int} (hs : s = 0 ∨ s = 8 ∨ s = 16 ∨ s = 24) : z_and (z_i2b (z_shr x s)) 255 = z_and (z_ushr x s) 255 := by
  unfold z_and z_i2b z_shr z_ushr
  rw [Int32.ofInt_toInt, Int32.ofInt_toInt, Int32.ofInt_toInt]
  congr 1
  rcases hs with rfl | rfl | rfl | rfl
  · exact i_byte (Int32.ofInt x) 0 (by decide) (s := Int32.ofInt 0) (by decide +kernel) (by decide +kernel)
  · exact i_byte (Int32.ofInt x) 8 (by decide) (s := Int32.ofInt 8) (by decide +kernel) (by decide +kernel)
  · exact i_byte (Int32.ofInt x) 16 (by decide) (s := Int32.ofInt 16) (by decide +kernel) (by decide +kernel)
  · exact i_byte (Int32.ofInt x) 24 (by decide) (s := Int32.ofInt 24) (by decide +kernel) (by decide +kernel)
theorem z_and3 {i : Nat} (h : i < 20) : z_and (i : Int) 3 = ((i % 4 : Nat) : Int) := by
  have q : ∀ j : Nat, j < 20 → z_and (j : Int) 3 = ((j % 4 : Nat) : Int) := by decide +kernel
  exact q i h
/-- the reference's tape behind i bytes more -/
def FR (a b c e f : Int) (i : Nat) (H K : hp) : Prop := (∀ j : Nat, (j : Int) < (H.1 1826 28) → (K.1 1848) j = (H.1 1848) j) ∧ ∀ k : Nat, k < i → z_and ((K.1 1848) ((H.1 1826 28) + k).toNat) 255 = fby a b c e f k
theorem FR_0 {a b c e f : Int} {H K : hp} (h : (K.1 1848) = (H.1 1848)) : FR a b c e f 0 H K := ⟨fun j _ => by rw [h], fun k hk => absurd hk (Nat.not_lt_zero _)⟩
theorem FR_s {a b c e f x w0 : Int} {i j : Nat} {H H1 K : hp} (h : FR a b c e f i H H1) (hi : i < 20) (h0 : 0 ≤ (H.1 1826 28)) (hj : (j : Int) = (H.1 1826 28) + i) (hw : w0 = fwd a b c e f i) (hx : x = 24 - 8 * z_and (i : Int) 3) (e9 : (K.1 1848) = up (H1.1 1848) j (z_i2b (z_shr w0 x))) : FR a b c e f (i + 1) H K := by
  have ex : x = 24 - 8 * ((i % 4 : Nat) : Int) := by rw [hx, z_and3 hi]
  refine ⟨fun k hk => ?_, fun k hk => ?_⟩
  · rw [e9, up_ne _ _ (by omega)]
    exact h.1 k hk
  · rw [e9]
    by_cases q : k = i
    · subst q
      rw [up_e (by omega), z_byte (by omega)]
      unfold fby
      rw [← hw, ← ex]
    · rw [up_ne _ _ (by omega)]
      exact h.2 k (by omega)

/-! feed -/
set_option maxRecDepth 100000 in
theorem n_feed_cut {zC : Nat → Option zsh} {d : Nat} (hd : 1 ≤ d) {H : hp} {x1 x2 x3 x4 x5 : Int} (ht : 0 ≤ (H.1 1826 28) ∧ (H.1 1826 28) ≤ 1000) : ∀ w : Nat, (∀ (H1 : hp) (i : Nat), (fr [0, 28] [1848] H H1) → (i ≤ 20) → ((H1.1 1826 28) = (H.1 1826 28) + i ∧ (H.1 1826 28) ≤ 980 ∧ (H1.1 1826 0) = 0) → (FR x1 x2 x3 x4 x5 i H H1) → 20 - i < w → hG (zs zC) d mt_189 25 [(0, .inr (.inr 1826)), (1, .inl x1), (2, .inl x2), (3, .inl x3), (4, .inl x4), (5, .inl x5), (6, .inl (i : Int))] [] H1 (fun r9 H2 => (∃ r0 : Int, r9 = some (.inl r0) ∧ fr [0, 28] [1848] H H2 ∧ (((H2.1 1826 0) = 1 ∧ (H2.1 1826 28) = (H.1 1826 28) ∧ 980 < (H.1 1826 28) ∧ (H2.1 1848) = (H.1 1848)) ∨ ((H2.1 1826 0) = 0 ∧ (H2.1 1826 28) = (H.1 1826 28) + 20 ∧ (H.1 1826 28) ≤ 980 ∧ r0 = (H.1 1826 28) + 20 ∧ FR x1 x2 x3 x4 x5 20 H H2))))) := by
  intro w
  induction w with
  | zero => exact fun _ _ _ _ _ _ h => absurd h (Nat.not_lt_zero _)
  | succ w ih =>
    intro H1 i hf hi hz hFR hw
    refine h_rng (fun hrg1 => ?_)
    refine h_run 2 (pc' := 29) (l' := [(0, .inr (.inr 1826)), (1, .inl x1), (2, .inl x2), (3, .inl x3), (4, .inl x4), (5, .inl x5), (6, .inl (i : Int))]) (st' := [.inl 20, .inl (i : Int)]) rfl ?_
    refine h_ige (off := 90) (t := 119) rfl rfl (by omega) (by decide) (fun c2 => ?_) (fun c2 => ?_)
    · refine h_run 2 (pc' := 123) (l' := [(0, .inr (.inr 1826)), (1, .inl x1), (2, .inl x2), (3, .inl x3), (4, .inl x4), (5, .inl x5), (6, .inl (i : Int))]) (st' := [.inl (H1.1 1826 28)]) rfl ?_
      have g3 : -2147483648 ≤ (H1.1 1826 28) ∧ (H1.1 1826 28) ≤ 2147483647 := hrg1.1 1826 13 28 _ .int rfl rfl
      refine h_reti (x := (H1.1 1826 28)) rfl rfl ?_
      have g4 : -2147483648 ≤ (H1.1 1826 0) ∧ (H1.1 1826 0) ≤ 2147483647 := hrg1.1 1826 13 0 _ .int rfl rfl
      exact ⟨_, rfl, hf, Or.inr ⟨(by omega : (H1.1 1826 0) = 0), (by omega : (H1.1 1826 28) = (H.1 1826 28) + 20), (by omega), (by omega), (by rw [show (20 : Nat) = i by omega]; exact hFR)⟩⟩
    · refine h_run 2 (pc' := 35) (l' := [(0, .inr (.inr 1826)), (1, .inl x1), (2, .inl x2), (3, .inl x3), (4, .inl x4), (5, .inl x5), (6, .inl (i : Int))]) (st' := [.inl 4, .inl (i : Int)]) rfl ?_
      refine h_ige (off := 7) (t := 42) rfl rfl (by omega) (by decide) (fun c5 => ?_) (fun c5 => ?_)
      · refine h_run 2 (pc' := 46) (l' := [(0, .inr (.inr 1826)), (1, .inl x1), (2, .inl x2), (3, .inl x3), (4, .inl x4), (5, .inl x5), (6, .inl (i : Int))]) (st' := [.inl 8, .inl (i : Int)]) rfl ?_
        refine h_ige (off := 7) (t := 53) rfl rfl (by omega) (by decide) (fun c6 => ?_) (fun c6 => ?_)
        · refine h_run 2 (pc' := 57) (l' := [(0, .inr (.inr 1826)), (1, .inl x1), (2, .inl x2), (3, .inl x3), (4, .inl x4), (5, .inl x5), (6, .inl (i : Int))]) (st' := [.inl 12, .inl (i : Int)]) rfl ?_
          refine h_ige (off := 7) (t := 64) rfl rfl (by omega) (by decide) (fun c7 => ?_) (fun c7 => ?_)
          · refine h_run 2 (pc' := 68) (l' := [(0, .inr (.inr 1826)), (1, .inl x1), (2, .inl x2), (3, .inl x3), (4, .inl x4), (5, .inl x5), (6, .inl (i : Int))]) (st' := [.inl 16, .inl (i : Int)]) rfl ?_
            refine h_ige (off := 8) (t := 76) rfl rfl (by omega) (by decide) (fun c8 => ?_) (fun c8 => ?_)
            · refine h_run 6 (pc' := 88) (l' := [(0, .inr (.inr 1826)), (1, .inl x1), (2, .inl x2), (3, .inl x3), (4, .inl x4), (5, .inl x5), (6, .inl (i : Int)), (7, .inl x5)]) (st' := [.inl (H1.1 1826 28), .inr (.inr 1848)]) rfl ?_
              have g9 : -2147483648 ≤ (H1.1 1826 28) ∧ (H1.1 1826 28) ≤ 2147483647 := hrg1.1 1826 13 28 _ .int rfl rfl
              refine h_run 10 (pc' := 102) (l' := [(0, .inr (.inr 1826)), (1, .inl x1), (2, .inl x2), (3, .inl x3), (4, .inl x4), (5, .inl x5), (6, .inl (i : Int)), (7, .inl x5)]) (st' := [.inl (z_i2b (z_shr x5 (24 - (8 * (z_and (i : Int) 3))))), .inl (H1.1 1826 28), .inr (.inr 1848)]) rfl ?_
              refine h_bst (c := 1848) (j := ((H1.1 1826 28)).toNat) (i := (H1.1 1826 28)) (x := (z_i2b (z_shr x5 (24 - (8 * (z_and (i : Int) 3)))))) (Or.inl rfl) rfl rfl (by decide) (by decide) (by omega) (by omega) (z_i2b_rng _) ?_
              refine h_run 3 (pc' := 108) (l' := [(0, .inr (.inr 1826)), (1, .inl x1), (2, .inl x2), (3, .inl x3), (4, .inl x4), (5, .inl x5), (6, .inl (i : Int)), (7, .inl x5)]) (st' := [.inl (H1.1 1826 28), .inr (.inr 1826)]) rfl ?_
              refine h_run 2 (pc' := 110) (l' := [(0, .inr (.inr 1826)), (1, .inl x1), (2, .inl x2), (3, .inl x3), (4, .inl x4), (5, .inl x5), (6, .inl (i : Int)), (7, .inl x5)]) (st' := [.inl ((H1.1 1826 28) + 1), .inr (.inr 1826)]) rfl ?_
              refine h_puti (i := 393) (ci := 13) (k := 28) (a := 1826) (x := ((H1.1 1826 28) + 1)) rfl rfl rfl rfl rfl rfl (by decide) (by omega) ?_
              refine h_run 2 (pc' := 25) (l' := [(0, .inr (.inr 1826)), (1, .inl x1), (2, .inl x2), (3, .inl x3), (4, .inl x4), (5, .inl x5), (6, .inl ((i : Int) + 1)), (7, .inl x5)]) (st' := []) rfl ?_
              have g10 : -2147483648 ≤ (H1.1 1826 0) ∧ (H1.1 1826 0) ≤ 2147483647 := hrg1.1 1826 13 0 _ .int rfl rfl
              refine h_loc [0, 1, 2, 3, 4, 5, 6] rfl ?_
              rw [show ((i : Int) + 1) = (((i + 1) : Nat) : Int) by omega]
              exact ih _ (i + 1) (fr_o (fr_a hf (by decide)) (by decide)) (by omega) (by omega : ((H1.1 1826 28) + 1) = (H.1 1826 28) + (i + 1) ∧ (H.1 1826 28) ≤ 980 ∧ (H1.1 1826 0) = 0) (FR_s (i := i) (j := ((H1.1 1826 28)).toNat) (x := (24 - (8 * (z_and (i : Int) 3)))) (w0 := x5) hFR (by omega) (by omega) (by omega) (by unfold fwd; (repeat (first | rw [if_pos (by omega)] | rw [if_neg (by omega)])); try (first | rfl | (exfalso; omega))) (by omega) rfl) (by omega : 20 - (i + 1) < w)
            · refine h_run 7 (pc' := 88) (l' := [(0, .inr (.inr 1826)), (1, .inl x1), (2, .inl x2), (3, .inl x3), (4, .inl x4), (5, .inl x5), (6, .inl (i : Int)), (7, .inl x4)]) (st' := [.inl (H1.1 1826 28), .inr (.inr 1848)]) rfl ?_
              have g11 : -2147483648 ≤ (H1.1 1826 28) ∧ (H1.1 1826 28) ≤ 2147483647 := hrg1.1 1826 13 28 _ .int rfl rfl
              refine h_run 10 (pc' := 102) (l' := [(0, .inr (.inr 1826)), (1, .inl x1), (2, .inl x2), (3, .inl x3), (4, .inl x4), (5, .inl x5), (6, .inl (i : Int)), (7, .inl x4)]) (st' := [.inl (z_i2b (z_shr x4 (24 - (8 * (z_and (i : Int) 3))))), .inl (H1.1 1826 28), .inr (.inr 1848)]) rfl ?_
              refine h_bst (c := 1848) (j := ((H1.1 1826 28)).toNat) (i := (H1.1 1826 28)) (x := (z_i2b (z_shr x4 (24 - (8 * (z_and (i : Int) 3)))))) (Or.inl rfl) rfl rfl (by decide) (by decide) (by omega) (by omega) (z_i2b_rng _) ?_
              refine h_run 3 (pc' := 108) (l' := [(0, .inr (.inr 1826)), (1, .inl x1), (2, .inl x2), (3, .inl x3), (4, .inl x4), (5, .inl x5), (6, .inl (i : Int)), (7, .inl x4)]) (st' := [.inl (H1.1 1826 28), .inr (.inr 1826)]) rfl ?_
              refine h_run 2 (pc' := 110) (l' := [(0, .inr (.inr 1826)), (1, .inl x1), (2, .inl x2), (3, .inl x3), (4, .inl x4), (5, .inl x5), (6, .inl (i : Int)), (7, .inl x4)]) (st' := [.inl ((H1.1 1826 28) + 1), .inr (.inr 1826)]) rfl ?_
              refine h_puti (i := 393) (ci := 13) (k := 28) (a := 1826) (x := ((H1.1 1826 28) + 1)) rfl rfl rfl rfl rfl rfl (by decide) (by omega) ?_
              refine h_run 2 (pc' := 25) (l' := [(0, .inr (.inr 1826)), (1, .inl x1), (2, .inl x2), (3, .inl x3), (4, .inl x4), (5, .inl x5), (6, .inl ((i : Int) + 1)), (7, .inl x4)]) (st' := []) rfl ?_
              have g12 : -2147483648 ≤ (H1.1 1826 0) ∧ (H1.1 1826 0) ≤ 2147483647 := hrg1.1 1826 13 0 _ .int rfl rfl
              refine h_loc [0, 1, 2, 3, 4, 5, 6] rfl ?_
              rw [show ((i : Int) + 1) = (((i + 1) : Nat) : Int) by omega]
              exact ih _ (i + 1) (fr_o (fr_a hf (by decide)) (by decide)) (by omega) (by omega : ((H1.1 1826 28) + 1) = (H.1 1826 28) + (i + 1) ∧ (H.1 1826 28) ≤ 980 ∧ (H1.1 1826 0) = 0) (FR_s (i := i) (j := ((H1.1 1826 28)).toNat) (x := (24 - (8 * (z_and (i : Int) 3)))) (w0 := x4) hFR (by omega) (by omega) (by omega) (by unfold fwd; (repeat (first | rw [if_pos (by omega)] | rw [if_neg (by omega)])); try (first | rfl | (exfalso; omega))) (by omega) rfl) (by omega : 20 - (i + 1) < w)
          · refine h_run 7 (pc' := 88) (l' := [(0, .inr (.inr 1826)), (1, .inl x1), (2, .inl x2), (3, .inl x3), (4, .inl x4), (5, .inl x5), (6, .inl (i : Int)), (7, .inl x3)]) (st' := [.inl (H1.1 1826 28), .inr (.inr 1848)]) rfl ?_
            have g13 : -2147483648 ≤ (H1.1 1826 28) ∧ (H1.1 1826 28) ≤ 2147483647 := hrg1.1 1826 13 28 _ .int rfl rfl
            refine h_run 10 (pc' := 102) (l' := [(0, .inr (.inr 1826)), (1, .inl x1), (2, .inl x2), (3, .inl x3), (4, .inl x4), (5, .inl x5), (6, .inl (i : Int)), (7, .inl x3)]) (st' := [.inl (z_i2b (z_shr x3 (24 - (8 * (z_and (i : Int) 3))))), .inl (H1.1 1826 28), .inr (.inr 1848)]) rfl ?_
            refine h_bst (c := 1848) (j := ((H1.1 1826 28)).toNat) (i := (H1.1 1826 28)) (x := (z_i2b (z_shr x3 (24 - (8 * (z_and (i : Int) 3)))))) (Or.inl rfl) rfl rfl (by decide) (by decide) (by omega) (by omega) (z_i2b_rng _) ?_
            refine h_run 3 (pc' := 108) (l' := [(0, .inr (.inr 1826)), (1, .inl x1), (2, .inl x2), (3, .inl x3), (4, .inl x4), (5, .inl x5), (6, .inl (i : Int)), (7, .inl x3)]) (st' := [.inl (H1.1 1826 28), .inr (.inr 1826)]) rfl ?_
            refine h_run 2 (pc' := 110) (l' := [(0, .inr (.inr 1826)), (1, .inl x1), (2, .inl x2), (3, .inl x3), (4, .inl x4), (5, .inl x5), (6, .inl (i : Int)), (7, .inl x3)]) (st' := [.inl ((H1.1 1826 28) + 1), .inr (.inr 1826)]) rfl ?_
            refine h_puti (i := 393) (ci := 13) (k := 28) (a := 1826) (x := ((H1.1 1826 28) + 1)) rfl rfl rfl rfl rfl rfl (by decide) (by omega) ?_
            refine h_run 2 (pc' := 25) (l' := [(0, .inr (.inr 1826)), (1, .inl x1), (2, .inl x2), (3, .inl x3), (4, .inl x4), (5, .inl x5), (6, .inl ((i : Int) + 1)), (7, .inl x3)]) (st' := []) rfl ?_
            have g14 : -2147483648 ≤ (H1.1 1826 0) ∧ (H1.1 1826 0) ≤ 2147483647 := hrg1.1 1826 13 0 _ .int rfl rfl
            refine h_loc [0, 1, 2, 3, 4, 5, 6] rfl ?_
            rw [show ((i : Int) + 1) = (((i + 1) : Nat) : Int) by omega]
            exact ih _ (i + 1) (fr_o (fr_a hf (by decide)) (by decide)) (by omega) (by omega : ((H1.1 1826 28) + 1) = (H.1 1826 28) + (i + 1) ∧ (H.1 1826 28) ≤ 980 ∧ (H1.1 1826 0) = 0) (FR_s (i := i) (j := ((H1.1 1826 28)).toNat) (x := (24 - (8 * (z_and (i : Int) 3)))) (w0 := x3) hFR (by omega) (by omega) (by omega) (by unfold fwd; (repeat (first | rw [if_pos (by omega)] | rw [if_neg (by omega)])); try (first | rfl | (exfalso; omega))) (by omega) rfl) (by omega : 20 - (i + 1) < w)
        · refine h_run 7 (pc' := 88) (l' := [(0, .inr (.inr 1826)), (1, .inl x1), (2, .inl x2), (3, .inl x3), (4, .inl x4), (5, .inl x5), (6, .inl (i : Int)), (7, .inl x2)]) (st' := [.inl (H1.1 1826 28), .inr (.inr 1848)]) rfl ?_
          have g15 : -2147483648 ≤ (H1.1 1826 28) ∧ (H1.1 1826 28) ≤ 2147483647 := hrg1.1 1826 13 28 _ .int rfl rfl
          refine h_run 10 (pc' := 102) (l' := [(0, .inr (.inr 1826)), (1, .inl x1), (2, .inl x2), (3, .inl x3), (4, .inl x4), (5, .inl x5), (6, .inl (i : Int)), (7, .inl x2)]) (st' := [.inl (z_i2b (z_shr x2 (24 - (8 * (z_and (i : Int) 3))))), .inl (H1.1 1826 28), .inr (.inr 1848)]) rfl ?_
          refine h_bst (c := 1848) (j := ((H1.1 1826 28)).toNat) (i := (H1.1 1826 28)) (x := (z_i2b (z_shr x2 (24 - (8 * (z_and (i : Int) 3)))))) (Or.inl rfl) rfl rfl (by decide) (by decide) (by omega) (by omega) (z_i2b_rng _) ?_
          refine h_run 3 (pc' := 108) (l' := [(0, .inr (.inr 1826)), (1, .inl x1), (2, .inl x2), (3, .inl x3), (4, .inl x4), (5, .inl x5), (6, .inl (i : Int)), (7, .inl x2)]) (st' := [.inl (H1.1 1826 28), .inr (.inr 1826)]) rfl ?_
          refine h_run 2 (pc' := 110) (l' := [(0, .inr (.inr 1826)), (1, .inl x1), (2, .inl x2), (3, .inl x3), (4, .inl x4), (5, .inl x5), (6, .inl (i : Int)), (7, .inl x2)]) (st' := [.inl ((H1.1 1826 28) + 1), .inr (.inr 1826)]) rfl ?_
          refine h_puti (i := 393) (ci := 13) (k := 28) (a := 1826) (x := ((H1.1 1826 28) + 1)) rfl rfl rfl rfl rfl rfl (by decide) (by omega) ?_
          refine h_run 2 (pc' := 25) (l' := [(0, .inr (.inr 1826)), (1, .inl x1), (2, .inl x2), (3, .inl x3), (4, .inl x4), (5, .inl x5), (6, .inl ((i : Int) + 1)), (7, .inl x2)]) (st' := []) rfl ?_
          have g16 : -2147483648 ≤ (H1.1 1826 0) ∧ (H1.1 1826 0) ≤ 2147483647 := hrg1.1 1826 13 0 _ .int rfl rfl
          refine h_loc [0, 1, 2, 3, 4, 5, 6] rfl ?_
          rw [show ((i : Int) + 1) = (((i + 1) : Nat) : Int) by omega]
          exact ih _ (i + 1) (fr_o (fr_a hf (by decide)) (by decide)) (by omega) (by omega : ((H1.1 1826 28) + 1) = (H.1 1826 28) + (i + 1) ∧ (H.1 1826 28) ≤ 980 ∧ (H1.1 1826 0) = 0) (FR_s (i := i) (j := ((H1.1 1826 28)).toNat) (x := (24 - (8 * (z_and (i : Int) 3)))) (w0 := x2) hFR (by omega) (by omega) (by omega) (by unfold fwd; (repeat (first | rw [if_pos (by omega)] | rw [if_neg (by omega)])); try (first | rfl | (exfalso; omega))) (by omega) rfl) (by omega : 20 - (i + 1) < w)
      · refine h_run 7 (pc' := 88) (l' := [(0, .inr (.inr 1826)), (1, .inl x1), (2, .inl x2), (3, .inl x3), (4, .inl x4), (5, .inl x5), (6, .inl (i : Int)), (7, .inl x1)]) (st' := [.inl (H1.1 1826 28), .inr (.inr 1848)]) rfl ?_
        have g17 : -2147483648 ≤ (H1.1 1826 28) ∧ (H1.1 1826 28) ≤ 2147483647 := hrg1.1 1826 13 28 _ .int rfl rfl
        refine h_run 10 (pc' := 102) (l' := [(0, .inr (.inr 1826)), (1, .inl x1), (2, .inl x2), (3, .inl x3), (4, .inl x4), (5, .inl x5), (6, .inl (i : Int)), (7, .inl x1)]) (st' := [.inl (z_i2b (z_shr x1 (24 - (8 * (z_and (i : Int) 3))))), .inl (H1.1 1826 28), .inr (.inr 1848)]) rfl ?_
        refine h_bst (c := 1848) (j := ((H1.1 1826 28)).toNat) (i := (H1.1 1826 28)) (x := (z_i2b (z_shr x1 (24 - (8 * (z_and (i : Int) 3)))))) (Or.inl rfl) rfl rfl (by decide) (by decide) (by omega) (by omega) (z_i2b_rng _) ?_
        refine h_run 3 (pc' := 108) (l' := [(0, .inr (.inr 1826)), (1, .inl x1), (2, .inl x2), (3, .inl x3), (4, .inl x4), (5, .inl x5), (6, .inl (i : Int)), (7, .inl x1)]) (st' := [.inl (H1.1 1826 28), .inr (.inr 1826)]) rfl ?_
        refine h_run 2 (pc' := 110) (l' := [(0, .inr (.inr 1826)), (1, .inl x1), (2, .inl x2), (3, .inl x3), (4, .inl x4), (5, .inl x5), (6, .inl (i : Int)), (7, .inl x1)]) (st' := [.inl ((H1.1 1826 28) + 1), .inr (.inr 1826)]) rfl ?_
        refine h_puti (i := 393) (ci := 13) (k := 28) (a := 1826) (x := ((H1.1 1826 28) + 1)) rfl rfl rfl rfl rfl rfl (by decide) (by omega) ?_
        refine h_run 2 (pc' := 25) (l' := [(0, .inr (.inr 1826)), (1, .inl x1), (2, .inl x2), (3, .inl x3), (4, .inl x4), (5, .inl x5), (6, .inl ((i : Int) + 1)), (7, .inl x1)]) (st' := []) rfl ?_
        have g18 : -2147483648 ≤ (H1.1 1826 0) ∧ (H1.1 1826 0) ≤ 2147483647 := hrg1.1 1826 13 0 _ .int rfl rfl
        refine h_loc [0, 1, 2, 3, 4, 5, 6] rfl ?_
        rw [show ((i : Int) + 1) = (((i + 1) : Nat) : Int) by omega]
        exact ih _ (i + 1) (fr_o (fr_a hf (by decide)) (by decide)) (by omega) (by omega : ((H1.1 1826 28) + 1) = (H.1 1826 28) + (i + 1) ∧ (H.1 1826 28) ≤ 980 ∧ (H1.1 1826 0) = 0) (FR_s (i := i) (j := ((H1.1 1826 28)).toNat) (x := (24 - (8 * (z_and (i : Int) 3)))) (w0 := x1) hFR (by omega) (by omega) (by omega) (by unfold fwd; (repeat (first | rw [if_pos (by omega)] | rw [if_neg (by omega)])); try (first | rfl | (exfalso; omega))) (by omega) rfl) (by omega : 20 - (i + 1) < w)
set_option maxRecDepth 100000 in
theorem n_feed {zC : Nat → Option zsh} {d : Nat} (hd : 1 ≤ d) {H : hp} {x1 x2 x3 x4 x5 : Int} (ht : 0 ≤ (H.1 1826 28) ∧ (H.1 1826 28) ≤ 1000) : hG (zs zC) d mt_189 0 (zargs 0 [.inr (.inr 1826), .inl x1, .inl x2, .inl x3, .inl x4, .inl x5]) [] H (fun r9 H2 => (∃ r0 : Int, r9 = some (.inl r0) ∧ fr [0, 28] [1848] H H2 ∧ (((H2.1 1826 0) = 1 ∧ (H2.1 1826 28) = (H.1 1826 28) ∧ 980 < (H.1 1826 28) ∧ (H2.1 1848) = (H.1 1848)) ∨ ((H2.1 1826 0) = 0 ∧ (H2.1 1826 28) = (H.1 1826 28) + 20 ∧ (H.1 1826 28) ≤ 980 ∧ r0 = (H.1 1826 28) + 20 ∧ FR x1 x2 x3 x4 x5 20 H H2)))) := by
  refine h_rng (fun hrg0 => ?_)
  refine h_run 0 (pc' := 0) (l' := [(0, .inr (.inr 1826)), (1, .inl x1), (2, .inl x2), (3, .inl x3), (4, .inl x4), (5, .inl x5)]) (st' := []) rfl ?_
  refine h_run 2 (pc' := 2) (l' := [(0, .inr (.inr 1826)), (1, .inl x1), (2, .inl x2), (3, .inl x3), (4, .inl x4), (5, .inl x5)]) (st' := [.inl 0, .inr (.inr 1826)]) rfl ?_
  refine h_puti (i := 241) (ci := 13) (k := 0) (a := 1826) (x := 0) rfl rfl rfl rfl rfl rfl (by decide) (by decide) ?_
  refine h_run 2 (pc' := 9) (l' := [(0, .inr (.inr 1826)), (1, .inl x1), (2, .inl x2), (3, .inl x3), (4, .inl x4), (5, .inl x5)]) (st' := [.inl (H.1 1826 28)]) rfl ?_
  have g19 : -2147483648 ≤ (H.1 1826 28) ∧ (H.1 1826 28) ≤ 2147483647 := hrg0.1 1826 13 28 _ .int rfl rfl
  refine h_run 1 (pc' := 12) (l' := [(0, .inr (.inr 1826)), (1, .inl x1), (2, .inl x2), (3, .inl x3), (4, .inl x4), (5, .inl x5)]) (st' := [.inl 980, .inl (H.1 1826 28)]) rfl ?_
  refine h_ile (off := 10) (t := 22) rfl rfl (by omega) (by decide) (fun c20 => ?_) (fun c20 => ?_)
  · refine h_run 2 (pc' := 25) (l' := [(0, .inr (.inr 1826)), (1, .inl x1), (2, .inl x2), (3, .inl x3), (4, .inl x4), (5, .inl x5), (6, .inl 0)]) (st' := []) rfl ?_
    exact (n_feed_cut hd ht _) _ 0 (fr_o (fr_rf _ _ _) (by decide)) (by omega) (by omega : (H.1 1826 28) = (H.1 1826 28) + 0 ∧ (H.1 1826 28) ≤ 980 ∧ (0 : Int) = 0) (FR_0 rfl) (Nat.lt_succ_self _)
  · refine h_run 2 (pc' := 17) (l' := [(0, .inr (.inr 1826)), (1, .inl x1), (2, .inl x2), (3, .inl x3), (4, .inl x4), (5, .inl x5)]) (st' := [.inl 1, .inr (.inr 1826)]) rfl ?_
    refine h_puti (i := 241) (ci := 13) (k := 0) (a := 1826) (x := 1) rfl rfl rfl rfl rfl rfl (by decide) (by decide) ?_
    refine h_run 1 (pc' := 21) (l' := [(0, .inr (.inr 1826)), (1, .inl x1), (2, .inl x2), (3, .inl x3), (4, .inl x4), (5, .inl x5)]) (st' := [.inl 0]) rfl ?_
    refine h_reti (x := 0) rfl rfl ?_
    exact ⟨_, rfl, (fr_o (fr_o (fr_rf _ _ _) (by decide)) (by decide)), Or.inl ⟨(by omega : (1 : Int) = 1), (by omega : (H.1 1826 28) = (H.1 1826 28)), (by omega), rfl⟩⟩
