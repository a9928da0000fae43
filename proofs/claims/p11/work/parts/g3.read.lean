/-! the class's tables and its reader's small steps, told exactly -/
theorem fnd_go {f : Nat → Int} {n x a : Int} (h0 : 0 ≤ x) (h : x < n) (hn : f x.toNat ≠ a) : fndA f a (n - (x + 1)).toNat (x + 1).toNat = fndA f a (n - x).toNat x.toNat := by
  rw [show (n - x).toNat = (n - (x + 1)).toNat + 1 by omega, show (x + 1).toNat = x.toNat + 1 by omega]
  show _ = if f x.toNat = a then ((x.toNat : Nat) : Int) else fndA f a (n - (x + 1)).toNat (x.toNat + 1)
  rw [if_neg hn]
theorem fnd_hit {f : Nat → Int} {n x a : Int} (h0 : 0 ≤ x) (h : x < n) (hn : f x.toNat = a) : fndA f a (n - x).toNat x.toNat = x := by
  rw [show (n - x).toNat = (n - (x + 1)).toNat + 1 by omega]
  show (if f x.toNat = a then ((x.toNat : Nat) : Int) else _) = x
  rw [if_pos hn]
  omega
theorem fnd_end {f : Nat → Int} {n x a : Int} (h : n ≤ x) : fndA f a (n - x).toNat x.toNat = -1 := by
  rw [show (n - x).toNat = 0 by omega]
  rfl
theorem fnd_rng (f : Nat → Int) (x : Int) : ∀ (m k : Nat), -1 ≤ fndA f x m k ∧ (fndA f x m k < 0 ∨ ((k : Int) ≤ fndA f x m k ∧ fndA f x m k < k + m ∧ f (fndA f x m k).toNat = x))
  | 0, k => ⟨Int.le_refl _, Or.inl (by decide : (-1 : Int) < 0)⟩
  | m + 1, k => by
    unfold fndA
    split
    · rename_i h
      refine ⟨by omega, Or.inr ⟨Int.le_refl _, by omega, ?_⟩⟩
      rw [Int.toNat_natCast]
      exact h
    · have h := fnd_rng f x m (k + 1)
      refine ⟨h.1, h.2.elim Or.inl (fun q => Or.inr ⟨by omega, by omega, q.2.2⟩)⟩
theorem fnd_b (f : Nat → Int) (n x : Int) : -1 ≤ fnd f n x ∧ (fnd f n x < 0 ∨ (0 ≤ fnd f n x ∧ fnd f n x < n ∧ f (fnd f n x).toNat = x)) := by
  unfold fnd
  have h := fnd_rng f x n.toNat 0
  refine ⟨h.1, h.2.elim Or.inl (fun q => ?_)⟩
  by_cases e : fndA f x n.toNat 0 < 0
  · exact Or.inl e
  · exact Or.inr ⟨by omega, by omega, q.2.2⟩

/-! Symbols.find -/
set_option maxRecDepth 100000 in
theorem q_Symbols_find_8_cut {d : Nat} (hd : 1 ≤ d) {H : hp} (hI : Inv H) {a : Int} (hp0 : -9223372036854775808 ≤ a ∧ a ≤ 9223372036854775807) : ∀ w : Nat, (∀ (x3 : Int) , (-2147483648 ≤ x3 ∧ x3 ≤ 2147483647) → (0 ≤ x3) → (fndA (H.1 9) a (H.1 8 4 - x3).toNat x3.toNat = fnd (H.1 9) (H.1 8 4) a) → (((100 - x3).toNat) < w) → hG (zs zK) d mt_41 2 [(0, .inr (.inr 8)), (1, .inr (.inl a)), (3, .inl x3)] [] H (fun r9 H9 => ∃ z : Int, r9 = some (.inl z) ∧ ((-2147483648 ≤ z ∧ z ≤ 2147483647) ∧ (-1 ≤ z ∧ z < H.1 8 4)) ∧ (z = fnd (H.1 9) (H.1 8 4) a) ∧ H = H9)) := by
  intro w
  induction w with
  | zero => exact fun _ _ _ _ h => absurd h (Nat.not_lt_zero _)
  | succ w ih =>
    intro x3 hx3 hi0 hi1 hw
    have g2 : 0 ≤ (H.1 8 4) ∧ (H.1 8 4) ≤ 6 := kn (x := kx_8) hI rfl 4
    refine k_run 3 (pc' := 7) (l' := [(0, .inr (.inr 8)), (1, .inr (.inl a)), (3, .inl x3)]) (st' := [.inl (H.1 8 4), .inl x3]) rfl ?_
    refine h_ige (off := 31) (t := 38) rfl rfl (by omega) (by omega) (fun c3 => ?_) (fun c3 => ?_)
    · refine k_run 0 (pc' := 38) (l' := [(0, .inr (.inr 8)), (1, .inr (.inl a)), (3, .inl x3)]) (st' := []) rfl ?_
      refine k_run 1 (pc' := 39) (l' := [(0, .inr (.inr 8)), (1, .inr (.inl a)), (3, .inl x3)]) (st' := [.inl (-1)]) rfl ?_
      refine h_reti (x := (-1)) rfl rfl ?_
      exact ⟨_, rfl, (by omega), (by rw [← hi1]; first | exact (fnd_hit hi0 (by omega) (by omega)).symm | exact (fnd_end (by omega)).symm), rfl⟩
    · refine k_run 0 (pc' := 10) (l' := [(0, .inr (.inr 8)), (1, .inr (.inl a)), (3, .inl x3)]) (st' := []) rfl ?_
      refine k_run 3 (pc' := 15) (l' := [(0, .inr (.inr 8)), (1, .inr (.inl a)), (3, .inl x3)]) (st' := [.inr (.inr 9), .inl x3]) rfl ?_
      refine k_alen (c := 9) (x := kx_9) rfl rfl (by decide) rfl ?_
      refine k_run 0 (pc' := 16) (l' := [(0, .inr (.inr 8)), (1, .inr (.inl a)), (3, .inl x3)]) (st' := [.inl 6, .inl x3]) rfl ?_
      refine h_ige (off := 22) (t := 38) rfl rfl (by omega) (by decide) (fun c4 => ?_) (fun c4 => ?_)
      · refine k_run 0 (pc' := 38) (l' := [(0, .inr (.inr 8)), (1, .inr (.inl a)), (3, .inl x3)]) (st' := []) rfl ?_
        refine k_run 1 (pc' := 39) (l' := [(0, .inr (.inr 8)), (1, .inr (.inl a)), (3, .inl x3)]) (st' := [.inl (-1)]) rfl ?_
        refine h_reti (x := (-1)) rfl rfl ?_
        exact ⟨_, rfl, (by omega), (by rw [← hi1]; first | exact (fnd_hit hi0 (by omega) (by omega)).symm | exact (fnd_end (by omega)).symm), rfl⟩
      · refine k_run 0 (pc' := 19) (l' := [(0, .inr (.inr 8)), (1, .inr (.inl a)), (3, .inl x3)]) (st' := []) rfl ?_
        refine k_run 3 (pc' := 24) (l' := [(0, .inr (.inr 8)), (1, .inr (.inl a)), (3, .inl x3)]) (st' := [.inl x3, .inr (.inr 9)]) rfl ?_
        refine k_lld (c := 9) (j := (x3).toNat) (i := x3) (x := kx_9) rfl rfl (by decide) rfl (by decide) (by omega) (by omega) ?_
        have g5 : -9223372036854775808 ≤ (H.1 9 (x3).toNat) ∧ (H.1 9 (x3).toNat) ≤ 9223372036854775807 := kn (x := kx_9) hI rfl (x3).toNat
        refine k_run 0 (pc' := 25) (l' := [(0, .inr (.inr 8)), (1, .inr (.inl a)), (3, .inl x3)]) (st' := [.inr (.inl (H.1 9 (x3).toNat))]) rfl ?_
        refine k_run 2 (pc' := 27) (l' := [(0, .inr (.inr 8)), (1, .inr (.inl a)), (3, .inl x3)]) (st' := [.inl (z_cmp (H.1 9 (x3).toNat) a)]) rfl ?_
        refine h_zne (off := 5) (t := 32) rfl rfl (z_int _) (fun c6 => ?_) (fun c6 => ?_)
        · replace c6 : (H.1 9 (x3).toNat) ≠ a := fun q9 => c6 ((z_cmp_eq (by omega) (by omega)).mpr q9)
          refine k_run 0 (pc' := 32) (l' := [(0, .inr (.inr 8)), (1, .inr (.inl a)), (3, .inl x3)]) (st' := []) rfl ?_
          refine k_run 2 (pc' := 2) (l' := [(0, .inr (.inr 8)), (1, .inr (.inl a)), (3, .inl (x3 + 1))]) (st' := []) rfl ?_
          exact ih (x3 + 1) (by omega) (by omega) ((fnd_go hi0 (by omega) (by omega)).trans hi1) (by omega)
        · replace c6 : (H.1 9 (x3).toNat) = a := (z_cmp_eq (by omega) (by omega)).mp c6
          refine k_run 0 (pc' := 30) (l' := [(0, .inr (.inr 8)), (1, .inr (.inl a)), (3, .inl x3)]) (st' := []) rfl ?_
          refine k_run 1 (pc' := 31) (l' := [(0, .inr (.inr 8)), (1, .inr (.inl a)), (3, .inl x3)]) (st' := [.inl x3]) rfl ?_
          refine h_reti (x := x3) rfl rfl ?_
          exact ⟨_, rfl, (by omega), (by rw [← hi1]; first | exact (fnd_hit hi0 (by omega) (by omega)).symm | exact (fnd_end (by omega)).symm), rfl⟩
set_option maxRecDepth 100000 in
theorem q_Symbols_find_8 {d : Nat} (hd : 1 ≤ d) {H : hp} (hI : Inv H) {a : Int} (hp0 : -9223372036854775808 ≤ a ∧ a ≤ 9223372036854775807) : hG (zs zK) d mt_41 0 (zargs 0 [.inr (.inr 8), .inr (.inl a)]) [] H (fun r9 H9 => ∃ z : Int, r9 = some (.inl z) ∧ ((-2147483648 ≤ z ∧ z ≤ 2147483647) ∧ (-1 ≤ z ∧ z < H.1 8 4)) ∧ (z = fnd (H.1 9) (H.1 8 4) a) ∧ H = H9) := by
  refine k_run 0 (pc' := 0) (l' := [(0, .inr (.inr 8)), (1, .inr (.inl a))]) (st' := []) rfl ?_
  refine k_run 2 (pc' := 2) (l' := [(0, .inr (.inr 8)), (1, .inr (.inl a)), (3, .inl 0)]) (st' := []) rfl ?_
  have g1 : 0 ≤ (H.1 8 4) ∧ (H.1 8 4) ≤ 6 := kn (x := kx_8) hI rfl 4
  exact (q_Symbols_find_8_cut hd hI hp0 _) (0 : Int) (by decide) (by omega) (by rw [Int.sub_zero]; rfl) (Nat.lt_succ_self _)

/-! Symbols.isFull -/
set_option maxRecDepth 100000 in
theorem q_Symbols_isFull_8 {d : Nat} (hd : 1 ≤ d) {H : hp} (hI : Inv H)   : hG (zs zK) d mt_42 0 (zargs 0 [.inr (.inr 8)]) [] H (fun r9 H9 => ∃ z : Int, r9 = some (.inl z) ∧ ((0 ≤ z ∧ z ≤ 1)) ∧ (z = 1 ↔ 6 ≤ H.1 8 4) ∧ H = H9) := by
  refine k_run 0 (pc' := 0) (l' := [(0, .inr (.inr 8))]) (st' := []) rfl ?_
  refine k_run 2 (pc' := 4) (l' := [(0, .inr (.inr 8))]) (st' := [.inl (H.1 8 4)]) rfl ?_
  have g1 : 0 ≤ (H.1 8 4) ∧ (H.1 8 4) ≤ 6 := kn (x := kx_8) hI rfl 4
  refine k_run 2 (pc' := 8) (l' := [(0, .inr (.inr 8))]) (st' := [.inr (.inr 9), .inl (H.1 8 4)]) rfl ?_
  refine k_alen (c := 9) (x := kx_9) rfl rfl (by decide) rfl ?_
  refine k_run 0 (pc' := 9) (l' := [(0, .inr (.inr 8))]) (st' := [.inl 6, .inl (H.1 8 4)]) rfl ?_
  refine h_ilt (off := 7) (t := 16) rfl rfl (by omega) (by decide) (fun c2 => ?_) (fun c2 => ?_)
  · refine k_run 0 (pc' := 16) (l' := [(0, .inr (.inr 8))]) (st' := []) rfl ?_
    refine k_run 1 (pc' := 17) (l' := [(0, .inr (.inr 8))]) (st' := [.inl 0]) rfl ?_
    refine h_retz (x := 0) rfl rfl (by decide) ?_
    exact ⟨_, rfl, (by omega), (by omega), rfl⟩
  · refine k_run 0 (pc' := 12) (l' := [(0, .inr (.inr 8))]) (st' := []) rfl ?_
    refine k_run 2 (pc' := 17) (l' := [(0, .inr (.inr 8))]) (st' := [.inl 1]) rfl ?_
    refine h_retz (x := 1) rfl rfl (by decide) ?_
    exact ⟨_, rfl, (by omega), (by omega), rfl⟩

/-! Symbols.add -/
set_option maxRecDepth 100000 in
theorem q_Symbols_add_8 {d : Nat} (hd : 1 ≤ d) {H : hp} (hI : Inv H) {a : Int} {b : Int} (hb : -2147483648 ≤ b ∧ b ≤ 2147483647) (hp0 : -2 ≤ b ∧ b ≤ 100) (hp1 : -9223372036854775808 ≤ a ∧ a ≤ 9223372036854775807) (hp2 : H.1 8 4 < 6) : hG (zs zK) d mt_43 0 (zargs 0 [.inr (.inr 8), .inr (.inl a), .inl b]) [] H (fun r9 H9 => r9 = none ∧ Inv H9 ∧ fq [(8, 4)] [9, 10, 11] false H H9 ∧ fw [(9, (H.1 8 4).toNat), (10, (H.1 8 4).toNat), (11, (H.1 8 4).toNat), (8, 4)] H H9 ∧ (H9.1 9 (H.1 8 4).toNat = a ∧ H9.1 10 (H.1 8 4).toNat = b ∧ H9.1 11 (H.1 8 4).toNat = 0 ∧ H9.1 8 4 = H.1 8 4 + 1)) := by
  refine k_run 0 (pc' := 0) (l' := [(0, .inr (.inr 8)), (1, .inr (.inl a)), (3, .inl b)]) (st' := []) rfl ?_
  refine k_run 2 (pc' := 4) (l' := [(0, .inr (.inr 8)), (1, .inr (.inl a)), (3, .inl b)]) (st' := [.inl (H.1 8 4)]) rfl ?_
  have g1 : 0 ≤ (H.1 8 4) ∧ (H.1 8 4) ≤ 6 := kn (x := kx_8) hI rfl 4
  refine k_run 2 (pc' := 8) (l' := [(0, .inr (.inr 8)), (1, .inr (.inl a)), (3, .inl b)]) (st' := [.inr (.inr 9), .inl (H.1 8 4)]) rfl ?_
  refine k_alen (c := 9) (x := kx_9) rfl rfl (by decide) rfl ?_
  refine k_run 0 (pc' := 9) (l' := [(0, .inr (.inr 8)), (1, .inr (.inl a)), (3, .inl b)]) (st' := [.inl 6, .inl (H.1 8 4)]) rfl ?_
  refine h_ige (off := 43) (t := 52) rfl rfl (by omega) (by decide) (fun c2 => ?_) (fun c2 => ?_)
  · refine k_run 0 (pc' := 52) (l' := [(0, .inr (.inr 8)), (1, .inr (.inl a)), (3, .inl b)]) (st' := []) rfl ?_
    refine h_ret rfl rfl ?_
    exact ⟨rfl, hI, (fq_rf _ _ _ _), (fw_rf _ _), (by omega)⟩
  · refine k_run 0 (pc' := 12) (l' := [(0, .inr (.inr 8)), (1, .inr (.inl a)), (3, .inl b)]) (st' := []) rfl ?_
    refine k_run 5 (pc' := 21) (l' := [(0, .inr (.inr 8)), (1, .inr (.inl a)), (3, .inl b)]) (st' := [.inr (.inl a), .inl (H.1 8 4), .inr (.inr 9)]) rfl ?_
    refine k_lstx (z := a) (c := 9) (j := ((H.1 8 4)).toNat) (i := (H.1 8 4)) (x := kx_9) rfl rfl (by decide) (by decide) rfl (by decide) (by omega) (by omega) hI rfl (by omega) (fun H3 hI4 hw5 hv6 => ?_)
    have hf7 : fq [(8, 4)] [9, 10, 11] false H H3 := fq_w (fq_rf _ _ _ _) hw5 (fpa (by decide) rfl)
    have hp8 : fw [(9, (H.1 8 4).toNat), (10, (H.1 8 4).toNat), (11, (H.1 8 4).toNat), (8, 4)] H H3 := fw_w (fw_rf _ _) hw5 (by first | (simp; done) | (simp; omega))
    refine k_run 0 (pc' := 22) (l' := [(0, .inr (.inr 8)), (1, .inr (.inl a)), (3, .inl b)]) (st' := []) rfl ?_
    refine k_run 4 (pc' := 30) (l' := [(0, .inr (.inr 8)), (1, .inr (.inl a)), (3, .inl b)]) (st' := [.inl (H3.1 8 4), .inr (.inr 10)]) rfl ?_
    have g9 : 0 ≤ (H3.1 8 4) ∧ (H3.1 8 4) ≤ 6 := kn (x := kx_8) hI4 rfl 4
    have e10 : (H3.1 8 4) = (H.1 8 4) := hw5.2 _ _ (fun q => absurd q.1 (by decide))
    refine k_run 1 (pc' := 31) (l' := [(0, .inr (.inr 8)), (1, .inr (.inl a)), (3, .inl b)]) (st' := [.inl b, .inl (H3.1 8 4), .inr (.inr 10)]) rfl ?_
    refine k_ist (z := b) (c := 10) (j := ((H3.1 8 4)).toNat) (i := (H3.1 8 4)) (x := kx_10) rfl rfl (by decide) (by decide) rfl (by decide) (by omega) (by omega) hI4 (by omega) (show -2 ≤ b ∧ b ≤ 100 by omega) (fun H11 hI12 hw13 hv14 => ?_)
    have hf15 : fq [(8, 4)] [9, 10, 11] false H H11 := fq_w hf7 hw13 (fpa (by decide) rfl)
    have hp16 : fw [(9, (H.1 8 4).toNat), (10, (H.1 8 4).toNat), (11, (H.1 8 4).toNat), (8, 4)] H H11 := fw_w hp8 hw13 (by first | (simp; done) | (simp; omega))
    refine k_run 0 (pc' := 32) (l' := [(0, .inr (.inr 8)), (1, .inr (.inl a)), (3, .inl b)]) (st' := []) rfl ?_
    refine k_run 4 (pc' := 40) (l' := [(0, .inr (.inr 8)), (1, .inr (.inl a)), (3, .inl b)]) (st' := [.inl (H11.1 8 4), .inr (.inr 11)]) rfl ?_
    have g17 : 0 ≤ (H11.1 8 4) ∧ (H11.1 8 4) ≤ 6 := kn (x := kx_8) hI12 rfl 4
    have e18 : (H11.1 8 4) = (H3.1 8 4) := hw13.2 _ _ (fun q => absurd q.1 (by decide))
    refine k_run 1 (pc' := 41) (l' := [(0, .inr (.inr 8)), (1, .inr (.inl a)), (3, .inl b)]) (st' := [.inl 0, .inl (H11.1 8 4), .inr (.inr 11)]) rfl ?_
    refine k_ist (z := 0) (c := 11) (j := ((H11.1 8 4)).toNat) (i := (H11.1 8 4)) (x := kx_11) rfl rfl (by decide) (by decide) rfl (by decide) (by omega) (by omega) hI12 (by decide) (show 0 ≤ (0 : Int) ∧ (0 : Int) ≤ 4 by omega) (fun H19 hI20 hw21 hv22 => ?_)
    have hf23 : fq [(8, 4)] [9, 10, 11] false H H19 := fq_w hf15 hw21 (fpa (by decide) rfl)
    have hp24 : fw [(9, (H.1 8 4).toNat), (10, (H.1 8 4).toNat), (11, (H.1 8 4).toNat), (8, 4)] H H19 := fw_w hp16 hw21 (by first | (simp; done) | (simp; omega))
    refine k_run 0 (pc' := 42) (l' := [(0, .inr (.inr 8)), (1, .inr (.inl a)), (3, .inl b)]) (st' := []) rfl ?_
    refine k_run 3 (pc' := 47) (l' := [(0, .inr (.inr 8)), (1, .inr (.inl a)), (3, .inl b)]) (st' := [.inl (H19.1 8 4), .inr (.inr 8)]) rfl ?_
    have g25 : 0 ≤ (H19.1 8 4) ∧ (H19.1 8 4) ≤ 6 := kn (x := kx_8) hI20 rfl 4
    have e26 : (H19.1 8 4) = (H11.1 8 4) := hw21.2 _ _ (fun q => absurd q.1 (by decide))
    refine k_run 2 (pc' := 49) (l' := [(0, .inr (.inr 8)), (1, .inr (.inl a)), (3, .inl b)]) (st' := [.inl ((H19.1 8 4) + 1), .inr (.inr 8)]) rfl ?_
    refine k_puti (z := ((H19.1 8 4) + 1)) (a := 8) (x := kx_8) rfl rfl rfl (by decide) (by decide) rfl rfl rfl rfl hI20 (by omega) (show 0 ≤ ((H19.1 8 4) + 1) ∧ ((H19.1 8 4) + 1) ≤ 6 by omega) (fun H27 hI28 hw29 hv30 => ?_)
    have hf31 : fq [(8, 4)] [9, 10, 11] false H H27 := fq_w hf23 hw29 (fpo (by decide) rfl)
    have hp32 : fw [(9, (H.1 8 4).toNat), (10, (H.1 8 4).toNat), (11, (H.1 8 4).toNat), (8, 4)] H H27 := fw_w hp24 hw29 (by first | (simp; done) | (simp; omega))
    refine k_run 0 (pc' := 52) (l' := [(0, .inr (.inr 8)), (1, .inr (.inl a)), (3, .inl b)]) (st' := []) rfl ?_
    refine h_ret rfl rfl ?_
    have g33 : 0 ≤ (H27.1 8 4) ∧ (H27.1 8 4) ≤ 6 := kn (x := kx_8) hI28 rfl 4
    exact ⟨rfl, hI28, hf31, hp32, ⟨((hw29.2 _ _ (fun q => absurd q.1 (by first | decide | omega))).trans ((hw21.2 _ _ (fun q => absurd q.1 (by first | decide | omega))).trans ((hw13.2 _ _ (fun q => absurd q.1 (by first | decide | omega))).trans hv6))), (by rw [show ((H.1 8 4).toNat : Nat) = ((H3.1 8 4)).toNat by omega]; exact ((hw29.2 _ _ (fun q => absurd q.1 (by first | decide | omega))).trans ((hw21.2 _ _ (fun q => absurd q.1 (by first | decide | omega))).trans hv14))), (by rw [show ((H.1 8 4).toNat : Nat) = ((H11.1 8 4)).toNat by omega]; exact ((hw29.2 _ _ (fun q => absurd q.1 (by first | decide | omega))).trans hv22)), (by have h9 := hv30; omega)⟩⟩

/-! Symbols.find -/
set_option maxRecDepth 100000 in
theorem q_Symbols_find_13_cut {d : Nat} (hd : 1 ≤ d) {H : hp} (hI : Inv H) {a : Int} (hp0 : -9223372036854775808 ≤ a ∧ a ≤ 9223372036854775807) : ∀ w : Nat, (∀ (x3 : Int) , (-2147483648 ≤ x3 ∧ x3 ≤ 2147483647) → (0 ≤ x3) → (fndA (H.1 14) a (H.1 13 4 - x3).toNat x3.toNat = fnd (H.1 14) (H.1 13 4) a) → (((100 - x3).toNat) < w) → hG (zs zK) d mt_41 2 [(0, .inr (.inr 13)), (1, .inr (.inl a)), (3, .inl x3)] [] H (fun r9 H9 => ∃ z : Int, r9 = some (.inl z) ∧ ((-2147483648 ≤ z ∧ z ≤ 2147483647) ∧ (-1 ≤ z ∧ z < H.1 13 4)) ∧ (z = fnd (H.1 14) (H.1 13 4) a) ∧ H = H9)) := by
  intro w
  induction w with
  | zero => exact fun _ _ _ _ h => absurd h (Nat.not_lt_zero _)
  | succ w ih =>
    intro x3 hx3 hi0 hi1 hw
    have g2 : 0 ≤ (H.1 13 4) ∧ (H.1 13 4) ≤ 16 := kn (x := kx_13) hI rfl 4
    refine k_run 3 (pc' := 7) (l' := [(0, .inr (.inr 13)), (1, .inr (.inl a)), (3, .inl x3)]) (st' := [.inl (H.1 13 4), .inl x3]) rfl ?_
    refine h_ige (off := 31) (t := 38) rfl rfl (by omega) (by omega) (fun c3 => ?_) (fun c3 => ?_)
    · refine k_run 0 (pc' := 38) (l' := [(0, .inr (.inr 13)), (1, .inr (.inl a)), (3, .inl x3)]) (st' := []) rfl ?_
      refine k_run 1 (pc' := 39) (l' := [(0, .inr (.inr 13)), (1, .inr (.inl a)), (3, .inl x3)]) (st' := [.inl (-1)]) rfl ?_
      refine h_reti (x := (-1)) rfl rfl ?_
      exact ⟨_, rfl, (by omega), (by rw [← hi1]; first | exact (fnd_hit hi0 (by omega) (by omega)).symm | exact (fnd_end (by omega)).symm), rfl⟩
    · refine k_run 0 (pc' := 10) (l' := [(0, .inr (.inr 13)), (1, .inr (.inl a)), (3, .inl x3)]) (st' := []) rfl ?_
      refine k_run 3 (pc' := 15) (l' := [(0, .inr (.inr 13)), (1, .inr (.inl a)), (3, .inl x3)]) (st' := [.inr (.inr 14), .inl x3]) rfl ?_
      refine k_alen (c := 14) (x := kx_14) rfl rfl (by decide) rfl ?_
      refine k_run 0 (pc' := 16) (l' := [(0, .inr (.inr 13)), (1, .inr (.inl a)), (3, .inl x3)]) (st' := [.inl 16, .inl x3]) rfl ?_
      refine h_ige (off := 22) (t := 38) rfl rfl (by omega) (by decide) (fun c4 => ?_) (fun c4 => ?_)
      · refine k_run 0 (pc' := 38) (l' := [(0, .inr (.inr 13)), (1, .inr (.inl a)), (3, .inl x3)]) (st' := []) rfl ?_
        refine k_run 1 (pc' := 39) (l' := [(0, .inr (.inr 13)), (1, .inr (.inl a)), (3, .inl x3)]) (st' := [.inl (-1)]) rfl ?_
        refine h_reti (x := (-1)) rfl rfl ?_
        exact ⟨_, rfl, (by omega), (by rw [← hi1]; first | exact (fnd_hit hi0 (by omega) (by omega)).symm | exact (fnd_end (by omega)).symm), rfl⟩
      · refine k_run 0 (pc' := 19) (l' := [(0, .inr (.inr 13)), (1, .inr (.inl a)), (3, .inl x3)]) (st' := []) rfl ?_
        refine k_run 3 (pc' := 24) (l' := [(0, .inr (.inr 13)), (1, .inr (.inl a)), (3, .inl x3)]) (st' := [.inl x3, .inr (.inr 14)]) rfl ?_
        refine k_lld (c := 14) (j := (x3).toNat) (i := x3) (x := kx_14) rfl rfl (by decide) rfl (by decide) (by omega) (by omega) ?_
        have g5 : -9223372036854775808 ≤ (H.1 14 (x3).toNat) ∧ (H.1 14 (x3).toNat) ≤ 9223372036854775807 := kn (x := kx_14) hI rfl (x3).toNat
        refine k_run 0 (pc' := 25) (l' := [(0, .inr (.inr 13)), (1, .inr (.inl a)), (3, .inl x3)]) (st' := [.inr (.inl (H.1 14 (x3).toNat))]) rfl ?_
        refine k_run 2 (pc' := 27) (l' := [(0, .inr (.inr 13)), (1, .inr (.inl a)), (3, .inl x3)]) (st' := [.inl (z_cmp (H.1 14 (x3).toNat) a)]) rfl ?_
        refine h_zne (off := 5) (t := 32) rfl rfl (z_int _) (fun c6 => ?_) (fun c6 => ?_)
        · replace c6 : (H.1 14 (x3).toNat) ≠ a := fun q9 => c6 ((z_cmp_eq (by omega) (by omega)).mpr q9)
          refine k_run 0 (pc' := 32) (l' := [(0, .inr (.inr 13)), (1, .inr (.inl a)), (3, .inl x3)]) (st' := []) rfl ?_
          refine k_run 2 (pc' := 2) (l' := [(0, .inr (.inr 13)), (1, .inr (.inl a)), (3, .inl (x3 + 1))]) (st' := []) rfl ?_
          exact ih (x3 + 1) (by omega) (by omega) ((fnd_go hi0 (by omega) (by omega)).trans hi1) (by omega)
        · replace c6 : (H.1 14 (x3).toNat) = a := (z_cmp_eq (by omega) (by omega)).mp c6
          refine k_run 0 (pc' := 30) (l' := [(0, .inr (.inr 13)), (1, .inr (.inl a)), (3, .inl x3)]) (st' := []) rfl ?_
          refine k_run 1 (pc' := 31) (l' := [(0, .inr (.inr 13)), (1, .inr (.inl a)), (3, .inl x3)]) (st' := [.inl x3]) rfl ?_
          refine h_reti (x := x3) rfl rfl ?_
          exact ⟨_, rfl, (by omega), (by rw [← hi1]; first | exact (fnd_hit hi0 (by omega) (by omega)).symm | exact (fnd_end (by omega)).symm), rfl⟩
set_option maxRecDepth 100000 in
theorem q_Symbols_find_13 {d : Nat} (hd : 1 ≤ d) {H : hp} (hI : Inv H) {a : Int} (hp0 : -9223372036854775808 ≤ a ∧ a ≤ 9223372036854775807) : hG (zs zK) d mt_41 0 (zargs 0 [.inr (.inr 13), .inr (.inl a)]) [] H (fun r9 H9 => ∃ z : Int, r9 = some (.inl z) ∧ ((-2147483648 ≤ z ∧ z ≤ 2147483647) ∧ (-1 ≤ z ∧ z < H.1 13 4)) ∧ (z = fnd (H.1 14) (H.1 13 4) a) ∧ H = H9) := by
  refine k_run 0 (pc' := 0) (l' := [(0, .inr (.inr 13)), (1, .inr (.inl a))]) (st' := []) rfl ?_
  refine k_run 2 (pc' := 2) (l' := [(0, .inr (.inr 13)), (1, .inr (.inl a)), (3, .inl 0)]) (st' := []) rfl ?_
  have g1 : 0 ≤ (H.1 13 4) ∧ (H.1 13 4) ≤ 16 := kn (x := kx_13) hI rfl 4
  exact (q_Symbols_find_13_cut hd hI hp0 _) (0 : Int) (by decide) (by omega) (by rw [Int.sub_zero]; rfl) (Nat.lt_succ_self _)

/-! Symbols.isFull -/
set_option maxRecDepth 100000 in
theorem q_Symbols_isFull_13 {d : Nat} (hd : 1 ≤ d) {H : hp} (hI : Inv H)   : hG (zs zK) d mt_42 0 (zargs 0 [.inr (.inr 13)]) [] H (fun r9 H9 => ∃ z : Int, r9 = some (.inl z) ∧ ((0 ≤ z ∧ z ≤ 1)) ∧ (z = 1 ↔ 16 ≤ H.1 13 4) ∧ H = H9) := by
  refine k_run 0 (pc' := 0) (l' := [(0, .inr (.inr 13))]) (st' := []) rfl ?_
  refine k_run 2 (pc' := 4) (l' := [(0, .inr (.inr 13))]) (st' := [.inl (H.1 13 4)]) rfl ?_
  have g1 : 0 ≤ (H.1 13 4) ∧ (H.1 13 4) ≤ 16 := kn (x := kx_13) hI rfl 4
  refine k_run 2 (pc' := 8) (l' := [(0, .inr (.inr 13))]) (st' := [.inr (.inr 14), .inl (H.1 13 4)]) rfl ?_
  refine k_alen (c := 14) (x := kx_14) rfl rfl (by decide) rfl ?_
  refine k_run 0 (pc' := 9) (l' := [(0, .inr (.inr 13))]) (st' := [.inl 16, .inl (H.1 13 4)]) rfl ?_
  refine h_ilt (off := 7) (t := 16) rfl rfl (by omega) (by decide) (fun c2 => ?_) (fun c2 => ?_)
  · refine k_run 0 (pc' := 16) (l' := [(0, .inr (.inr 13))]) (st' := []) rfl ?_
    refine k_run 1 (pc' := 17) (l' := [(0, .inr (.inr 13))]) (st' := [.inl 0]) rfl ?_
    refine h_retz (x := 0) rfl rfl (by decide) ?_
    exact ⟨_, rfl, (by omega), (by omega), rfl⟩
  · refine k_run 0 (pc' := 12) (l' := [(0, .inr (.inr 13))]) (st' := []) rfl ?_
    refine k_run 2 (pc' := 17) (l' := [(0, .inr (.inr 13))]) (st' := [.inl 1]) rfl ?_
    refine h_retz (x := 1) rfl rfl (by decide) ?_
    exact ⟨_, rfl, (by omega), (by omega), rfl⟩

/-! Symbols.add -/
set_option maxRecDepth 100000 in
theorem q_Symbols_add_13 {d : Nat} (hd : 1 ≤ d) {H : hp} (hI : Inv H) {a : Int} {b : Int} (hb : -2147483648 ≤ b ∧ b ≤ 2147483647) (hp0 : -2 ≤ b ∧ b ≤ 100) (hp1 : -9223372036854775808 ≤ a ∧ a ≤ 9223372036854775807) (hp2 : H.1 13 4 < 16) : hG (zs zK) d mt_43 0 (zargs 0 [.inr (.inr 13), .inr (.inl a), .inl b]) [] H (fun r9 H9 => r9 = none ∧ Inv H9 ∧ fq [(13, 4)] [14, 15, 16] false H H9 ∧ fw [(14, (H.1 13 4).toNat), (15, (H.1 13 4).toNat), (16, (H.1 13 4).toNat), (13, 4)] H H9 ∧ (H9.1 14 (H.1 13 4).toNat = a ∧ H9.1 15 (H.1 13 4).toNat = b ∧ H9.1 16 (H.1 13 4).toNat = 0 ∧ H9.1 13 4 = H.1 13 4 + 1)) := by
  refine k_run 0 (pc' := 0) (l' := [(0, .inr (.inr 13)), (1, .inr (.inl a)), (3, .inl b)]) (st' := []) rfl ?_
  refine k_run 2 (pc' := 4) (l' := [(0, .inr (.inr 13)), (1, .inr (.inl a)), (3, .inl b)]) (st' := [.inl (H.1 13 4)]) rfl ?_
  have g1 : 0 ≤ (H.1 13 4) ∧ (H.1 13 4) ≤ 16 := kn (x := kx_13) hI rfl 4
  refine k_run 2 (pc' := 8) (l' := [(0, .inr (.inr 13)), (1, .inr (.inl a)), (3, .inl b)]) (st' := [.inr (.inr 14), .inl (H.1 13 4)]) rfl ?_
  refine k_alen (c := 14) (x := kx_14) rfl rfl (by decide) rfl ?_
  refine k_run 0 (pc' := 9) (l' := [(0, .inr (.inr 13)), (1, .inr (.inl a)), (3, .inl b)]) (st' := [.inl 16, .inl (H.1 13 4)]) rfl ?_
  refine h_ige (off := 43) (t := 52) rfl rfl (by omega) (by decide) (fun c2 => ?_) (fun c2 => ?_)
  · refine k_run 0 (pc' := 52) (l' := [(0, .inr (.inr 13)), (1, .inr (.inl a)), (3, .inl b)]) (st' := []) rfl ?_
    refine h_ret rfl rfl ?_
    exact ⟨rfl, hI, (fq_rf _ _ _ _), (fw_rf _ _), (by omega)⟩
  · refine k_run 0 (pc' := 12) (l' := [(0, .inr (.inr 13)), (1, .inr (.inl a)), (3, .inl b)]) (st' := []) rfl ?_
    refine k_run 5 (pc' := 21) (l' := [(0, .inr (.inr 13)), (1, .inr (.inl a)), (3, .inl b)]) (st' := [.inr (.inl a), .inl (H.1 13 4), .inr (.inr 14)]) rfl ?_
    refine k_lstx (z := a) (c := 14) (j := ((H.1 13 4)).toNat) (i := (H.1 13 4)) (x := kx_14) rfl rfl (by decide) (by decide) rfl (by decide) (by omega) (by omega) hI rfl (by omega) (fun H3 hI4 hw5 hv6 => ?_)
    have hf7 : fq [(13, 4)] [14, 15, 16] false H H3 := fq_w (fq_rf _ _ _ _) hw5 (fpa (by decide) rfl)
    have hp8 : fw [(14, (H.1 13 4).toNat), (15, (H.1 13 4).toNat), (16, (H.1 13 4).toNat), (13, 4)] H H3 := fw_w (fw_rf _ _) hw5 (by first | (simp; done) | (simp; omega))
    refine k_run 0 (pc' := 22) (l' := [(0, .inr (.inr 13)), (1, .inr (.inl a)), (3, .inl b)]) (st' := []) rfl ?_
    refine k_run 4 (pc' := 30) (l' := [(0, .inr (.inr 13)), (1, .inr (.inl a)), (3, .inl b)]) (st' := [.inl (H3.1 13 4), .inr (.inr 15)]) rfl ?_
    have g9 : 0 ≤ (H3.1 13 4) ∧ (H3.1 13 4) ≤ 16 := kn (x := kx_13) hI4 rfl 4
    have e10 : (H3.1 13 4) = (H.1 13 4) := hw5.2 _ _ (fun q => absurd q.1 (by decide))
    refine k_run 1 (pc' := 31) (l' := [(0, .inr (.inr 13)), (1, .inr (.inl a)), (3, .inl b)]) (st' := [.inl b, .inl (H3.1 13 4), .inr (.inr 15)]) rfl ?_
    refine k_ist (z := b) (c := 15) (j := ((H3.1 13 4)).toNat) (i := (H3.1 13 4)) (x := kx_15) rfl rfl (by decide) (by decide) rfl (by decide) (by omega) (by omega) hI4 (by omega) (show -2 ≤ b ∧ b ≤ 100 by omega) (fun H11 hI12 hw13 hv14 => ?_)
    have hf15 : fq [(13, 4)] [14, 15, 16] false H H11 := fq_w hf7 hw13 (fpa (by decide) rfl)
    have hp16 : fw [(14, (H.1 13 4).toNat), (15, (H.1 13 4).toNat), (16, (H.1 13 4).toNat), (13, 4)] H H11 := fw_w hp8 hw13 (by first | (simp; done) | (simp; omega))
    refine k_run 0 (pc' := 32) (l' := [(0, .inr (.inr 13)), (1, .inr (.inl a)), (3, .inl b)]) (st' := []) rfl ?_
    refine k_run 4 (pc' := 40) (l' := [(0, .inr (.inr 13)), (1, .inr (.inl a)), (3, .inl b)]) (st' := [.inl (H11.1 13 4), .inr (.inr 16)]) rfl ?_
    have g17 : 0 ≤ (H11.1 13 4) ∧ (H11.1 13 4) ≤ 16 := kn (x := kx_13) hI12 rfl 4
    have e18 : (H11.1 13 4) = (H3.1 13 4) := hw13.2 _ _ (fun q => absurd q.1 (by decide))
    refine k_run 1 (pc' := 41) (l' := [(0, .inr (.inr 13)), (1, .inr (.inl a)), (3, .inl b)]) (st' := [.inl 0, .inl (H11.1 13 4), .inr (.inr 16)]) rfl ?_
    refine k_ist (z := 0) (c := 16) (j := ((H11.1 13 4)).toNat) (i := (H11.1 13 4)) (x := kx_16) rfl rfl (by decide) (by decide) rfl (by decide) (by omega) (by omega) hI12 (by decide) (show 0 ≤ (0 : Int) ∧ (0 : Int) ≤ 4 by omega) (fun H19 hI20 hw21 hv22 => ?_)
    have hf23 : fq [(13, 4)] [14, 15, 16] false H H19 := fq_w hf15 hw21 (fpa (by decide) rfl)
    have hp24 : fw [(14, (H.1 13 4).toNat), (15, (H.1 13 4).toNat), (16, (H.1 13 4).toNat), (13, 4)] H H19 := fw_w hp16 hw21 (by first | (simp; done) | (simp; omega))
    refine k_run 0 (pc' := 42) (l' := [(0, .inr (.inr 13)), (1, .inr (.inl a)), (3, .inl b)]) (st' := []) rfl ?_
    refine k_run 3 (pc' := 47) (l' := [(0, .inr (.inr 13)), (1, .inr (.inl a)), (3, .inl b)]) (st' := [.inl (H19.1 13 4), .inr (.inr 13)]) rfl ?_
    have g25 : 0 ≤ (H19.1 13 4) ∧ (H19.1 13 4) ≤ 16 := kn (x := kx_13) hI20 rfl 4
    have e26 : (H19.1 13 4) = (H11.1 13 4) := hw21.2 _ _ (fun q => absurd q.1 (by decide))
    refine k_run 2 (pc' := 49) (l' := [(0, .inr (.inr 13)), (1, .inr (.inl a)), (3, .inl b)]) (st' := [.inl ((H19.1 13 4) + 1), .inr (.inr 13)]) rfl ?_
    refine k_puti (z := ((H19.1 13 4) + 1)) (a := 13) (x := kx_13) rfl rfl rfl (by decide) (by decide) rfl rfl rfl rfl hI20 (by omega) (show 0 ≤ ((H19.1 13 4) + 1) ∧ ((H19.1 13 4) + 1) ≤ 16 by omega) (fun H27 hI28 hw29 hv30 => ?_)
    have hf31 : fq [(13, 4)] [14, 15, 16] false H H27 := fq_w hf23 hw29 (fpo (by decide) rfl)
    have hp32 : fw [(14, (H.1 13 4).toNat), (15, (H.1 13 4).toNat), (16, (H.1 13 4).toNat), (13, 4)] H H27 := fw_w hp24 hw29 (by first | (simp; done) | (simp; omega))
    refine k_run 0 (pc' := 52) (l' := [(0, .inr (.inr 13)), (1, .inr (.inl a)), (3, .inl b)]) (st' := []) rfl ?_
    refine h_ret rfl rfl ?_
    have g33 : 0 ≤ (H27.1 13 4) ∧ (H27.1 13 4) ≤ 16 := kn (x := kx_13) hI28 rfl 4
    exact ⟨rfl, hI28, hf31, hp32, ⟨((hw29.2 _ _ (fun q => absurd q.1 (by first | decide | omega))).trans ((hw21.2 _ _ (fun q => absurd q.1 (by first | decide | omega))).trans ((hw13.2 _ _ (fun q => absurd q.1 (by first | decide | omega))).trans hv6))), (by rw [show ((H.1 13 4).toNat : Nat) = ((H3.1 13 4)).toNat by omega]; exact ((hw29.2 _ _ (fun q => absurd q.1 (by first | decide | omega))).trans ((hw21.2 _ _ (fun q => absurd q.1 (by first | decide | omega))).trans hv14))), (by rw [show ((H.1 13 4).toNat : Nat) = ((H11.1 13 4)).toNat by omega]; exact ((hw29.2 _ _ (fun q => absurd q.1 (by first | decide | omega))).trans hv22)), (by have h9 := hv30; omega)⟩⟩

/-! Symbols.addArgument -/
set_option maxRecDepth 100000 in
theorem q_Symbols_addArgument_13 {d : Nat} (hd : 1 ≤ d) {H : hp} (hI : Inv H) {b : Int} (hb : -2147483648 ≤ b ∧ b ≤ 2147483647) (hp0 : -2 ≤ b ∧ b ≤ 100) (hp1 : 1 ≤ H.1 13 4) (hp2 : 0 ≤ H.1 16 (H.1 13 4 - 1).toNat ∧ H.1 16 (H.1 13 4 - 1).toNat ≤ 3) : hG (zs zK) d mt_44 0 (zargs 0 [.inr (.inr 13), .inl b]) [] H (fun r9 H9 => r9 = none ∧ Inv H9 ∧ fq [] [16, 17] false H H9 ∧ fw [(17, (4 * (H.1 13 4 - 1) + H.1 16 (H.1 13 4 - 1).toNat).toNat), (16, (H.1 13 4 - 1).toNat)] H H9 ∧ (H9.1 17 (4 * (H.1 13 4 - 1) + H.1 16 (H.1 13 4 - 1).toNat).toNat = b ∧ H9.1 16 (H.1 13 4 - 1).toNat = H.1 16 (H.1 13 4 - 1).toNat + 1)) := by
  refine k_run 0 (pc' := 0) (l' := [(0, .inr (.inr 13)), (1, .inl b)]) (st' := []) rfl ?_
  refine k_run 2 (pc' := 4) (l' := [(0, .inr (.inr 13)), (1, .inl b)]) (st' := [.inl (H.1 13 4)]) rfl ?_
  have g1 : 0 ≤ (H.1 13 4) ∧ (H.1 13 4) ≤ 16 := kn (x := kx_13) hI rfl 4
  refine k_run 4 (pc' := 8) (l' := [(0, .inr (.inr 13)), (1, .inl b), (2, .inl ((H.1 13 4) - 1))]) (st' := [.inl ((H.1 13 4) - 1)]) rfl ?_
  refine h_zlt (off := 39) (t := 47) rfl rfl (by omega) (fun c2 => ?_) (fun c2 => ?_)
  · refine k_run 0 (pc' := 47) (l' := [(0, .inr (.inr 13)), (1, .inl b), (2, .inl ((H.1 13 4) - 1))]) (st' := []) rfl ?_
    refine h_ret rfl rfl ?_
    exact ⟨rfl, hI, (fq_rf _ _ _ _), (fw_rf _ _), (by omega)⟩
  · refine k_run 0 (pc' := 11) (l' := [(0, .inr (.inr 13)), (1, .inl b), (2, .inl ((H.1 13 4) - 1))]) (st' := []) rfl ?_
    refine k_run 3 (pc' := 16) (l' := [(0, .inr (.inr 13)), (1, .inl b), (2, .inl ((H.1 13 4) - 1))]) (st' := [.inl ((H.1 13 4) - 1), .inr (.inr 16)]) rfl ?_
    refine k_ild (c := 16) (j := (((H.1 13 4) - 1)).toNat) (i := ((H.1 13 4) - 1)) (x := kx_16) rfl rfl (by decide) rfl (by decide) (by omega) (by omega) ?_
    have g3 : 0 ≤ (H.1 16 (((H.1 13 4) - 1)).toNat) ∧ (H.1 16 (((H.1 13 4) - 1)).toNat) ≤ 4 := kn (x := kx_16) hI rfl (((H.1 13 4) - 1)).toNat
    refine k_run 0 (pc' := 17) (l' := [(0, .inr (.inr 13)), (1, .inl b), (2, .inl ((H.1 13 4) - 1))]) (st' := [.inl (H.1 16 (((H.1 13 4) - 1)).toNat)]) rfl ?_
    refine k_run 1 (pc' := 18) (l' := [(0, .inr (.inr 13)), (1, .inl b), (2, .inl ((H.1 13 4) - 1))]) (st' := [.inl 4, .inl (H.1 16 (((H.1 13 4) - 1)).toNat)]) rfl ?_
    refine h_ige (off := 29) (t := 47) rfl rfl (by omega) (by decide) (fun c4 => ?_) (fun c4 => ?_)
    · refine k_run 0 (pc' := 47) (l' := [(0, .inr (.inr 13)), (1, .inl b), (2, .inl ((H.1 13 4) - 1))]) (st' := []) rfl ?_
      refine h_ret rfl rfl ?_
      exact ⟨rfl, hI, (fq_rf _ _ _ _), (fw_rf _ _), (by omega)⟩
    · refine k_run 0 (pc' := 21) (l' := [(0, .inr (.inr 13)), (1, .inl b), (2, .inl ((H.1 13 4) - 1))]) (st' := []) rfl ?_
      refine k_run 8 (pc' := 33) (l' := [(0, .inr (.inr 13)), (1, .inl b), (2, .inl ((H.1 13 4) - 1))]) (st' := [.inl ((H.1 13 4) - 1), .inr (.inr 16), .inl (((H.1 13 4) - 1) * 4), .inr (.inr 17)]) rfl ?_
      refine k_ild (c := 16) (j := (((H.1 13 4) - 1)).toNat) (i := ((H.1 13 4) - 1)) (x := kx_16) rfl rfl (by decide) rfl (by decide) (by omega) (by omega) ?_
      refine k_run 0 (pc' := 34) (l' := [(0, .inr (.inr 13)), (1, .inl b), (2, .inl ((H.1 13 4) - 1))]) (st' := [.inl (H.1 16 (((H.1 13 4) - 1)).toNat), .inl (((H.1 13 4) - 1) * 4), .inr (.inr 17)]) rfl ?_
      refine k_run 2 (pc' := 36) (l' := [(0, .inr (.inr 13)), (1, .inl b), (2, .inl ((H.1 13 4) - 1))]) (st' := [.inl b, .inl ((((H.1 13 4) - 1) * 4) + (H.1 16 (((H.1 13 4) - 1)).toNat)), .inr (.inr 17)]) rfl ?_
      refine k_ist (z := b) (c := 17) (j := (((((H.1 13 4) - 1) * 4) + (H.1 16 (((H.1 13 4) - 1)).toNat))).toNat) (i := ((((H.1 13 4) - 1) * 4) + (H.1 16 (((H.1 13 4) - 1)).toNat))) (x := kx_17) rfl rfl (by decide) (by decide) rfl (by decide) (by omega) (by omega) hI (by omega) (show -2 ≤ b ∧ b ≤ 100 by omega) (fun H5 hI6 hw7 hv8 => ?_)
      have hf9 : fq [] [16, 17] false H H5 := fq_w (fq_rf _ _ _ _) hw7 (fpa (by decide) rfl)
      have hp10 : fw [(17, (4 * (H.1 13 4 - 1) + H.1 16 (H.1 13 4 - 1).toNat).toNat), (16, (H.1 13 4 - 1).toNat)] H H5 := fw_w (fw_rf _ _) hw7 (by first | (simp; done) | (simp; omega))
      refine k_run 0 (pc' := 37) (l' := [(0, .inr (.inr 13)), (1, .inl b), (2, .inl ((H.1 13 4) - 1))]) (st' := []) rfl ?_
      refine k_run 4 (pc' := 43) (l' := [(0, .inr (.inr 13)), (1, .inl b), (2, .inl ((H.1 13 4) - 1))]) (st' := [.inl ((H.1 13 4) - 1), .inr (.inr 16), .inl ((H.1 13 4) - 1), .inr (.inr 16)]) rfl ?_
      refine k_ild (c := 16) (j := (((H.1 13 4) - 1)).toNat) (i := ((H.1 13 4) - 1)) (x := kx_16) rfl rfl (by decide) rfl (by decide) (by omega) (by omega) ?_
      have g11 : 0 ≤ (H5.1 16 (((H.1 13 4) - 1)).toNat) ∧ (H5.1 16 (((H.1 13 4) - 1)).toNat) ≤ 4 := kn (x := kx_16) hI6 rfl (((H.1 13 4) - 1)).toNat
      have e12 : (H5.1 16 (((H.1 13 4) - 1)).toNat) = (H.1 16 (((H.1 13 4) - 1)).toNat) := hw7.2 _ _ (fun q => absurd q.1 (by decide))
      refine k_run 0 (pc' := 44) (l' := [(0, .inr (.inr 13)), (1, .inl b), (2, .inl ((H.1 13 4) - 1))]) (st' := [.inl (H5.1 16 (((H.1 13 4) - 1)).toNat), .inl ((H.1 13 4) - 1), .inr (.inr 16)]) rfl ?_
      refine k_run 2 (pc' := 46) (l' := [(0, .inr (.inr 13)), (1, .inl b), (2, .inl ((H.1 13 4) - 1))]) (st' := [.inl ((H5.1 16 (((H.1 13 4) - 1)).toNat) + 1), .inl ((H.1 13 4) - 1), .inr (.inr 16)]) rfl ?_
      refine k_ist (z := ((H5.1 16 (((H.1 13 4) - 1)).toNat) + 1)) (c := 16) (j := (((H.1 13 4) - 1)).toNat) (i := ((H.1 13 4) - 1)) (x := kx_16) rfl rfl (by decide) (by decide) rfl (by decide) (by omega) (by omega) hI6 (by omega) (show 0 ≤ ((H5.1 16 (((H.1 13 4) - 1)).toNat) + 1) ∧ ((H5.1 16 (((H.1 13 4) - 1)).toNat) + 1) ≤ 4 by omega) (fun H13 hI14 hw15 hv16 => ?_)
      have hf17 : fq [] [16, 17] false H H13 := fq_w hf9 hw15 (fpa (by decide) rfl)
      have hp18 : fw [(17, (4 * (H.1 13 4 - 1) + H.1 16 (H.1 13 4 - 1).toNat).toNat), (16, (H.1 13 4 - 1).toNat)] H H13 := fw_w hp10 hw15 (by first | (simp; done) | (simp; omega))
      refine k_run 0 (pc' := 47) (l' := [(0, .inr (.inr 13)), (1, .inl b), (2, .inl ((H.1 13 4) - 1))]) (st' := []) rfl ?_
      refine h_ret rfl rfl ?_
      have g19 : 0 ≤ (H13.1 13 4) ∧ (H13.1 13 4) ≤ 16 := kn (x := kx_13) hI14 rfl 4
      have e20 : (H13.1 13 4) = (H5.1 13 4) := hw15.2 _ _ (fun q => absurd q.1 (by decide))
      have e21 : (H5.1 13 4) = (H.1 13 4) := hw7.2 _ _ (fun q => absurd q.1 (by decide))
      exact ⟨rfl, hI14, hf17, hp18, ⟨(by rw [show ((4 * (H.1 13 4 - 1) + H.1 16 (H.1 13 4 - 1).toNat).toNat : Nat) = (((((H.1 13 4) - 1) * 4) + (H.1 16 (((H.1 13 4) - 1)).toNat))).toNat by omega]; exact ((hw15.2 _ _ (fun q => absurd q.1 (by first | decide | omega))).trans hv8)), (by have h9 := hv16; omega)⟩⟩

/-! Symbols.argument -/
set_option maxRecDepth 100000 in
theorem q_Symbols_argument_13 {d : Nat} (hd : 1 ≤ d) {H : hp} (hI : Inv H) {a : Int} {b : Int} (ha : -2147483648 ≤ a ∧ a ≤ 2147483647) (hb : -2147483648 ≤ b ∧ b ≤ 2147483647) (hp0 : 0 ≤ a ∧ a ≤ 15 ∧ 0 ≤ b ∧ b ≤ 3) : hG (zs zK) d mt_45 0 (zargs 0 [.inr (.inr 13), .inl a, .inl b]) [] H (fun r9 H9 => ∃ z : Int, r9 = some (.inl z) ∧ ((-2147483648 ≤ z ∧ z ≤ 2147483647) ∧ (-2 ≤ z ∧ z ≤ 100)) ∧ (z = H.1 17 (4 * a + b).toNat) ∧ H = H9) := by
  refine k_run 0 (pc' := 0) (l' := [(0, .inr (.inr 13)), (1, .inl a), (2, .inl b)]) (st' := []) rfl ?_
  refine k_run 7 (pc' := 7) (l' := [(0, .inr (.inr 13)), (1, .inl a), (2, .inl b), (3, .inl ((a * 4) + b))]) (st' := [.inl a]) rfl ?_
  refine h_zlt (off := 30) (t := 37) rfl rfl (by omega) (fun c1 => ?_) (fun c1 => ?_)
  · refine k_run 0 (pc' := 37) (l' := [(0, .inr (.inr 13)), (1, .inl a), (2, .inl b), (3, .inl ((a * 4) + b))]) (st' := []) rfl ?_
    refine k_run 1 (pc' := 38) (l' := [(0, .inr (.inr 13)), (1, .inl a), (2, .inl b), (3, .inl ((a * 4) + b))]) (st' := [.inl (-1)]) rfl ?_
    refine h_reti (x := (-1)) rfl rfl ?_
    exact ⟨_, rfl, (by omega), (by first | (exfalso; omega) | rw [show (4 * a + b).toNat = (a * 4 + b).toNat by omega]), rfl⟩
  · refine k_run 0 (pc' := 10) (l' := [(0, .inr (.inr 13)), (1, .inl a), (2, .inl b), (3, .inl ((a * 4) + b))]) (st' := []) rfl ?_
    refine k_run 1 (pc' := 11) (l' := [(0, .inr (.inr 13)), (1, .inl a), (2, .inl b), (3, .inl ((a * 4) + b))]) (st' := [.inl b]) rfl ?_
    refine h_zlt (off := 26) (t := 37) rfl rfl (by omega) (fun c2 => ?_) (fun c2 => ?_)
    · refine k_run 0 (pc' := 37) (l' := [(0, .inr (.inr 13)), (1, .inl a), (2, .inl b), (3, .inl ((a * 4) + b))]) (st' := []) rfl ?_
      refine k_run 1 (pc' := 38) (l' := [(0, .inr (.inr 13)), (1, .inl a), (2, .inl b), (3, .inl ((a * 4) + b))]) (st' := [.inl (-1)]) rfl ?_
      refine h_reti (x := (-1)) rfl rfl ?_
      exact ⟨_, rfl, (by omega), (by first | (exfalso; omega) | rw [show (4 * a + b).toNat = (a * 4 + b).toNat by omega]), rfl⟩
    · refine k_run 0 (pc' := 14) (l' := [(0, .inr (.inr 13)), (1, .inl a), (2, .inl b), (3, .inl ((a * 4) + b))]) (st' := []) rfl ?_
      refine k_run 2 (pc' := 16) (l' := [(0, .inr (.inr 13)), (1, .inl a), (2, .inl b), (3, .inl ((a * 4) + b))]) (st' := [.inl 4, .inl b]) rfl ?_
      refine h_ige (off := 21) (t := 37) rfl rfl (by omega) (by decide) (fun c3 => ?_) (fun c3 => ?_)
      · refine k_run 0 (pc' := 37) (l' := [(0, .inr (.inr 13)), (1, .inl a), (2, .inl b), (3, .inl ((a * 4) + b))]) (st' := []) rfl ?_
        refine k_run 1 (pc' := 38) (l' := [(0, .inr (.inr 13)), (1, .inl a), (2, .inl b), (3, .inl ((a * 4) + b))]) (st' := [.inl (-1)]) rfl ?_
        refine h_reti (x := (-1)) rfl rfl ?_
        exact ⟨_, rfl, (by omega), (by first | (exfalso; omega) | rw [show (4 * a + b).toNat = (a * 4 + b).toNat by omega]), rfl⟩
      · refine k_run 0 (pc' := 19) (l' := [(0, .inr (.inr 13)), (1, .inl a), (2, .inl b), (3, .inl ((a * 4) + b))]) (st' := []) rfl ?_
        refine k_run 3 (pc' := 24) (l' := [(0, .inr (.inr 13)), (1, .inl a), (2, .inl b), (3, .inl ((a * 4) + b))]) (st' := [.inr (.inr 17), .inl ((a * 4) + b)]) rfl ?_
        refine k_alen (c := 17) (x := kx_17) rfl rfl (by decide) rfl ?_
        refine k_run 0 (pc' := 25) (l' := [(0, .inr (.inr 13)), (1, .inl a), (2, .inl b), (3, .inl ((a * 4) + b))]) (st' := [.inl 64, .inl ((a * 4) + b)]) rfl ?_
        refine h_ige (off := 12) (t := 37) rfl rfl (by omega) (by decide) (fun c4 => ?_) (fun c4 => ?_)
        · refine k_run 0 (pc' := 37) (l' := [(0, .inr (.inr 13)), (1, .inl a), (2, .inl b), (3, .inl ((a * 4) + b))]) (st' := []) rfl ?_
          refine k_run 1 (pc' := 38) (l' := [(0, .inr (.inr 13)), (1, .inl a), (2, .inl b), (3, .inl ((a * 4) + b))]) (st' := [.inl (-1)]) rfl ?_
          refine h_reti (x := (-1)) rfl rfl ?_
          exact ⟨_, rfl, (by omega), (by first | (exfalso; omega) | rw [show (4 * a + b).toNat = (a * 4 + b).toNat by omega]), rfl⟩
        · refine k_run 0 (pc' := 28) (l' := [(0, .inr (.inr 13)), (1, .inl a), (2, .inl b), (3, .inl ((a * 4) + b))]) (st' := []) rfl ?_
          refine k_run 3 (pc' := 33) (l' := [(0, .inr (.inr 13)), (1, .inl a), (2, .inl b), (3, .inl ((a * 4) + b))]) (st' := [.inl ((a * 4) + b), .inr (.inr 17)]) rfl ?_
          refine k_ild (c := 17) (j := (((a * 4) + b)).toNat) (i := ((a * 4) + b)) (x := kx_17) rfl rfl (by decide) rfl (by decide) (by omega) (by omega) ?_
          have g5 : -2 ≤ (H.1 17 (((a * 4) + b)).toNat) ∧ (H.1 17 (((a * 4) + b)).toNat) ≤ 100 := kn (x := kx_17) hI rfl (((a * 4) + b)).toNat
          refine k_run 0 (pc' := 34) (l' := [(0, .inr (.inr 13)), (1, .inl a), (2, .inl b), (3, .inl ((a * 4) + b))]) (st' := [.inl (H.1 17 (((a * 4) + b)).toNat)]) rfl ?_
          refine k_run 1 (pc' := 38) (l' := [(0, .inr (.inr 13)), (1, .inl a), (2, .inl b), (3, .inl ((a * 4) + b))]) (st' := [.inl (H.1 17 (((a * 4) + b)).toNat)]) rfl ?_
          refine h_reti (x := (H.1 17 (((a * 4) + b)).toNat)) rfl rfl ?_
          exact ⟨_, rfl, (by omega), (by first | (exfalso; omega) | rw [show (4 * a + b).toNat = (a * 4 + b).toNat by omega]), rfl⟩

/-! Symbols.find -/
set_option maxRecDepth 100000 in
theorem q_Symbols_find_18_cut {d : Nat} (hd : 1 ≤ d) {H : hp} (hI : Inv H) {a : Int} (hp0 : -9223372036854775808 ≤ a ∧ a ≤ 9223372036854775807) : ∀ w : Nat, (∀ (x3 : Int) , (-2147483648 ≤ x3 ∧ x3 ≤ 2147483647) → (0 ≤ x3) → (fndA (H.1 19) a (H.1 18 4 - x3).toNat x3.toNat = fnd (H.1 19) (H.1 18 4) a) → (((100 - x3).toNat) < w) → hG (zs zK) d mt_41 2 [(0, .inr (.inr 18)), (1, .inr (.inl a)), (3, .inl x3)] [] H (fun r9 H9 => ∃ z : Int, r9 = some (.inl z) ∧ ((-2147483648 ≤ z ∧ z ≤ 2147483647) ∧ (-1 ≤ z ∧ z < H.1 18 4)) ∧ (z = fnd (H.1 19) (H.1 18 4) a) ∧ H = H9)) := by
  intro w
  induction w with
  | zero => exact fun _ _ _ _ h => absurd h (Nat.not_lt_zero _)
  | succ w ih =>
    intro x3 hx3 hi0 hi1 hw
    have g2 : 0 ≤ (H.1 18 4) ∧ (H.1 18 4) ≤ 16 := kn (x := kx_18) hI rfl 4
    refine k_run 3 (pc' := 7) (l' := [(0, .inr (.inr 18)), (1, .inr (.inl a)), (3, .inl x3)]) (st' := [.inl (H.1 18 4), .inl x3]) rfl ?_
    refine h_ige (off := 31) (t := 38) rfl rfl (by omega) (by omega) (fun c3 => ?_) (fun c3 => ?_)
    · refine k_run 0 (pc' := 38) (l' := [(0, .inr (.inr 18)), (1, .inr (.inl a)), (3, .inl x3)]) (st' := []) rfl ?_
      refine k_run 1 (pc' := 39) (l' := [(0, .inr (.inr 18)), (1, .inr (.inl a)), (3, .inl x3)]) (st' := [.inl (-1)]) rfl ?_
      refine h_reti (x := (-1)) rfl rfl ?_
      exact ⟨_, rfl, (by omega), (by rw [← hi1]; first | exact (fnd_hit hi0 (by omega) (by omega)).symm | exact (fnd_end (by omega)).symm), rfl⟩
    · refine k_run 0 (pc' := 10) (l' := [(0, .inr (.inr 18)), (1, .inr (.inl a)), (3, .inl x3)]) (st' := []) rfl ?_
      refine k_run 3 (pc' := 15) (l' := [(0, .inr (.inr 18)), (1, .inr (.inl a)), (3, .inl x3)]) (st' := [.inr (.inr 19), .inl x3]) rfl ?_
      refine k_alen (c := 19) (x := kx_19) rfl rfl (by decide) rfl ?_
      refine k_run 0 (pc' := 16) (l' := [(0, .inr (.inr 18)), (1, .inr (.inl a)), (3, .inl x3)]) (st' := [.inl 16, .inl x3]) rfl ?_
      refine h_ige (off := 22) (t := 38) rfl rfl (by omega) (by decide) (fun c4 => ?_) (fun c4 => ?_)
      · refine k_run 0 (pc' := 38) (l' := [(0, .inr (.inr 18)), (1, .inr (.inl a)), (3, .inl x3)]) (st' := []) rfl ?_
        refine k_run 1 (pc' := 39) (l' := [(0, .inr (.inr 18)), (1, .inr (.inl a)), (3, .inl x3)]) (st' := [.inl (-1)]) rfl ?_
        refine h_reti (x := (-1)) rfl rfl ?_
        exact ⟨_, rfl, (by omega), (by rw [← hi1]; first | exact (fnd_hit hi0 (by omega) (by omega)).symm | exact (fnd_end (by omega)).symm), rfl⟩
      · refine k_run 0 (pc' := 19) (l' := [(0, .inr (.inr 18)), (1, .inr (.inl a)), (3, .inl x3)]) (st' := []) rfl ?_
        refine k_run 3 (pc' := 24) (l' := [(0, .inr (.inr 18)), (1, .inr (.inl a)), (3, .inl x3)]) (st' := [.inl x3, .inr (.inr 19)]) rfl ?_
        refine k_lld (c := 19) (j := (x3).toNat) (i := x3) (x := kx_19) rfl rfl (by decide) rfl (by decide) (by omega) (by omega) ?_
        have g5 : -9223372036854775808 ≤ (H.1 19 (x3).toNat) ∧ (H.1 19 (x3).toNat) ≤ 9223372036854775807 := kn (x := kx_19) hI rfl (x3).toNat
        refine k_run 0 (pc' := 25) (l' := [(0, .inr (.inr 18)), (1, .inr (.inl a)), (3, .inl x3)]) (st' := [.inr (.inl (H.1 19 (x3).toNat))]) rfl ?_
        refine k_run 2 (pc' := 27) (l' := [(0, .inr (.inr 18)), (1, .inr (.inl a)), (3, .inl x3)]) (st' := [.inl (z_cmp (H.1 19 (x3).toNat) a)]) rfl ?_
        refine h_zne (off := 5) (t := 32) rfl rfl (z_int _) (fun c6 => ?_) (fun c6 => ?_)
        · replace c6 : (H.1 19 (x3).toNat) ≠ a := fun q9 => c6 ((z_cmp_eq (by omega) (by omega)).mpr q9)
          refine k_run 0 (pc' := 32) (l' := [(0, .inr (.inr 18)), (1, .inr (.inl a)), (3, .inl x3)]) (st' := []) rfl ?_
          refine k_run 2 (pc' := 2) (l' := [(0, .inr (.inr 18)), (1, .inr (.inl a)), (3, .inl (x3 + 1))]) (st' := []) rfl ?_
          exact ih (x3 + 1) (by omega) (by omega) ((fnd_go hi0 (by omega) (by omega)).trans hi1) (by omega)
        · replace c6 : (H.1 19 (x3).toNat) = a := (z_cmp_eq (by omega) (by omega)).mp c6
          refine k_run 0 (pc' := 30) (l' := [(0, .inr (.inr 18)), (1, .inr (.inl a)), (3, .inl x3)]) (st' := []) rfl ?_
          refine k_run 1 (pc' := 31) (l' := [(0, .inr (.inr 18)), (1, .inr (.inl a)), (3, .inl x3)]) (st' := [.inl x3]) rfl ?_
          refine h_reti (x := x3) rfl rfl ?_
          exact ⟨_, rfl, (by omega), (by rw [← hi1]; first | exact (fnd_hit hi0 (by omega) (by omega)).symm | exact (fnd_end (by omega)).symm), rfl⟩
set_option maxRecDepth 100000 in
theorem q_Symbols_find_18 {d : Nat} (hd : 1 ≤ d) {H : hp} (hI : Inv H) {a : Int} (hp0 : -9223372036854775808 ≤ a ∧ a ≤ 9223372036854775807) : hG (zs zK) d mt_41 0 (zargs 0 [.inr (.inr 18), .inr (.inl a)]) [] H (fun r9 H9 => ∃ z : Int, r9 = some (.inl z) ∧ ((-2147483648 ≤ z ∧ z ≤ 2147483647) ∧ (-1 ≤ z ∧ z < H.1 18 4)) ∧ (z = fnd (H.1 19) (H.1 18 4) a) ∧ H = H9) := by
  refine k_run 0 (pc' := 0) (l' := [(0, .inr (.inr 18)), (1, .inr (.inl a))]) (st' := []) rfl ?_
  refine k_run 2 (pc' := 2) (l' := [(0, .inr (.inr 18)), (1, .inr (.inl a)), (3, .inl 0)]) (st' := []) rfl ?_
  have g1 : 0 ≤ (H.1 18 4) ∧ (H.1 18 4) ≤ 16 := kn (x := kx_18) hI rfl 4
  exact (q_Symbols_find_18_cut hd hI hp0 _) (0 : Int) (by decide) (by omega) (by rw [Int.sub_zero]; rfl) (Nat.lt_succ_self _)

/-! Symbols.isFull -/
set_option maxRecDepth 100000 in
theorem q_Symbols_isFull_18 {d : Nat} (hd : 1 ≤ d) {H : hp} (hI : Inv H)   : hG (zs zK) d mt_42 0 (zargs 0 [.inr (.inr 18)]) [] H (fun r9 H9 => ∃ z : Int, r9 = some (.inl z) ∧ ((0 ≤ z ∧ z ≤ 1)) ∧ (z = 1 ↔ 16 ≤ H.1 18 4) ∧ H = H9) := by
  refine k_run 0 (pc' := 0) (l' := [(0, .inr (.inr 18))]) (st' := []) rfl ?_
  refine k_run 2 (pc' := 4) (l' := [(0, .inr (.inr 18))]) (st' := [.inl (H.1 18 4)]) rfl ?_
  have g1 : 0 ≤ (H.1 18 4) ∧ (H.1 18 4) ≤ 16 := kn (x := kx_18) hI rfl 4
  refine k_run 2 (pc' := 8) (l' := [(0, .inr (.inr 18))]) (st' := [.inr (.inr 19), .inl (H.1 18 4)]) rfl ?_
  refine k_alen (c := 19) (x := kx_19) rfl rfl (by decide) rfl ?_
  refine k_run 0 (pc' := 9) (l' := [(0, .inr (.inr 18))]) (st' := [.inl 16, .inl (H.1 18 4)]) rfl ?_
  refine h_ilt (off := 7) (t := 16) rfl rfl (by omega) (by decide) (fun c2 => ?_) (fun c2 => ?_)
  · refine k_run 0 (pc' := 16) (l' := [(0, .inr (.inr 18))]) (st' := []) rfl ?_
    refine k_run 1 (pc' := 17) (l' := [(0, .inr (.inr 18))]) (st' := [.inl 0]) rfl ?_
    refine h_retz (x := 0) rfl rfl (by decide) ?_
    exact ⟨_, rfl, (by omega), (by omega), rfl⟩
  · refine k_run 0 (pc' := 12) (l' := [(0, .inr (.inr 18))]) (st' := []) rfl ?_
    refine k_run 2 (pc' := 17) (l' := [(0, .inr (.inr 18))]) (st' := [.inl 1]) rfl ?_
    refine h_retz (x := 1) rfl rfl (by decide) ?_
    exact ⟨_, rfl, (by omega), (by omega), rfl⟩

/-! Symbols.add -/
set_option maxRecDepth 100000 in
theorem q_Symbols_add_18 {d : Nat} (hd : 1 ≤ d) {H : hp} (hI : Inv H) {a : Int} {b : Int} (hb : -2147483648 ≤ b ∧ b ≤ 2147483647) (hp0 : -2 ≤ b ∧ b ≤ 100) (hp1 : -9223372036854775808 ≤ a ∧ a ≤ 9223372036854775807) (hp2 : H.1 18 4 < 16) : hG (zs zK) d mt_43 0 (zargs 0 [.inr (.inr 18), .inr (.inl a), .inl b]) [] H (fun r9 H9 => r9 = none ∧ Inv H9 ∧ fq [(18, 4)] [19, 20, 21] false H H9 ∧ fw [(19, (H.1 18 4).toNat), (20, (H.1 18 4).toNat), (21, (H.1 18 4).toNat), (18, 4)] H H9 ∧ (H9.1 19 (H.1 18 4).toNat = a ∧ H9.1 20 (H.1 18 4).toNat = b ∧ H9.1 21 (H.1 18 4).toNat = 0 ∧ H9.1 18 4 = H.1 18 4 + 1)) := by
  refine k_run 0 (pc' := 0) (l' := [(0, .inr (.inr 18)), (1, .inr (.inl a)), (3, .inl b)]) (st' := []) rfl ?_
  refine k_run 2 (pc' := 4) (l' := [(0, .inr (.inr 18)), (1, .inr (.inl a)), (3, .inl b)]) (st' := [.inl (H.1 18 4)]) rfl ?_
  have g1 : 0 ≤ (H.1 18 4) ∧ (H.1 18 4) ≤ 16 := kn (x := kx_18) hI rfl 4
  refine k_run 2 (pc' := 8) (l' := [(0, .inr (.inr 18)), (1, .inr (.inl a)), (3, .inl b)]) (st' := [.inr (.inr 19), .inl (H.1 18 4)]) rfl ?_
  refine k_alen (c := 19) (x := kx_19) rfl rfl (by decide) rfl ?_
  refine k_run 0 (pc' := 9) (l' := [(0, .inr (.inr 18)), (1, .inr (.inl a)), (3, .inl b)]) (st' := [.inl 16, .inl (H.1 18 4)]) rfl ?_
  refine h_ige (off := 43) (t := 52) rfl rfl (by omega) (by decide) (fun c2 => ?_) (fun c2 => ?_)
  · refine k_run 0 (pc' := 52) (l' := [(0, .inr (.inr 18)), (1, .inr (.inl a)), (3, .inl b)]) (st' := []) rfl ?_
    refine h_ret rfl rfl ?_
    exact ⟨rfl, hI, (fq_rf _ _ _ _), (fw_rf _ _), (by omega)⟩
  · refine k_run 0 (pc' := 12) (l' := [(0, .inr (.inr 18)), (1, .inr (.inl a)), (3, .inl b)]) (st' := []) rfl ?_
    refine k_run 5 (pc' := 21) (l' := [(0, .inr (.inr 18)), (1, .inr (.inl a)), (3, .inl b)]) (st' := [.inr (.inl a), .inl (H.1 18 4), .inr (.inr 19)]) rfl ?_
    refine k_lstx (z := a) (c := 19) (j := ((H.1 18 4)).toNat) (i := (H.1 18 4)) (x := kx_19) rfl rfl (by decide) (by decide) rfl (by decide) (by omega) (by omega) hI rfl (by omega) (fun H3 hI4 hw5 hv6 => ?_)
    have hf7 : fq [(18, 4)] [19, 20, 21] false H H3 := fq_w (fq_rf _ _ _ _) hw5 (fpa (by decide) rfl)
    have hp8 : fw [(19, (H.1 18 4).toNat), (20, (H.1 18 4).toNat), (21, (H.1 18 4).toNat), (18, 4)] H H3 := fw_w (fw_rf _ _) hw5 (by first | (simp; done) | (simp; omega))
    refine k_run 0 (pc' := 22) (l' := [(0, .inr (.inr 18)), (1, .inr (.inl a)), (3, .inl b)]) (st' := []) rfl ?_
    refine k_run 4 (pc' := 30) (l' := [(0, .inr (.inr 18)), (1, .inr (.inl a)), (3, .inl b)]) (st' := [.inl (H3.1 18 4), .inr (.inr 20)]) rfl ?_
    have g9 : 0 ≤ (H3.1 18 4) ∧ (H3.1 18 4) ≤ 16 := kn (x := kx_18) hI4 rfl 4
    have e10 : (H3.1 18 4) = (H.1 18 4) := hw5.2 _ _ (fun q => absurd q.1 (by decide))
    refine k_run 1 (pc' := 31) (l' := [(0, .inr (.inr 18)), (1, .inr (.inl a)), (3, .inl b)]) (st' := [.inl b, .inl (H3.1 18 4), .inr (.inr 20)]) rfl ?_
    refine k_ist (z := b) (c := 20) (j := ((H3.1 18 4)).toNat) (i := (H3.1 18 4)) (x := kx_20) rfl rfl (by decide) (by decide) rfl (by decide) (by omega) (by omega) hI4 (by omega) (show -2 ≤ b ∧ b ≤ 100 by omega) (fun H11 hI12 hw13 hv14 => ?_)
    have hf15 : fq [(18, 4)] [19, 20, 21] false H H11 := fq_w hf7 hw13 (fpa (by decide) rfl)
    have hp16 : fw [(19, (H.1 18 4).toNat), (20, (H.1 18 4).toNat), (21, (H.1 18 4).toNat), (18, 4)] H H11 := fw_w hp8 hw13 (by first | (simp; done) | (simp; omega))
    refine k_run 0 (pc' := 32) (l' := [(0, .inr (.inr 18)), (1, .inr (.inl a)), (3, .inl b)]) (st' := []) rfl ?_
    refine k_run 4 (pc' := 40) (l' := [(0, .inr (.inr 18)), (1, .inr (.inl a)), (3, .inl b)]) (st' := [.inl (H11.1 18 4), .inr (.inr 21)]) rfl ?_
    have g17 : 0 ≤ (H11.1 18 4) ∧ (H11.1 18 4) ≤ 16 := kn (x := kx_18) hI12 rfl 4
    have e18 : (H11.1 18 4) = (H3.1 18 4) := hw13.2 _ _ (fun q => absurd q.1 (by decide))
    refine k_run 1 (pc' := 41) (l' := [(0, .inr (.inr 18)), (1, .inr (.inl a)), (3, .inl b)]) (st' := [.inl 0, .inl (H11.1 18 4), .inr (.inr 21)]) rfl ?_
    refine k_ist (z := 0) (c := 21) (j := ((H11.1 18 4)).toNat) (i := (H11.1 18 4)) (x := kx_21) rfl rfl (by decide) (by decide) rfl (by decide) (by omega) (by omega) hI12 (by decide) (show 0 ≤ (0 : Int) ∧ (0 : Int) ≤ 4 by omega) (fun H19 hI20 hw21 hv22 => ?_)
    have hf23 : fq [(18, 4)] [19, 20, 21] false H H19 := fq_w hf15 hw21 (fpa (by decide) rfl)
    have hp24 : fw [(19, (H.1 18 4).toNat), (20, (H.1 18 4).toNat), (21, (H.1 18 4).toNat), (18, 4)] H H19 := fw_w hp16 hw21 (by first | (simp; done) | (simp; omega))
    refine k_run 0 (pc' := 42) (l' := [(0, .inr (.inr 18)), (1, .inr (.inl a)), (3, .inl b)]) (st' := []) rfl ?_
    refine k_run 3 (pc' := 47) (l' := [(0, .inr (.inr 18)), (1, .inr (.inl a)), (3, .inl b)]) (st' := [.inl (H19.1 18 4), .inr (.inr 18)]) rfl ?_
    have g25 : 0 ≤ (H19.1 18 4) ∧ (H19.1 18 4) ≤ 16 := kn (x := kx_18) hI20 rfl 4
    have e26 : (H19.1 18 4) = (H11.1 18 4) := hw21.2 _ _ (fun q => absurd q.1 (by decide))
    refine k_run 2 (pc' := 49) (l' := [(0, .inr (.inr 18)), (1, .inr (.inl a)), (3, .inl b)]) (st' := [.inl ((H19.1 18 4) + 1), .inr (.inr 18)]) rfl ?_
    refine k_puti (z := ((H19.1 18 4) + 1)) (a := 18) (x := kx_18) rfl rfl rfl (by decide) (by decide) rfl rfl rfl rfl hI20 (by omega) (show 0 ≤ ((H19.1 18 4) + 1) ∧ ((H19.1 18 4) + 1) ≤ 16 by omega) (fun H27 hI28 hw29 hv30 => ?_)
    have hf31 : fq [(18, 4)] [19, 20, 21] false H H27 := fq_w hf23 hw29 (fpo (by decide) rfl)
    have hp32 : fw [(19, (H.1 18 4).toNat), (20, (H.1 18 4).toNat), (21, (H.1 18 4).toNat), (18, 4)] H H27 := fw_w hp24 hw29 (by first | (simp; done) | (simp; omega))
    refine k_run 0 (pc' := 52) (l' := [(0, .inr (.inr 18)), (1, .inr (.inl a)), (3, .inl b)]) (st' := []) rfl ?_
    refine h_ret rfl rfl ?_
    have g33 : 0 ≤ (H27.1 18 4) ∧ (H27.1 18 4) ≤ 16 := kn (x := kx_18) hI28 rfl 4
    exact ⟨rfl, hI28, hf31, hp32, ⟨((hw29.2 _ _ (fun q => absurd q.1 (by first | decide | omega))).trans ((hw21.2 _ _ (fun q => absurd q.1 (by first | decide | omega))).trans ((hw13.2 _ _ (fun q => absurd q.1 (by first | decide | omega))).trans hv6))), (by rw [show ((H.1 18 4).toNat : Nat) = ((H3.1 18 4)).toNat by omega]; exact ((hw29.2 _ _ (fun q => absurd q.1 (by first | decide | omega))).trans ((hw21.2 _ _ (fun q => absurd q.1 (by first | decide | omega))).trans hv14))), (by rw [show ((H.1 18 4).toNat : Nat) = ((H11.1 18 4)).toNat by omega]; exact ((hw29.2 _ _ (fun q => absurd q.1 (by first | decide | omega))).trans hv22)), (by have h9 := hv30; omega)⟩⟩

/-! Symbols.addArgument -/
set_option maxRecDepth 100000 in
theorem q_Symbols_addArgument_18 {d : Nat} (hd : 1 ≤ d) {H : hp} (hI : Inv H) {b : Int} (hb : -2147483648 ≤ b ∧ b ≤ 2147483647) (hp0 : -2 ≤ b ∧ b ≤ 100) (hp1 : 1 ≤ H.1 18 4) (hp2 : 0 ≤ H.1 21 (H.1 18 4 - 1).toNat ∧ H.1 21 (H.1 18 4 - 1).toNat ≤ 3) : hG (zs zK) d mt_44 0 (zargs 0 [.inr (.inr 18), .inl b]) [] H (fun r9 H9 => r9 = none ∧ Inv H9 ∧ fq [] [21, 22] false H H9 ∧ fw [(22, (4 * (H.1 18 4 - 1) + H.1 21 (H.1 18 4 - 1).toNat).toNat), (21, (H.1 18 4 - 1).toNat)] H H9 ∧ (H9.1 22 (4 * (H.1 18 4 - 1) + H.1 21 (H.1 18 4 - 1).toNat).toNat = b ∧ H9.1 21 (H.1 18 4 - 1).toNat = H.1 21 (H.1 18 4 - 1).toNat + 1)) := by
  refine k_run 0 (pc' := 0) (l' := [(0, .inr (.inr 18)), (1, .inl b)]) (st' := []) rfl ?_
  refine k_run 2 (pc' := 4) (l' := [(0, .inr (.inr 18)), (1, .inl b)]) (st' := [.inl (H.1 18 4)]) rfl ?_
  have g1 : 0 ≤ (H.1 18 4) ∧ (H.1 18 4) ≤ 16 := kn (x := kx_18) hI rfl 4
  refine k_run 4 (pc' := 8) (l' := [(0, .inr (.inr 18)), (1, .inl b), (2, .inl ((H.1 18 4) - 1))]) (st' := [.inl ((H.1 18 4) - 1)]) rfl ?_
  refine h_zlt (off := 39) (t := 47) rfl rfl (by omega) (fun c2 => ?_) (fun c2 => ?_)
  · refine k_run 0 (pc' := 47) (l' := [(0, .inr (.inr 18)), (1, .inl b), (2, .inl ((H.1 18 4) - 1))]) (st' := []) rfl ?_
    refine h_ret rfl rfl ?_
    exact ⟨rfl, hI, (fq_rf _ _ _ _), (fw_rf _ _), (by omega)⟩
  · refine k_run 0 (pc' := 11) (l' := [(0, .inr (.inr 18)), (1, .inl b), (2, .inl ((H.1 18 4) - 1))]) (st' := []) rfl ?_
    refine k_run 3 (pc' := 16) (l' := [(0, .inr (.inr 18)), (1, .inl b), (2, .inl ((H.1 18 4) - 1))]) (st' := [.inl ((H.1 18 4) - 1), .inr (.inr 21)]) rfl ?_
    refine k_ild (c := 21) (j := (((H.1 18 4) - 1)).toNat) (i := ((H.1 18 4) - 1)) (x := kx_21) rfl rfl (by decide) rfl (by decide) (by omega) (by omega) ?_
    have g3 : 0 ≤ (H.1 21 (((H.1 18 4) - 1)).toNat) ∧ (H.1 21 (((H.1 18 4) - 1)).toNat) ≤ 4 := kn (x := kx_21) hI rfl (((H.1 18 4) - 1)).toNat
    refine k_run 0 (pc' := 17) (l' := [(0, .inr (.inr 18)), (1, .inl b), (2, .inl ((H.1 18 4) - 1))]) (st' := [.inl (H.1 21 (((H.1 18 4) - 1)).toNat)]) rfl ?_
    refine k_run 1 (pc' := 18) (l' := [(0, .inr (.inr 18)), (1, .inl b), (2, .inl ((H.1 18 4) - 1))]) (st' := [.inl 4, .inl (H.1 21 (((H.1 18 4) - 1)).toNat)]) rfl ?_
    refine h_ige (off := 29) (t := 47) rfl rfl (by omega) (by decide) (fun c4 => ?_) (fun c4 => ?_)
    · refine k_run 0 (pc' := 47) (l' := [(0, .inr (.inr 18)), (1, .inl b), (2, .inl ((H.1 18 4) - 1))]) (st' := []) rfl ?_
      refine h_ret rfl rfl ?_
      exact ⟨rfl, hI, (fq_rf _ _ _ _), (fw_rf _ _), (by omega)⟩
    · refine k_run 0 (pc' := 21) (l' := [(0, .inr (.inr 18)), (1, .inl b), (2, .inl ((H.1 18 4) - 1))]) (st' := []) rfl ?_
      refine k_run 8 (pc' := 33) (l' := [(0, .inr (.inr 18)), (1, .inl b), (2, .inl ((H.1 18 4) - 1))]) (st' := [.inl ((H.1 18 4) - 1), .inr (.inr 21), .inl (((H.1 18 4) - 1) * 4), .inr (.inr 22)]) rfl ?_
      refine k_ild (c := 21) (j := (((H.1 18 4) - 1)).toNat) (i := ((H.1 18 4) - 1)) (x := kx_21) rfl rfl (by decide) rfl (by decide) (by omega) (by omega) ?_
      refine k_run 0 (pc' := 34) (l' := [(0, .inr (.inr 18)), (1, .inl b), (2, .inl ((H.1 18 4) - 1))]) (st' := [.inl (H.1 21 (((H.1 18 4) - 1)).toNat), .inl (((H.1 18 4) - 1) * 4), .inr (.inr 22)]) rfl ?_
      refine k_run 2 (pc' := 36) (l' := [(0, .inr (.inr 18)), (1, .inl b), (2, .inl ((H.1 18 4) - 1))]) (st' := [.inl b, .inl ((((H.1 18 4) - 1) * 4) + (H.1 21 (((H.1 18 4) - 1)).toNat)), .inr (.inr 22)]) rfl ?_
      refine k_ist (z := b) (c := 22) (j := (((((H.1 18 4) - 1) * 4) + (H.1 21 (((H.1 18 4) - 1)).toNat))).toNat) (i := ((((H.1 18 4) - 1) * 4) + (H.1 21 (((H.1 18 4) - 1)).toNat))) (x := kx_22) rfl rfl (by decide) (by decide) rfl (by decide) (by omega) (by omega) hI (by omega) (show -2 ≤ b ∧ b ≤ 100 by omega) (fun H5 hI6 hw7 hv8 => ?_)
      have hf9 : fq [] [21, 22] false H H5 := fq_w (fq_rf _ _ _ _) hw7 (fpa (by decide) rfl)
      have hp10 : fw [(22, (4 * (H.1 18 4 - 1) + H.1 21 (H.1 18 4 - 1).toNat).toNat), (21, (H.1 18 4 - 1).toNat)] H H5 := fw_w (fw_rf _ _) hw7 (by first | (simp; done) | (simp; omega))
      refine k_run 0 (pc' := 37) (l' := [(0, .inr (.inr 18)), (1, .inl b), (2, .inl ((H.1 18 4) - 1))]) (st' := []) rfl ?_
      refine k_run 4 (pc' := 43) (l' := [(0, .inr (.inr 18)), (1, .inl b), (2, .inl ((H.1 18 4) - 1))]) (st' := [.inl ((H.1 18 4) - 1), .inr (.inr 21), .inl ((H.1 18 4) - 1), .inr (.inr 21)]) rfl ?_
      refine k_ild (c := 21) (j := (((H.1 18 4) - 1)).toNat) (i := ((H.1 18 4) - 1)) (x := kx_21) rfl rfl (by decide) rfl (by decide) (by omega) (by omega) ?_
      have g11 : 0 ≤ (H5.1 21 (((H.1 18 4) - 1)).toNat) ∧ (H5.1 21 (((H.1 18 4) - 1)).toNat) ≤ 4 := kn (x := kx_21) hI6 rfl (((H.1 18 4) - 1)).toNat
      have e12 : (H5.1 21 (((H.1 18 4) - 1)).toNat) = (H.1 21 (((H.1 18 4) - 1)).toNat) := hw7.2 _ _ (fun q => absurd q.1 (by decide))
      refine k_run 0 (pc' := 44) (l' := [(0, .inr (.inr 18)), (1, .inl b), (2, .inl ((H.1 18 4) - 1))]) (st' := [.inl (H5.1 21 (((H.1 18 4) - 1)).toNat), .inl ((H.1 18 4) - 1), .inr (.inr 21)]) rfl ?_
      refine k_run 2 (pc' := 46) (l' := [(0, .inr (.inr 18)), (1, .inl b), (2, .inl ((H.1 18 4) - 1))]) (st' := [.inl ((H5.1 21 (((H.1 18 4) - 1)).toNat) + 1), .inl ((H.1 18 4) - 1), .inr (.inr 21)]) rfl ?_
      refine k_ist (z := ((H5.1 21 (((H.1 18 4) - 1)).toNat) + 1)) (c := 21) (j := (((H.1 18 4) - 1)).toNat) (i := ((H.1 18 4) - 1)) (x := kx_21) rfl rfl (by decide) (by decide) rfl (by decide) (by omega) (by omega) hI6 (by omega) (show 0 ≤ ((H5.1 21 (((H.1 18 4) - 1)).toNat) + 1) ∧ ((H5.1 21 (((H.1 18 4) - 1)).toNat) + 1) ≤ 4 by omega) (fun H13 hI14 hw15 hv16 => ?_)
      have hf17 : fq [] [21, 22] false H H13 := fq_w hf9 hw15 (fpa (by decide) rfl)
      have hp18 : fw [(22, (4 * (H.1 18 4 - 1) + H.1 21 (H.1 18 4 - 1).toNat).toNat), (21, (H.1 18 4 - 1).toNat)] H H13 := fw_w hp10 hw15 (by first | (simp; done) | (simp; omega))
      refine k_run 0 (pc' := 47) (l' := [(0, .inr (.inr 18)), (1, .inl b), (2, .inl ((H.1 18 4) - 1))]) (st' := []) rfl ?_
      refine h_ret rfl rfl ?_
      have g19 : 0 ≤ (H13.1 18 4) ∧ (H13.1 18 4) ≤ 16 := kn (x := kx_18) hI14 rfl 4
      have e20 : (H13.1 18 4) = (H5.1 18 4) := hw15.2 _ _ (fun q => absurd q.1 (by decide))
      have e21 : (H5.1 18 4) = (H.1 18 4) := hw7.2 _ _ (fun q => absurd q.1 (by decide))
      exact ⟨rfl, hI14, hf17, hp18, ⟨(by rw [show ((4 * (H.1 18 4 - 1) + H.1 21 (H.1 18 4 - 1).toNat).toNat : Nat) = (((((H.1 18 4) - 1) * 4) + (H.1 21 (((H.1 18 4) - 1)).toNat))).toNat by omega]; exact ((hw15.2 _ _ (fun q => absurd q.1 (by first | decide | omega))).trans hv8)), (by have h9 := hv16; omega)⟩⟩

/-! Symbols.argument -/
set_option maxRecDepth 100000 in
theorem q_Symbols_argument_18 {d : Nat} (hd : 1 ≤ d) {H : hp} (hI : Inv H) {a : Int} {b : Int} (ha : -2147483648 ≤ a ∧ a ≤ 2147483647) (hb : -2147483648 ≤ b ∧ b ≤ 2147483647) (hp0 : 0 ≤ a ∧ a ≤ 15 ∧ 0 ≤ b ∧ b ≤ 3) : hG (zs zK) d mt_45 0 (zargs 0 [.inr (.inr 18), .inl a, .inl b]) [] H (fun r9 H9 => ∃ z : Int, r9 = some (.inl z) ∧ ((-2147483648 ≤ z ∧ z ≤ 2147483647) ∧ (-2 ≤ z ∧ z ≤ 100)) ∧ (z = H.1 22 (4 * a + b).toNat) ∧ H = H9) := by
  refine k_run 0 (pc' := 0) (l' := [(0, .inr (.inr 18)), (1, .inl a), (2, .inl b)]) (st' := []) rfl ?_
  refine k_run 7 (pc' := 7) (l' := [(0, .inr (.inr 18)), (1, .inl a), (2, .inl b), (3, .inl ((a * 4) + b))]) (st' := [.inl a]) rfl ?_
  refine h_zlt (off := 30) (t := 37) rfl rfl (by omega) (fun c1 => ?_) (fun c1 => ?_)
  · refine k_run 0 (pc' := 37) (l' := [(0, .inr (.inr 18)), (1, .inl a), (2, .inl b), (3, .inl ((a * 4) + b))]) (st' := []) rfl ?_
    refine k_run 1 (pc' := 38) (l' := [(0, .inr (.inr 18)), (1, .inl a), (2, .inl b), (3, .inl ((a * 4) + b))]) (st' := [.inl (-1)]) rfl ?_
    refine h_reti (x := (-1)) rfl rfl ?_
    exact ⟨_, rfl, (by omega), (by first | (exfalso; omega) | rw [show (4 * a + b).toNat = (a * 4 + b).toNat by omega]), rfl⟩
  · refine k_run 0 (pc' := 10) (l' := [(0, .inr (.inr 18)), (1, .inl a), (2, .inl b), (3, .inl ((a * 4) + b))]) (st' := []) rfl ?_
    refine k_run 1 (pc' := 11) (l' := [(0, .inr (.inr 18)), (1, .inl a), (2, .inl b), (3, .inl ((a * 4) + b))]) (st' := [.inl b]) rfl ?_
    refine h_zlt (off := 26) (t := 37) rfl rfl (by omega) (fun c2 => ?_) (fun c2 => ?_)
    · refine k_run 0 (pc' := 37) (l' := [(0, .inr (.inr 18)), (1, .inl a), (2, .inl b), (3, .inl ((a * 4) + b))]) (st' := []) rfl ?_
      refine k_run 1 (pc' := 38) (l' := [(0, .inr (.inr 18)), (1, .inl a), (2, .inl b), (3, .inl ((a * 4) + b))]) (st' := [.inl (-1)]) rfl ?_
      refine h_reti (x := (-1)) rfl rfl ?_
      exact ⟨_, rfl, (by omega), (by first | (exfalso; omega) | rw [show (4 * a + b).toNat = (a * 4 + b).toNat by omega]), rfl⟩
    · refine k_run 0 (pc' := 14) (l' := [(0, .inr (.inr 18)), (1, .inl a), (2, .inl b), (3, .inl ((a * 4) + b))]) (st' := []) rfl ?_
      refine k_run 2 (pc' := 16) (l' := [(0, .inr (.inr 18)), (1, .inl a), (2, .inl b), (3, .inl ((a * 4) + b))]) (st' := [.inl 4, .inl b]) rfl ?_
      refine h_ige (off := 21) (t := 37) rfl rfl (by omega) (by decide) (fun c3 => ?_) (fun c3 => ?_)
      · refine k_run 0 (pc' := 37) (l' := [(0, .inr (.inr 18)), (1, .inl a), (2, .inl b), (3, .inl ((a * 4) + b))]) (st' := []) rfl ?_
        refine k_run 1 (pc' := 38) (l' := [(0, .inr (.inr 18)), (1, .inl a), (2, .inl b), (3, .inl ((a * 4) + b))]) (st' := [.inl (-1)]) rfl ?_
        refine h_reti (x := (-1)) rfl rfl ?_
        exact ⟨_, rfl, (by omega), (by first | (exfalso; omega) | rw [show (4 * a + b).toNat = (a * 4 + b).toNat by omega]), rfl⟩
      · refine k_run 0 (pc' := 19) (l' := [(0, .inr (.inr 18)), (1, .inl a), (2, .inl b), (3, .inl ((a * 4) + b))]) (st' := []) rfl ?_
        refine k_run 3 (pc' := 24) (l' := [(0, .inr (.inr 18)), (1, .inl a), (2, .inl b), (3, .inl ((a * 4) + b))]) (st' := [.inr (.inr 22), .inl ((a * 4) + b)]) rfl ?_
        refine k_alen (c := 22) (x := kx_22) rfl rfl (by decide) rfl ?_
        refine k_run 0 (pc' := 25) (l' := [(0, .inr (.inr 18)), (1, .inl a), (2, .inl b), (3, .inl ((a * 4) + b))]) (st' := [.inl 64, .inl ((a * 4) + b)]) rfl ?_
        refine h_ige (off := 12) (t := 37) rfl rfl (by omega) (by decide) (fun c4 => ?_) (fun c4 => ?_)
        · refine k_run 0 (pc' := 37) (l' := [(0, .inr (.inr 18)), (1, .inl a), (2, .inl b), (3, .inl ((a * 4) + b))]) (st' := []) rfl ?_
          refine k_run 1 (pc' := 38) (l' := [(0, .inr (.inr 18)), (1, .inl a), (2, .inl b), (3, .inl ((a * 4) + b))]) (st' := [.inl (-1)]) rfl ?_
          refine h_reti (x := (-1)) rfl rfl ?_
          exact ⟨_, rfl, (by omega), (by first | (exfalso; omega) | rw [show (4 * a + b).toNat = (a * 4 + b).toNat by omega]), rfl⟩
        · refine k_run 0 (pc' := 28) (l' := [(0, .inr (.inr 18)), (1, .inl a), (2, .inl b), (3, .inl ((a * 4) + b))]) (st' := []) rfl ?_
          refine k_run 3 (pc' := 33) (l' := [(0, .inr (.inr 18)), (1, .inl a), (2, .inl b), (3, .inl ((a * 4) + b))]) (st' := [.inl ((a * 4) + b), .inr (.inr 22)]) rfl ?_
          refine k_ild (c := 22) (j := (((a * 4) + b)).toNat) (i := ((a * 4) + b)) (x := kx_22) rfl rfl (by decide) rfl (by decide) (by omega) (by omega) ?_
          have g5 : -2 ≤ (H.1 22 (((a * 4) + b)).toNat) ∧ (H.1 22 (((a * 4) + b)).toNat) ≤ 100 := kn (x := kx_22) hI rfl (((a * 4) + b)).toNat
          refine k_run 0 (pc' := 34) (l' := [(0, .inr (.inr 18)), (1, .inl a), (2, .inl b), (3, .inl ((a * 4) + b))]) (st' := [.inl (H.1 22 (((a * 4) + b)).toNat)]) rfl ?_
          refine k_run 1 (pc' := 38) (l' := [(0, .inr (.inr 18)), (1, .inl a), (2, .inl b), (3, .inl ((a * 4) + b))]) (st' := [.inl (H.1 22 (((a * 4) + b)).toNat)]) rfl ?_
          refine h_reti (x := (H.1 22 (((a * 4) + b)).toNat)) rfl rfl ?_
          exact ⟨_, rfl, (by omega), (by first | (exfalso; omega) | rw [show (4 * a + b).toNat = (a * 4 + b).toNat by omega]), rfl⟩

/-! Reader.token -/
set_option maxRecDepth 100000 in
theorem q_Reader_token {d : Nat} (hd : 1 ≤ d) {H : hp} (hI : Inv H)  (hp0 : 0 ≤ H.1 361 3 ∧ H.1 361 3 < H.1 2 5) : hG (zs zK) d mt_83 0 (zargs 0 [.inr (.inr 361)]) [] H (fun r9 H9 => ∃ z : Int, r9 = some (.inl z) ∧ ((-2147483648 ≤ z ∧ z ≤ 2147483647)) ∧ (z = H.1 4 (H.1 361 3).toNat) ∧ H = H9) := by
  refine k_run 0 (pc' := 0) (l' := [(0, .inr (.inr 361))]) (st' := []) rfl ?_
  refine k_run 2 (pc' := 4) (l' := [(0, .inr (.inr 361))]) (st' := [.inl (H.1 361 3)]) rfl ?_
  have g1 : -2147483648 ≤ (H.1 361 3) ∧ (H.1 361 3) ≤ 2147483647 := kn (x := kx_361) hI rfl 3
  refine h_zlt (off := 32) (t := 36) rfl rfl (by omega) (fun c2 => ?_) (fun c2 => ?_)
  · refine k_run 0 (pc' := 36) (l' := [(0, .inr (.inr 361))]) (st' := []) rfl ?_
    refine k_run 1 (pc' := 37) (l' := [(0, .inr (.inr 361))]) (st' := [.inl 0]) rfl ?_
    refine h_reti (x := 0) rfl rfl ?_
    exact ⟨_, rfl, (by omega), (by first | rfl | (exfalso; omega)), rfl⟩
  · refine k_run 0 (pc' := 7) (l' := [(0, .inr (.inr 361))]) (st' := []) rfl ?_
    refine k_run 5 (pc' := 18) (l' := [(0, .inr (.inr 361))]) (st' := [.inl (H.1 2 5), .inl (H.1 361 3)]) rfl ?_
    have g3 : 0 ≤ (H.1 2 5) ∧ (H.1 2 5) ≤ 1001 := kn (x := kx_2) hI rfl 5
    refine h_ige (off := 18) (t := 36) rfl rfl (by omega) (by omega) (fun c4 => ?_) (fun c4 => ?_)
    · refine k_run 0 (pc' := 36) (l' := [(0, .inr (.inr 361))]) (st' := []) rfl ?_
      refine k_run 1 (pc' := 37) (l' := [(0, .inr (.inr 361))]) (st' := [.inl 0]) rfl ?_
      refine h_reti (x := 0) rfl rfl ?_
      exact ⟨_, rfl, (by omega), (by first | rfl | (exfalso; omega)), rfl⟩
    · refine k_run 0 (pc' := 21) (l' := [(0, .inr (.inr 361))]) (st' := []) rfl ?_
      refine k_run 5 (pc' := 32) (l' := [(0, .inr (.inr 361))]) (st' := [.inl (H.1 361 3), .inr (.inr 4)]) rfl ?_
      refine k_ild (c := 4) (j := ((H.1 361 3)).toNat) (i := (H.1 361 3)) (x := kx_4) rfl rfl (by decide) rfl (by decide) (by omega) (by omega) ?_
      have g5 : -2147483648 ≤ (H.1 4 ((H.1 361 3)).toNat) ∧ (H.1 4 ((H.1 361 3)).toNat) ≤ 2147483647 := kn (x := kx_4) hI rfl ((H.1 361 3)).toNat
      refine k_run 0 (pc' := 33) (l' := [(0, .inr (.inr 361))]) (st' := [.inl (H.1 4 ((H.1 361 3)).toNat)]) rfl ?_
      refine k_run 1 (pc' := 37) (l' := [(0, .inr (.inr 361))]) (st' := [.inl (H.1 4 ((H.1 361 3)).toNat)]) rfl ?_
      refine h_reti (x := (H.1 4 ((H.1 361 3)).toNat)) rfl rfl ?_
      exact ⟨_, rfl, (by omega), (by first | rfl | (exfalso; omega)), rfl⟩

/-! Reader.name -/
set_option maxRecDepth 100000 in
theorem q_Reader_name {d : Nat} (hd : 1 ≤ d) {H : hp} (hI : Inv H)  (hp0 : 0 ≤ H.1 361 3 ∧ H.1 361 3 < H.1 2 5) : hG (zs zK) d mt_84 0 (zargs 0 [.inr (.inr 361)]) [] H (fun r9 H9 => ∃ z : Int, r9 = some (.inr (.inl z)) ∧ (-9223372036854775808 ≤ z ∧ z ≤ 9223372036854775807) ∧ (z = H.1 6 (H.1 361 3).toNat) ∧ H = H9) := by
  refine k_run 0 (pc' := 0) (l' := [(0, .inr (.inr 361))]) (st' := []) rfl ?_
  refine k_run 2 (pc' := 4) (l' := [(0, .inr (.inr 361))]) (st' := [.inl (H.1 361 3)]) rfl ?_
  have g1 : -2147483648 ≤ (H.1 361 3) ∧ (H.1 361 3) ≤ 2147483647 := kn (x := kx_361) hI rfl 3
  refine h_zlt (off := 32) (t := 36) rfl rfl (by omega) (fun c2 => ?_) (fun c2 => ?_)
  · refine k_run 0 (pc' := 36) (l' := [(0, .inr (.inr 361))]) (st' := []) rfl ?_
    refine k_run 1 (pc' := 37) (l' := [(0, .inr (.inr 361))]) (st' := [.inr (.inl 0)]) rfl ?_
    refine h_retl (x := 0) rfl rfl ?_
    exact ⟨_, rfl, (by decide), (by first | rfl | (exfalso; omega)), rfl⟩
  · refine k_run 0 (pc' := 7) (l' := [(0, .inr (.inr 361))]) (st' := []) rfl ?_
    refine k_run 5 (pc' := 18) (l' := [(0, .inr (.inr 361))]) (st' := [.inl (H.1 2 5), .inl (H.1 361 3)]) rfl ?_
    have g3 : 0 ≤ (H.1 2 5) ∧ (H.1 2 5) ≤ 1001 := kn (x := kx_2) hI rfl 5
    refine h_ige (off := 18) (t := 36) rfl rfl (by omega) (by omega) (fun c4 => ?_) (fun c4 => ?_)
    · refine k_run 0 (pc' := 36) (l' := [(0, .inr (.inr 361))]) (st' := []) rfl ?_
      refine k_run 1 (pc' := 37) (l' := [(0, .inr (.inr 361))]) (st' := [.inr (.inl 0)]) rfl ?_
      refine h_retl (x := 0) rfl rfl ?_
      exact ⟨_, rfl, (by decide), (by first | rfl | (exfalso; omega)), rfl⟩
    · refine k_run 0 (pc' := 21) (l' := [(0, .inr (.inr 361))]) (st' := []) rfl ?_
      refine k_run 5 (pc' := 32) (l' := [(0, .inr (.inr 361))]) (st' := [.inl (H.1 361 3), .inr (.inr 6)]) rfl ?_
      refine k_lld (c := 6) (j := ((H.1 361 3)).toNat) (i := (H.1 361 3)) (x := kx_6) rfl rfl (by decide) rfl (by decide) (by omega) (by omega) ?_
      have g5 : -9223372036854775808 ≤ (H.1 6 ((H.1 361 3)).toNat) ∧ (H.1 6 ((H.1 361 3)).toNat) ≤ 9223372036854775807 := kn (x := kx_6) hI rfl ((H.1 361 3)).toNat
      refine k_run 0 (pc' := 33) (l' := [(0, .inr (.inr 361))]) (st' := [.inr (.inl (H.1 6 ((H.1 361 3)).toNat))]) rfl ?_
      refine k_run 1 (pc' := 37) (l' := [(0, .inr (.inr 361))]) (st' := [.inr (.inl (H.1 6 ((H.1 361 3)).toNat))]) rfl ?_
      refine h_retl (x := (H.1 6 ((H.1 361 3)).toNat)) rfl rfl ?_
      exact ⟨_, rfl, (by omega), (by first | rfl | (exfalso; omega)), rfl⟩

/-! Reader.fails -/
set_option maxRecDepth 100000 in
theorem q_Reader_fails {d : Nat} (hd : 1 ≤ d) {H : hp} (hI : Inv H) {a : Int} (ha : -2147483648 ≤ a ∧ a ≤ 2147483647) (hp0 : 0 ≤ H.1 361 3 ∧ H.1 361 3 < H.1 2 5) : hG (zs zK) d mt_86 0 (zargs 0 [.inr (.inr 361), .inl a]) [] H (fun r9 H9 => ∃ z : Int, r9 = some (.inl z) ∧ ((0 ≤ z ∧ z ≤ 1) ∧ (z = 0)) ∧ Inv H9 ∧ fq [(361, 4), (361, 5)] [] false H H9 ∧ fw [(361, 4), (361, 5)] H H9 ∧ (H9.1 361 4 = a ∧ H9.1 361 5 = H.1 5 (H.1 361 3).toNat)) := by
  refine k_run 0 (pc' := 0) (l' := [(0, .inr (.inr 361)), (1, .inl a)]) (st' := []) rfl ?_
  refine k_run 2 (pc' := 2) (l' := [(0, .inr (.inr 361)), (1, .inl a)]) (st' := [.inl a, .inr (.inr 361)]) rfl ?_
  refine k_puti (z := a) (a := 361) (x := kx_361) rfl rfl rfl (by decide) (by decide) rfl rfl rfl rfl hI (by omega) (show -2147483648 ≤ a ∧ a ≤ 2147483647 by omega) (fun H1 hI2 hw3 hv4 => ?_)
  have hf5 : fq [(361, 4), (361, 5)] [] false H H1 := fq_w (fq_rf _ _ _ _) hw3 (fpo (by decide) rfl)
  have hp6 : fw [(361, 4), (361, 5)] H H1 := fw_w (fw_rf _ _) hw3 (by first | (simp; done) | (simp; omega))
  refine k_run 0 (pc' := 5) (l' := [(0, .inr (.inr 361)), (1, .inl a)]) (st' := []) rfl ?_
  refine k_run 3 (pc' := 10) (l' := [(0, .inr (.inr 361)), (1, .inl a)]) (st' := [.inl (H1.1 361 3), .inr (.inr 361)]) rfl ?_
  have g7 : -2147483648 ≤ (H1.1 361 3) ∧ (H1.1 361 3) ≤ 2147483647 := kn (x := kx_361) hI2 rfl 3
  have e8 : (H1.1 361 3) = (H.1 361 3) := hw3.2 _ _ (fun q => absurd q.2 (by decide))
  refine h_zlt (off := 32) (t := 42) rfl rfl (by omega) (fun c9 => ?_) (fun c9 => ?_)
  · refine k_run 0 (pc' := 42) (l' := [(0, .inr (.inr 361)), (1, .inl a)]) (st' := [.inr (.inr 361)]) rfl ?_
    refine k_run 3 (pc' := 49) (l' := [(0, .inr (.inr 361)), (1, .inl a)]) (st' := [.inl (H1.1 2 1), .inr (.inr 361)]) rfl ?_
    have g10 : 0 ≤ (H1.1 2 1) ∧ (H1.1 2 1) ≤ 1000 := kn (x := kx_2) hI2 rfl 1
    have e11 : (H1.1 2 1) = (H.1 2 1) := hw3.2 _ _ (fun q => absurd q.1 (by decide))
    refine k_puti (z := (H1.1 2 1)) (a := 361) (x := kx_361) rfl rfl rfl (by decide) (by decide) rfl rfl rfl rfl hI2 (by omega) (show -2147483648 ≤ (H1.1 2 1) ∧ (H1.1 2 1) ≤ 2147483647 by omega) (fun H12 hI13 hw14 hv15 => ?_)
    have hf16 : fq [(361, 4), (361, 5)] [] false H H12 := fq_w hf5 hw14 (fpo (by decide) rfl)
    have hp17 : fw [(361, 4), (361, 5)] H H12 := fw_w hp6 hw14 (by first | (simp; done) | (simp; omega))
    refine k_run 0 (pc' := 52) (l' := [(0, .inr (.inr 361)), (1, .inl a)]) (st' := []) rfl ?_
    refine k_run 1 (pc' := 53) (l' := [(0, .inr (.inr 361)), (1, .inl a)]) (st' := [.inl 0]) rfl ?_
    refine h_retz (x := 0) rfl rfl (by decide) ?_
    exact ⟨_, rfl, (by omega), hI13, hf16, hp17, (by first | (exfalso; omega) | exact ⟨((hw14.2 _ _ (fun q => absurd q.2 (by decide))).trans hv4), (hv15.trans ((hw3.2 5 _ (fun q => absurd q.1 (by decide))).trans (congrArg (fun q : Int => H.1 5 q.toNat) (hw3.2 361 3 (fun q => absurd q.2 (by decide))))))⟩)⟩
  · refine k_run 0 (pc' := 13) (l' := [(0, .inr (.inr 361)), (1, .inl a)]) (st' := [.inr (.inr 361)]) rfl ?_
    refine k_run 5 (pc' := 24) (l' := [(0, .inr (.inr 361)), (1, .inl a)]) (st' := [.inl (H1.1 2 5), .inl (H1.1 361 3), .inr (.inr 361)]) rfl ?_
    have g18 : 0 ≤ (H1.1 2 5) ∧ (H1.1 2 5) ≤ 1001 := kn (x := kx_2) hI2 rfl 5
    have e19 : (H1.1 2 5) = (H.1 2 5) := hw3.2 _ _ (fun q => absurd q.1 (by decide))
    refine h_ige (off := 18) (t := 42) rfl rfl (by omega) (by omega) (fun c20 => ?_) (fun c20 => ?_)
    · refine k_run 0 (pc' := 42) (l' := [(0, .inr (.inr 361)), (1, .inl a)]) (st' := [.inr (.inr 361)]) rfl ?_
      refine k_run 3 (pc' := 49) (l' := [(0, .inr (.inr 361)), (1, .inl a)]) (st' := [.inl (H1.1 2 1), .inr (.inr 361)]) rfl ?_
      have g21 : 0 ≤ (H1.1 2 1) ∧ (H1.1 2 1) ≤ 1000 := kn (x := kx_2) hI2 rfl 1
      have e22 : (H1.1 2 1) = (H.1 2 1) := hw3.2 _ _ (fun q => absurd q.1 (by decide))
      refine k_puti (z := (H1.1 2 1)) (a := 361) (x := kx_361) rfl rfl rfl (by decide) (by decide) rfl rfl rfl rfl hI2 (by omega) (show -2147483648 ≤ (H1.1 2 1) ∧ (H1.1 2 1) ≤ 2147483647 by omega) (fun H23 hI24 hw25 hv26 => ?_)
      have hf27 : fq [(361, 4), (361, 5)] [] false H H23 := fq_w hf5 hw25 (fpo (by decide) rfl)
      have hp28 : fw [(361, 4), (361, 5)] H H23 := fw_w hp6 hw25 (by first | (simp; done) | (simp; omega))
      refine k_run 0 (pc' := 52) (l' := [(0, .inr (.inr 361)), (1, .inl a)]) (st' := []) rfl ?_
      refine k_run 1 (pc' := 53) (l' := [(0, .inr (.inr 361)), (1, .inl a)]) (st' := [.inl 0]) rfl ?_
      refine h_retz (x := 0) rfl rfl (by decide) ?_
      exact ⟨_, rfl, (by omega), hI24, hf27, hp28, (by first | (exfalso; omega) | exact ⟨((hw25.2 _ _ (fun q => absurd q.2 (by decide))).trans hv4), (hv26.trans ((hw3.2 5 _ (fun q => absurd q.1 (by decide))).trans (congrArg (fun q : Int => H.1 5 q.toNat) (hw3.2 361 3 (fun q => absurd q.2 (by decide))))))⟩)⟩
    · refine k_run 0 (pc' := 27) (l' := [(0, .inr (.inr 361)), (1, .inl a)]) (st' := [.inr (.inr 361)]) rfl ?_
      refine k_run 5 (pc' := 38) (l' := [(0, .inr (.inr 361)), (1, .inl a)]) (st' := [.inl (H1.1 361 3), .inr (.inr 5), .inr (.inr 361)]) rfl ?_
      refine k_ild (c := 5) (j := ((H1.1 361 3)).toNat) (i := (H1.1 361 3)) (x := kx_5) rfl rfl (by decide) rfl (by decide) (by omega) (by omega) ?_
      have g29 : -2147483648 ≤ (H1.1 5 ((H1.1 361 3)).toNat) ∧ (H1.1 5 ((H1.1 361 3)).toNat) ≤ 2147483647 := kn (x := kx_5) hI2 rfl ((H1.1 361 3)).toNat
      have e30 : (H1.1 5 ((H1.1 361 3)).toNat) = (H.1 5 ((H1.1 361 3)).toNat) := hw3.2 _ _ (fun q => absurd q.1 (by decide))
      refine k_run 0 (pc' := 39) (l' := [(0, .inr (.inr 361)), (1, .inl a)]) (st' := [.inl (H1.1 5 ((H1.1 361 3)).toNat), .inr (.inr 361)]) rfl ?_
      refine k_run 1 (pc' := 49) (l' := [(0, .inr (.inr 361)), (1, .inl a)]) (st' := [.inl (H1.1 5 ((H1.1 361 3)).toNat), .inr (.inr 361)]) rfl ?_
      refine k_puti (z := (H1.1 5 ((H1.1 361 3)).toNat)) (a := 361) (x := kx_361) rfl rfl rfl (by decide) (by decide) rfl rfl rfl rfl hI2 (by omega) (show -2147483648 ≤ (H1.1 5 ((H1.1 361 3)).toNat) ∧ (H1.1 5 ((H1.1 361 3)).toNat) ≤ 2147483647 by omega) (fun H31 hI32 hw33 hv34 => ?_)
      have hf35 : fq [(361, 4), (361, 5)] [] false H H31 := fq_w hf5 hw33 (fpo (by decide) rfl)
      have hp36 : fw [(361, 4), (361, 5)] H H31 := fw_w hp6 hw33 (by first | (simp; done) | (simp; omega))
      refine k_run 0 (pc' := 52) (l' := [(0, .inr (.inr 361)), (1, .inl a)]) (st' := []) rfl ?_
      refine k_run 1 (pc' := 53) (l' := [(0, .inr (.inr 361)), (1, .inl a)]) (st' := [.inl 0]) rfl ?_
      refine h_retz (x := 0) rfl rfl (by decide) ?_
      exact ⟨_, rfl, (by omega), hI32, hf35, hp36, (by first | (exfalso; omega) | exact ⟨((hw33.2 _ _ (fun q => absurd q.2 (by decide))).trans hv4), (hv34.trans ((hw3.2 5 _ (fun q => absurd q.1 (by decide))).trans (congrArg (fun q : Int => H.1 5 q.toNat) (hw3.2 361 3 (fun q => absurd q.2 (by decide))))))⟩)⟩

/-! Reader.misplaced -/
set_option maxRecDepth 100000 in
theorem q_Reader_misplaced {d : Nat} (hd : 2 ≤ d) {H : hp} (hI : Inv H)  (hp0 : 0 ≤ H.1 361 3 ∧ H.1 361 3 < H.1 2 5) : hG (zs zK) d mt_85 0 (zargs 0 [.inr (.inr 361)]) [] H (fun r9 H9 => ∃ z : Int, r9 = some (.inl z) ∧ ((0 ≤ z ∧ z ≤ 1) ∧ (z = 0)) ∧ Inv H9 ∧ fq [(361, 4), (361, 5)] [] false H H9 ∧ fw [(361, 4), (361, 5)] H H9 ∧ (H9.1 361 4 = (if H.1 4 (H.1 361 3).toNat = 1 then 1 else 2) ∧ H9.1 361 5 = H.1 5 (H.1 361 3).toNat)) := by
  refine k_run 0 (pc' := 0) (l' := [(0, .inr (.inr 361))]) (st' := []) rfl ?_
  refine k_run 2 (pc' := 2) (l' := [(0, .inr (.inr 361))]) (st' := [.inr (.inr 361), .inr (.inr 361)]) rfl ?_
  have g1 : -2147483648 ≤ (H.1 361 3) ∧ (H.1 361 3) ≤ 2147483647 := kn (x := kx_361) hI rfl 3
  have g2 : 0 ≤ (H.1 2 5) ∧ (H.1 2 5) ≤ 1001 := kn (x := kx_2) hI rfl 5
  refine h_cv (i := 72) (j := 83) (b := 361) (M' := mt_83) (xs := []) (rest := [.inr (.inr 361)]) rfl rfl rfl rfl (zs_K (x := kx_361) rfl (by decide)) rfl (Nat.le_of_ble_eq_true rfl) (Nat.le_of_ble_eq_true rfl) (by omega) (q_Reader_token (by omega) hI (by omega)) ?_
  rintro _ _ ⟨z9, rfl, g3, hx8, rfl⟩
  refine k_run 0 (pc' := 5) (l' := [(0, .inr (.inr 361))]) (st' := [.inl z9, .inr (.inr 361)]) rfl ?_
  refine k_run 1 (pc' := 6) (l' := [(0, .inr (.inr 361))]) (st' := [.inl 1, .inl z9, .inr (.inr 361)]) rfl ?_
  refine h_ine (off := 7) (t := 13) rfl rfl (by omega) (by decide) (fun c10 => ?_) (fun c10 => ?_)
  · refine k_run 0 (pc' := 13) (l' := [(0, .inr (.inr 361))]) (st' := [.inr (.inr 361)]) rfl ?_
    refine k_run 1 (pc' := 14) (l' := [(0, .inr (.inr 361))]) (st' := [.inl 2, .inr (.inr 361)]) rfl ?_
    refine h_cv (i := 128) (j := 86) (b := 361) (M' := mt_86) (xs := [.inl 2]) (rest := []) rfl rfl rfl rfl (zs_K (x := kx_361) rfl (by decide)) rfl (Nat.le_of_ble_eq_true rfl) (Nat.le_of_ble_eq_true rfl) (by omega) (q_Reader_fails (by omega) hI (by decide) (by omega)) ?_
    rintro _ H12 ⟨z17, rfl, g11, hI13, hq14, hp15, hx16⟩
    have hf18 : fq [(361, 4), (361, 5)] [] false H H12 := fq_t (fq_rf _ _ _ _) hq14 rfl rfl rfl
    have hp19 : fw [(361, 4), (361, 5)] H H12 := fw_t (fw_rf _ _) hp15 (by first | (simp; done) | (simp; omega))
    refine k_run 0 (pc' := 17) (l' := [(0, .inr (.inr 361))]) (st' := [.inl z17]) rfl ?_
    refine h_retz (x := z17) rfl rfl (by omega) ?_
    exact ⟨_, rfl, (by omega), hI13, hf18, hp19, (by first | exact ⟨hx16.1.trans (if_pos (by omega)).symm, hx16.2⟩ | exact ⟨hx16.1.trans (if_neg (by omega)).symm, hx16.2⟩)⟩
  · refine k_run 0 (pc' := 9) (l' := [(0, .inr (.inr 361))]) (st' := [.inr (.inr 361)]) rfl ?_
    refine k_run 2 (pc' := 14) (l' := [(0, .inr (.inr 361))]) (st' := [.inl 1, .inr (.inr 361)]) rfl ?_
    refine h_cv (i := 128) (j := 86) (b := 361) (M' := mt_86) (xs := [.inl 1]) (rest := []) rfl rfl rfl rfl (zs_K (x := kx_361) rfl (by decide)) rfl (Nat.le_of_ble_eq_true rfl) (Nat.le_of_ble_eq_true rfl) (by omega) (q_Reader_fails (by omega) hI (by decide) (by omega)) ?_
    rintro _ H21 ⟨z26, rfl, g20, hI22, hq23, hp24, hx25⟩
    have hf27 : fq [(361, 4), (361, 5)] [] false H H21 := fq_t (fq_rf _ _ _ _) hq23 rfl rfl rfl
    have hp28 : fw [(361, 4), (361, 5)] H H21 := fw_t (fw_rf _ _) hp24 (by first | (simp; done) | (simp; omega))
    refine k_run 0 (pc' := 17) (l' := [(0, .inr (.inr 361))]) (st' := [.inl z26]) rfl ?_
    refine h_retz (x := z26) rfl rfl (by omega) ?_
    exact ⟨_, rfl, (by omega), hI22, hf27, hp28, (by first | exact ⟨hx25.1.trans (if_pos (by omega)).symm, hx25.2⟩ | exact ⟨hx25.1.trans (if_neg (by omega)).symm, hx25.2⟩)⟩

/-! Reader.take -/
set_option maxRecDepth 100000 in
theorem q_Reader_take {d : Nat} (hd : 3 ≤ d) {H : hp} (hI : Inv H) {a : Int} (ha : -2147483648 ≤ a ∧ a ≤ 2147483647) (hp0 : 0 ≤ H.1 361 3 ∧ H.1 361 3 < H.1 2 5) : hG (zs zK) d mt_82 0 (zargs 0 [.inr (.inr 361), .inl a]) [] H (fun r9 H9 => ∃ z : Int, r9 = some (.inl z) ∧ ((0 ≤ z ∧ z ≤ 1)) ∧ Inv H9 ∧ fq [(361, 3), (361, 4), (361, 5)] [] false H H9 ∧ fw [(361, 3), (361, 4), (361, 5)] H H9 ∧ ((z = 1 ∧ H.1 4 (H.1 361 3).toNat = a ∧ H9.1 361 3 = H.1 361 3 + 1) ∨ (z = 0 ∧ H.1 4 (H.1 361 3).toNat ≠ a ∧ H9.1 361 3 = H.1 361 3 ∧ H9.1 361 4 = (if H.1 4 (H.1 361 3).toNat = 1 then 1 else 2) ∧ H9.1 361 5 = H.1 5 (H.1 361 3).toNat))) := by
  refine k_run 0 (pc' := 0) (l' := [(0, .inr (.inr 361)), (1, .inl a)]) (st' := []) rfl ?_
  refine k_run 1 (pc' := 1) (l' := [(0, .inr (.inr 361)), (1, .inl a)]) (st' := [.inr (.inr 361)]) rfl ?_
  have g1 : -2147483648 ≤ (H.1 361 3) ∧ (H.1 361 3) ≤ 2147483647 := kn (x := kx_361) hI rfl 3
  have g2 : 0 ≤ (H.1 2 5) ∧ (H.1 2 5) ≤ 1001 := kn (x := kx_2) hI rfl 5
  refine h_cv (i := 72) (j := 83) (b := 361) (M' := mt_83) (xs := []) (rest := []) rfl rfl rfl rfl (zs_K (x := kx_361) rfl (by decide)) rfl (Nat.le_of_ble_eq_true rfl) (Nat.le_of_ble_eq_true rfl) (by omega) (q_Reader_token (by omega) hI (by omega)) ?_
  rintro _ _ ⟨z9, rfl, g3, hx8, rfl⟩
  refine k_run 0 (pc' := 4) (l' := [(0, .inr (.inr 361)), (1, .inl a)]) (st' := [.inl z9]) rfl ?_
  refine k_run 1 (pc' := 5) (l' := [(0, .inr (.inr 361)), (1, .inl a)]) (st' := [.inl a, .inl z9]) rfl ?_
  refine h_ieq (off := 8) (t := 13) rfl rfl (by omega) (by omega) (fun c10 => ?_) (fun c10 => ?_)
  · refine k_run 0 (pc' := 13) (l' := [(0, .inr (.inr 361)), (1, .inl a)]) (st' := []) rfl ?_
    refine k_run 5 (pc' := 20) (l' := [(0, .inr (.inr 361)), (1, .inl a)]) (st' := [.inl ((H.1 361 3) + 1), .inr (.inr 361)]) rfl ?_
    refine k_puti (z := ((H.1 361 3) + 1)) (a := 361) (x := kx_361) rfl rfl rfl (by decide) (by decide) rfl rfl rfl rfl hI (by omega) (show -2147483648 ≤ ((H.1 361 3) + 1) ∧ ((H.1 361 3) + 1) ≤ 2147483647 by omega) (fun H11 hI12 hw13 hv14 => ?_)
    have hf15 : fq [(361, 3), (361, 4), (361, 5)] [] false H H11 := fq_w (fq_rf _ _ _ _) hw13 (fpo (by decide) rfl)
    have hp16 : fw [(361, 3), (361, 4), (361, 5)] H H11 := fw_w (fw_rf _ _) hw13 (by first | (simp; done) | (simp; omega))
    refine k_run 0 (pc' := 23) (l' := [(0, .inr (.inr 361)), (1, .inl a)]) (st' := []) rfl ?_
    refine k_run 1 (pc' := 24) (l' := [(0, .inr (.inr 361)), (1, .inl a)]) (st' := [.inl 1]) rfl ?_
    refine h_retz (x := 1) rfl rfl (by decide) ?_
    exact ⟨_, rfl, (by omega), hI12, hf15, hp16, (Or.inl ⟨rfl, by omega, hv14⟩)⟩
  · refine k_run 0 (pc' := 8) (l' := [(0, .inr (.inr 361)), (1, .inl a)]) (st' := []) rfl ?_
    refine k_run 1 (pc' := 9) (l' := [(0, .inr (.inr 361)), (1, .inl a)]) (st' := [.inr (.inr 361)]) rfl ?_
    refine h_cv (i := 89) (j := 85) (b := 361) (M' := mt_85) (xs := []) (rest := []) rfl rfl rfl rfl (zs_K (x := kx_361) rfl (by decide)) rfl (Nat.le_of_ble_eq_true rfl) (Nat.le_of_ble_eq_true rfl) (by omega) (q_Reader_misplaced (by omega) hI (by omega)) ?_
    rintro _ H18 ⟨z23, rfl, g17, hI19, hq20, hp21, hx22⟩
    have hf24 : fq [(361, 3), (361, 4), (361, 5)] [] false H H18 := fq_t (fq_rf _ _ _ _) hq20 rfl rfl rfl
    have hp25 : fw [(361, 3), (361, 4), (361, 5)] H H18 := fw_t (fw_rf _ _) hp21 (by first | (simp; done) | (simp; omega))
    refine k_run 0 (pc' := 12) (l' := [(0, .inr (.inr 361)), (1, .inl a)]) (st' := [.inl z23]) rfl ?_
    refine h_retz (x := z23) rfl rfl (by omega) ?_
    exact ⟨_, rfl, (by omega), hI19, hf24, hp25, (Or.inr ⟨by omega, by omega, hp21.2 361 3 (by simp), hx22⟩)⟩

/-! Reader.findVariable -/
set_option maxRecDepth 100000 in
theorem q_Reader_findVariable_cut {d : Nat} (hd : 2 ≤ d) {H : hp} (hI : Inv H)  (hp0 : 0 ≤ H.1 361 3 ∧ H.1 361 3 < H.1 2 5) : ∀ w : Nat, (∀ (x1 : Int) , (-2147483648 ≤ x1 ∧ x1 ≤ 2147483647) → (0 ≤ x1) → (fndA (H.1 362) (H.1 6 (H.1 361 3).toNat) (H.1 361 9 - x1).toNat x1.toNat = fnd (H.1 362) (H.1 361 9) (H.1 6 (H.1 361 3).toNat)) → (((100 - x1).toNat) < w) → hG (zs zK) d mt_79 2 [(0, .inr (.inr 361)), (1, .inl x1)] [] H (fun r9 H9 => ∃ z : Int, r9 = some (.inl z) ∧ ((-2147483648 ≤ z ∧ z ≤ 2147483647) ∧ (-1 ≤ z ∧ z < 40)) ∧ (z = fnd (H.1 362) (H.1 361 9) (H.1 6 (H.1 361 3).toNat)) ∧ H = H9)) := by
  intro w
  induction w with
  | zero => exact fun _ _ _ _ h => absurd h (Nat.not_lt_zero _)
  | succ w ih =>
    intro x1 hx1 hi0 hi1 hw
    have g2 : 0 ≤ (H.1 361 9) ∧ (H.1 361 9) ≤ 40 := kn (x := kx_361) hI rfl 9
    refine k_run 3 (pc' := 7) (l' := [(0, .inr (.inr 361)), (1, .inl x1)]) (st' := [.inl (H.1 361 9), .inl x1]) rfl ?_
    refine h_ige (off := 34) (t := 41) rfl rfl (by omega) (by omega) (fun c3 => ?_) (fun c3 => ?_)
    · refine k_run 0 (pc' := 41) (l' := [(0, .inr (.inr 361)), (1, .inl x1)]) (st' := []) rfl ?_
      refine k_run 1 (pc' := 42) (l' := [(0, .inr (.inr 361)), (1, .inl x1)]) (st' := [.inl (-1)]) rfl ?_
      refine h_reti (x := (-1)) rfl rfl ?_
      exact ⟨_, rfl, (by omega), (by rw [← hi1]; first | exact (fnd_hit hi0 (by omega) (by rw [← hi0]; omega)).symm | exact (fnd_end (by omega)).symm), rfl⟩
    · refine k_run 0 (pc' := 10) (l' := [(0, .inr (.inr 361)), (1, .inl x1)]) (st' := []) rfl ?_
      refine k_run 3 (pc' := 15) (l' := [(0, .inr (.inr 361)), (1, .inl x1)]) (st' := [.inr (.inr 362), .inl x1]) rfl ?_
      refine k_alen (c := 362) (x := kx_362) rfl rfl (by decide) rfl ?_
      refine k_run 0 (pc' := 16) (l' := [(0, .inr (.inr 361)), (1, .inl x1)]) (st' := [.inl 40, .inl x1]) rfl ?_
      refine h_ige (off := 25) (t := 41) rfl rfl (by omega) (by decide) (fun c4 => ?_) (fun c4 => ?_)
      · refine k_run 0 (pc' := 41) (l' := [(0, .inr (.inr 361)), (1, .inl x1)]) (st' := []) rfl ?_
        refine k_run 1 (pc' := 42) (l' := [(0, .inr (.inr 361)), (1, .inl x1)]) (st' := [.inl (-1)]) rfl ?_
        refine h_reti (x := (-1)) rfl rfl ?_
        exact ⟨_, rfl, (by omega), (by rw [← hi1]; first | exact (fnd_hit hi0 (by omega) (by rw [← hi0]; omega)).symm | exact (fnd_end (by omega)).symm), rfl⟩
      · refine k_run 0 (pc' := 19) (l' := [(0, .inr (.inr 361)), (1, .inl x1)]) (st' := []) rfl ?_
        refine k_run 3 (pc' := 24) (l' := [(0, .inr (.inr 361)), (1, .inl x1)]) (st' := [.inl x1, .inr (.inr 362)]) rfl ?_
        refine k_lld (c := 362) (j := (x1).toNat) (i := x1) (x := kx_362) rfl rfl (by decide) rfl (by decide) (by omega) (by omega) ?_
        have g5 : -9223372036854775808 ≤ (H.1 362 (x1).toNat) ∧ (H.1 362 (x1).toNat) ≤ 9223372036854775807 := kn (x := kx_362) hI rfl (x1).toNat
        refine k_run 0 (pc' := 25) (l' := [(0, .inr (.inr 361)), (1, .inl x1)]) (st' := [.inr (.inl (H.1 362 (x1).toNat))]) rfl ?_
        refine k_run 1 (pc' := 26) (l' := [(0, .inr (.inr 361)), (1, .inl x1)]) (st' := [.inr (.inr 361), .inr (.inl (H.1 362 (x1).toNat))]) rfl ?_
        have g6 : -2147483648 ≤ (H.1 361 3) ∧ (H.1 361 3) ≤ 2147483647 := kn (x := kx_361) hI rfl 3
        have g7 : 0 ≤ (H.1 2 5) ∧ (H.1 2 5) ≤ 1001 := kn (x := kx_2) hI rfl 5
        refine h_cv (i := 120) (j := 84) (b := 361) (M' := mt_84) (xs := []) (rest := [.inr (.inl (H.1 362 (x1).toNat))]) rfl rfl rfl rfl (zs_K (x := kx_361) rfl (by decide)) rfl (Nat.le_of_ble_eq_true rfl) (Nat.le_of_ble_eq_true rfl) (by omega) (q_Reader_name (by omega) hI (by omega)) ?_
        rintro _ _ ⟨z14, rfl, g8, hx13, rfl⟩
        refine k_run 0 (pc' := 29) (l' := [(0, .inr (.inr 361)), (1, .inl x1)]) (st' := [.inr (.inl z14), .inr (.inl (H.1 362 (x1).toNat))]) rfl ?_
        refine k_run 1 (pc' := 30) (l' := [(0, .inr (.inr 361)), (1, .inl x1)]) (st' := [.inl (z_cmp (H.1 362 (x1).toNat) z14)]) rfl ?_
        refine h_zne (off := 5) (t := 35) rfl rfl (z_int _) (fun c15 => ?_) (fun c15 => ?_)
        · replace c15 : (H.1 362 (x1).toNat) ≠ z14 := fun q9 => c15 ((z_cmp_eq (by omega) (by omega)).mpr q9)
          refine k_run 0 (pc' := 35) (l' := [(0, .inr (.inr 361)), (1, .inl x1)]) (st' := []) rfl ?_
          refine k_run 2 (pc' := 2) (l' := [(0, .inr (.inr 361)), (1, .inl (x1 + 1))]) (st' := []) rfl ?_
          exact ih (x1 + 1) (by omega) (by omega) ((fnd_go hi0 (by omega) (by rw [← hx13]; omega)).trans hi1) (by omega)
        · replace c15 : (H.1 362 (x1).toNat) = z14 := (z_cmp_eq (by omega) (by omega)).mp c15
          refine k_run 0 (pc' := 33) (l' := [(0, .inr (.inr 361)), (1, .inl x1)]) (st' := []) rfl ?_
          refine k_run 1 (pc' := 34) (l' := [(0, .inr (.inr 361)), (1, .inl x1)]) (st' := [.inl x1]) rfl ?_
          refine h_reti (x := x1) rfl rfl ?_
          exact ⟨_, rfl, (by omega), (by rw [← hi1]; first | exact (fnd_hit hi0 (by omega) (by rw [← hx13]; omega)).symm | exact (fnd_end (by omega)).symm), rfl⟩
set_option maxRecDepth 100000 in
theorem q_Reader_findVariable {d : Nat} (hd : 2 ≤ d) {H : hp} (hI : Inv H)  (hp0 : 0 ≤ H.1 361 3 ∧ H.1 361 3 < H.1 2 5) : hG (zs zK) d mt_79 0 (zargs 0 [.inr (.inr 361)]) [] H (fun r9 H9 => ∃ z : Int, r9 = some (.inl z) ∧ ((-2147483648 ≤ z ∧ z ≤ 2147483647) ∧ (-1 ≤ z ∧ z < 40)) ∧ (z = fnd (H.1 362) (H.1 361 9) (H.1 6 (H.1 361 3).toNat)) ∧ H = H9) := by
  refine k_run 0 (pc' := 0) (l' := [(0, .inr (.inr 361))]) (st' := []) rfl ?_
  refine k_run 2 (pc' := 2) (l' := [(0, .inr (.inr 361)), (1, .inl 0)]) (st' := []) rfl ?_
  have g1 : 0 ≤ (H.1 361 9) ∧ (H.1 361 9) ≤ 40 := kn (x := kx_361) hI rfl 9
  exact (q_Reader_findVariable_cut hd hI hp0 _) (0 : Int) (by decide) (by omega) (by rw [Int.sub_zero]; rfl) (Nat.lt_succ_self _)
