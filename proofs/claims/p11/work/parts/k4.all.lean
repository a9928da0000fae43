/-! the law's turns: cases 0 and 1; the loop -/
section L4
variable {C N : Nat} {A : lwT} {cells slots : Nat} {S : am_S} {H : hp} {xs : Nat → Int32} {L t : Nat}
/-- behind the law's own feed: the reference's, and what both said -/
def lc5 (t : Nat) (k : Int32) : am_L := (5, .int k) :: lw_Lt t
def lc6 (t : Nat) (k b : Int32) : am_L := (6, .int b) :: (5, .int k) :: lw_Lt t
theorem lc6_sub (t : Nat) (k b : Int32) : ∀ q ∈ lw_Lt t, q ∈ lc6 t k b := fun _ hq => List.mem_cons_of_mem _ (List.mem_cons_of_mem _ hq)
theorem lc5_sub (t : Nat) (k : Int32) : ∀ q ∈ lw_Lt t, q ∈ lc5 t k := fun _ hq => List.mem_cons_of_mem _ hq
set_option maxRecDepth 100000 in
set_option maxHeartbeats 4000000 in
theorem lt_0a (hA : lwA C N A) (hL : L ≤ 3072) (ht : 6 * t + 6 ≤ L) (hz : zR (zs zK) S H) (hg : GI H) (hs : S.1 = lwc L xs) (k : Int32) (kk : ∀ (S2 : am_S) (K : hp) (r0 : Int), zR (zs zK) S2 K → zkeep (zs zK) S S2 → GI K → cl H K → (((K.1 1826 0) = 1 ∧ (K.1 1826 28) = (H.1 1826 28) ∧ 980 < (H.1 1826 28) ∧ ft H K) ∨ ((K.1 1826 0) = 0 ∧ (K.1 1826 28) = (H.1 1826 28) + 20 ∧ (H.1 1826 28) ≤ 980 ∧ r0 = (H.1 1826 28) + 20 ∧ FR (xs (6 * t + 1)).toInt (xs (6 * t + 2)).toInt (xs (6 * t + 3)).toInt (xs (6 * t + 4)).toInt (xs (6 * t + 5)).toInt 20 H K ∧ fr [0, 28] [1848] H K)) ∧ fv H K → A cells slots S2 (lc6 t k (Int32.ofInt r0)) 221 []) : A cells slots S (lw_Lt t) 183 [.int k] := by
  obtain ⟨d26, z26⟩ := zs_26
  refine hA.1 1 cells slots S (lw_Lt t) 183 _ 185 (lc5 t k) [] rfl ?_
  refine hA.1 1 cells slots S (lc5 t k) 185 _ 186 (lc5 t k) [.ref 1826] rfl ?_
  refine lw_ld hA (a := 6 * t) (k := 1) (n := 4) (pc5 := 191) hs (by omega) hL rfl rfl ?_
  refine lw_ld hA (a := 6 * t) (k := 2) (n := 4) (pc5 := 197) hs (by omega) hL rfl rfl ?_
  refine lw_ld hA (a := 6 * t) (k := 3) (n := 4) (pc5 := 203) hs (by omega) hL rfl rfl ?_
  refine lw_ld hA (a := 6 * t) (k := 4) (n := 4) (pc5 := 209) hs (by omega) hL rfl rfl ?_
  refine lw_ld hA (a := 6 * t) (k := 5) (n := 4) (pc5 := 215) hs (by omega) hL rfl rfl ?_
  refine lw_call hA (i := 30) (j := 189) (M' := mt_189) [.inl (xs (6 * t + 5)).toInt, .inl (xs (6 * t + 4)).toInt, .inl (xs (6 * t + 3)).toInt, .inl (xs (6 * t + 2)).toInt, .inl (xs (6 * t + 1)).toInt] [] rfl rfl rfl rfl z26 rfl (by decide) (Nat.le_of_ble_eq_true rfl) hz (u_feed (by decide) hg) ?_
  rintro r1 S1 K hz1 hk1 ⟨r0, rfl, hg1, hc1, hd1⟩
  refine hA.1 1 cells slots S1 (lc5 t k) 219 _ 221 (lc6 t k (Int32.ofInt r0)) [] rfl ?_
  exact kk S1 K r0 hz1 hk1 hg1 hc1 hd1
set_option maxRecDepth 100000 in
set_option maxHeartbeats 4000000 in
theorem lt_00 (hA : lwA C N A) (hL : L ≤ 3072) (ht : 6 * t + 6 ≤ L) (hC : cells + 1 ≤ C) (hN : slots + 6 ≤ N) (hI : LI xs L S H) (kk : lwK A xs L t cells slots) : A cells slots S (lw_Lt t) 148 [] := by
  obtain ⟨hz, hi, hg, hq, hs, h19, z, u, ho⟩ := id hI
  have hX : ∀ j, -2147483648 ≤ (xs j).toInt ∧ (xs j).toInt ≤ 2147483647 := fun j => z_int _
  refine hA.1 1 cells slots S (lw_Lt t) 148 _ 149 (lw_Lt t) [.ref 1] rfl ?_
  refine lw_ld hA (a := 6 * t) (k := 1) (n := 4) (pc5 := 154) hs (by omega) hL rfl rfl ?_
  refine lw_ld hA (a := 6 * t) (k := 2) (n := 4) (pc5 := 160) hs (by omega) hL rfl rfl ?_
  refine lw_ld hA (a := 6 * t) (k := 3) (n := 4) (pc5 := 166) hs (by omega) hL rfl rfl ?_
  refine lw_ld hA (a := 6 * t) (k := 4) (n := 4) (pc5 := 172) hs (by omega) hL rfl rfl ?_
  refine lw_ld hA (a := 6 * t) (k := 5) (n := 4) (pc5 := 178) hs (by omega) hL rfl rfl ?_
  refine hA.1 1 cells slots S (lw_Lt t) 179 _ 180 (lw_Lt t) [.ref 1899, .int (Int32.ofInt (xs (6 * t + 5)).toInt), .int (Int32.ofInt (xs (6 * t + 4)).toInt), .int (Int32.ofInt (xs (6 * t + 3)).toInt), .int (Int32.ofInt (xs (6 * t + 2)).toInt), .int (Int32.ofInt (xs (6 * t + 1)).toInt), .ref 1] rfl ?_
  by_cases h9 : H.1 2 1 ≤ 980
  · obtain ⟨f, S1, e1, e2, e3, e4, H1, hz1, hi1, hg1, hl1, ht1, f9, hFD, hNE, hFN⟩ := fd_run (hX _) (hX _) (hX _) (hX _) (hX _) hz hi hg.1 h9 ho
    refine hA.2.2.2.2.1 f cells slots S S1 (lw_Lt t) _ _ _ _ _ _ e1 ?_
    refine lt_0a hA hL ht hz1 hg1 (e2.trans hs) 0 ?_
    intro S2 K r0 hz2 hk2 hg2 hc2 hd2
    have h34 := hd2.2
    replace hd2 := hd2.1
    obtain ⟨d1, d2, d3, d4, d5⟩ : K.1 1826 0 = 0 ∧ K.1 1826 28 = H1.1 1826 28 + 20 ∧ r0 = H.1 2 1 + 20 ∧ FR (xs (6 * t + 1)).toInt (xs (6 * t + 2)).toInt (xs (6 * t + 3)).toInt (xs (6 * t + 4)).toInt (xs (6 * t + 5)).toInt 20 H1 K ∧ fr [0, 28] [1848] H1 K := by
      rcases hd2 with ⟨p1, p2, p3, p4⟩ | ⟨p1, p2, p3, p4, p5, p6⟩
      · exact absurd p3 (by omega)
      · exact ⟨p1, p2, by omega, p5, p6⟩
    have hx9 := hg.1.2.1
    have hx8 : LX K := LX_feed hg.2 hq (by omega) f9 hl1 hFD hNE hFN hc2 d4 d5
    rw [d3]
    have o2 : am_nth S2 1899 = some (z, some (.inl (.long, 1, .long 0, (0, .long (Int32.ofInt (H.1 2 1 + 20)).toInt64) :: u))) := (hk2.2.2 1899 zs_out).trans e4
    refine hA.1 1 cells slots S2 (lc6 t 0 (Int32.ofInt (H.1 2 1 + 20))) 221 _ 958 (lc6 t 0 (Int32.ofInt (H.1 2 1 + 20))) [] rfl ?_
    refine hA.2.1 cells slots S2 _ (lw_Lt t) 958 [] (lc6_sub t _ _) ?_
    refine kk cells slots S2 K (by omega) (by omega) ⟨hz2, Inv_cl hi1 hc2, ⟨hg2, hx8⟩, ?_, hk2.1.trans (e2.trans hs), by rw [hk2.2.1, e3]; exact h19, z, _, o2⟩
    rw [hc2.2 2 (by decide), d2, hl1, ht1, hq]
  · obtain ⟨⟨z1, f1, o1, -⟩, -⟩ := lw_obj hz
    obtain ⟨n, l', hr⟩ := ro_feed hz (by omega) (Int32.ofInt (xs (6 * t + 1)).toInt) (Int32.ofInt (xs (6 * t + 2)).toInt) (Int32.ofInt (xs (6 * t + 3)).toInt) (Int32.ofInt (xs (6 * t + 4)).toInt) (Int32.ofInt (xs (6 * t + 5)).toInt)
    refine hA.2.2.2.2.2.1 n cells slots z1 f1 S (lw_Lt t) l' _ _ _ _ _ hC hN o1 hr ?_
    have hz1 : zR (zs zK) (am_add S (6, none)) H := zR_add hz h19
    refine lt_0a hA hL ht hz1 hg.1 hs 1 ?_
    intro S2 K r0 hz2 hk2 hg2 hc2 hd2
    have h34 := hd2.2
    replace hd2 := hd2.1
    obtain ⟨d1, d2, d3⟩ : K.1 1826 0 = 1 ∧ K.1 1826 28 = H.1 1826 28 ∧ ft H K := by
      rcases hd2 with ⟨p1, p2, p3, p4⟩ | ⟨p1, p2, p3, p4⟩
      · exact ⟨p1, p2, p4⟩
      · exact absurd p3 (by omega)
    have o2 : am_nth (am_add S (6, none)) 1899 = some (z, some (.inl (.long, 1, .long 0, u))) := by
      rw [am_nth_add S _ 1898, if_neg (by omega)]
      exact ho
    refine hA.1 1 (cells + 1) (slots + 6) S2 (lc6 t 1 (Int32.ofInt r0)) 221 _ 958 (lc6 t 1 (Int32.ofInt r0)) [] rfl ?_
    refine hA.2.1 (cells + 1) (slots + 6) S2 _ (lw_Lt t) 958 [] (lc6_sub t _ _) ?_
    refine kk (cells + 1) (slots + 6) S2 K (by omega) (by omega) ⟨hz2, Inv_cl hi hc2, ⟨hg2, LX_r hg.2 hc2 d3 h34⟩, ?_, hk2.1.trans hs, ?_, z, u, (hk2.2.2 1899 zs_out).trans o2⟩
    · rw [hc2.2 2 (by decide), d2, hq]
    · rw [hk2.2.1]
      exact Nat.le_succ_of_le h19
set_option maxRecDepth 100000 in
set_option maxHeartbeats 4000000 in
theorem lt_1a (hA : lwA C N A) (hL : L ≤ 3072) (ht : 6 * t + 6 ≤ L) (hz : zR (zs zK) S H) (hg : GI H) (hs : S.1 = lwc L xs) (k : Int32) (kk : ∀ (S2 : am_S) (K : hp), zR (zs zK) S2 K → zkeep (zs zK) S S2 → GI K → cl H K → (((K.1 1826 0) = 1 ∧ (K.1 1826 28) = (H.1 1826 28) ∧ ((xs (6 * t + 1)).toInt < 0 ∨ (H.1 1826 28) < (xs (6 * t + 1)).toInt)) ∨ ((K.1 1826 0) = 0 ∧ (K.1 1826 28) = (xs (6 * t + 1)).toInt ∧ 0 ≤ (xs (6 * t + 1)).toInt ∧ (xs (6 * t + 1)).toInt ≤ (H.1 1826 28))) ∧ ft H K ∧ fv H K → A cells slots S2 (lc5 t k) 246 []) : A cells slots S (lw_Lt t) 234 [.int k] := by
  obtain ⟨d26, z26⟩ := zs_26
  refine hA.1 1 cells slots S (lw_Lt t) 234 _ 236 (lc5 t k) [] rfl ?_
  refine hA.1 1 cells slots S (lc5 t k) 236 _ 237 (lc5 t k) [.ref 1826] rfl ?_
  refine lw_ld hA (a := 6 * t) (k := 1) (n := 4) (pc5 := 242) hs (by omega) hL rfl rfl ?_
  refine lw_call hA (i := 34) (j := 190) (M' := mt_190) [.inl (xs (6 * t + 1)).toInt] [] rfl rfl rfl rfl z26 rfl (by decide) (Nat.le_of_ble_eq_true rfl) hz (u_end (by decide) hg (z_int _)) ?_
  rintro r1 S1 K hz1 hk1 ⟨rfl, hg1, hc1, hd1⟩
  exact kk S1 K hz1 hk1 hg1 hc1 hd1
set_option maxRecDepth 100000 in
set_option maxHeartbeats 4000000 in
theorem lt_1 (hA : lwA C N A) (hL : L ≤ 3072) (ht : 6 * t + 6 ≤ L) (hC : cells + 1 ≤ C) (hN : slots + 6 ≤ N) (hI : LI xs L S H) (kk : lwK A xs L t cells slots) : A cells slots S (lw_Lt t) 224 [] := by
  obtain ⟨hz, hi, hg, hq, hs, h19, z, u, ho⟩ := id hI
  have hX : ∀ j, -2147483648 ≤ (xs j).toInt ∧ (xs j).toInt ≤ 2147483647 := fun j => z_int _
  refine hA.1 1 cells slots S (lw_Lt t) 224 _ 225 (lw_Lt t) [.ref 1] rfl ?_
  refine lw_ld hA (a := 6 * t) (k := 1) (n := 4) (pc5 := 230) hs (by omega) hL rfl rfl ?_
  by_cases h9 : 0 ≤ (xs (6 * t + 1)).toInt ∧ (xs (6 * t + 1)).toInt ≤ H.1 2 1
  · obtain ⟨f, S1, e1, e2, H1, hz1, hi1, hg1, hl1, ht1, f9, hNE, hFN⟩ := en_run (hX _) hz hi hg.1 h9
    refine hA.2.2.2.2.2.2.1 f cells slots S S1 (lw_Lt t) _ _ e1 ?_
    refine lt_1a hA hL ht hz1 hg1 (e2.1.trans hs) 0 ?_
    intro S2 K hz2 hk2 hg2 hc2 hd2
    have h34 := hd2.2.2
    have hft := hd2.2.1
    replace hd2 := hd2.1
    obtain ⟨d1, d2⟩ : K.1 1826 0 = 0 ∧ K.1 1826 28 = (xs (6 * t + 1)).toInt := by
      rcases hd2 with ⟨p1, p2, p3⟩ | ⟨p1, p2, p3⟩
      · exact absurd p3 (by omega)
      · exact ⟨p1, p2⟩
    refine hA.1 1 cells slots S2 (lc5 t 0) 246 _ 958 (lc5 t 0) [] rfl ?_
    refine hA.2.1 cells slots S2 _ (lw_Lt t) 958 [] (lc5_sub t _) ?_
    refine kk cells slots S2 K (by omega) (by omega) (LI_keep hI e2 hk2 hz2 (Inv_cl hi1 hc2) ⟨hg2, LX_r (LX_end hg.2 f9 hl1 h9.2 hNE hFN) hc2 hft h34⟩ ?_)
    rw [hc2.2 2 (by decide), d2, hl1]
  · obtain ⟨⟨z1, f1, o1, -⟩, -⟩ := lw_obj hz
    obtain ⟨n, l', hr⟩ := ro_end hz (hX (6 * t + 1)) h9
    refine hA.2.2.2.2.2.2.2 n cells slots z1 f1 S (lw_Lt t) l' _ hC hN o1 hr ?_
    have hz1 : zR (zs zK) (am_add S (6, none)) H := zR_add hz h19
    refine lt_1a hA hL ht hz1 hg.1 hs 1 ?_
    intro S2 K hz2 hk2 hg2 hc2 hd2
    have h34 := hd2.2.2
    have hft := hd2.2.1
    replace hd2 := hd2.1
    obtain ⟨d1, d2⟩ : K.1 1826 0 = 1 ∧ K.1 1826 28 = H.1 1826 28 := by
      rcases hd2 with ⟨p1, p2, p3⟩ | ⟨p1, p2, p3, p4⟩
      · exact ⟨p1, p2⟩
      · exact absurd (show 0 ≤ (xs (6 * t + 1)).toInt ∧ (xs (6 * t + 1)).toInt ≤ H.1 2 1 from ⟨p3, by omega⟩) h9
    have o2 : am_nth (am_add S (6, none)) 1899 = some (z, some (.inl (.long, 1, .long 0, u))) := by
      rw [am_nth_add S _ 1898, if_neg (by omega)]
      exact ho
    refine hA.1 1 (cells + 1) (slots + 6) S2 (lc5 t 1) 246 _ 958 (lc5 t 1) [] rfl ?_
    refine hA.2.1 (cells + 1) (slots + 6) S2 _ (lw_Lt t) 958 [] (lc5_sub t _) ?_
    refine kk (cells + 1) (slots + 6) S2 K (by omega) (by omega) ⟨hz2, Inv_cl hi hc2, ⟨hg2, LX_r hg.2 hc2 hft h34⟩, ?_, hk2.1.trans hs, ?_, z, u, (hk2.2.2 1899 zs_out).trans o2⟩
    · rw [hc2.2 2 (by decide), d2, hq]
    · rw [hk2.2.1]
      exact Nat.le_succ_of_le h19
set_option maxRecDepth 100000 in
set_option maxHeartbeats 4000000 in
/-- one turn -/
theorem lt_all (hA : lwA C N A) (hL : L ≤ 3072) (ht : 6 * t + 6 ≤ L) (hC : cells + 1 ≤ C) (hN : slots + 6 ≤ N) (hI : LI xs L S H) (kk : lwK A xs L t cells slots) : A cells slots S (lw_Lt t) 23 [] := by
  refine lw_head hA hL ht hI.2.2.2.2.1 ?_
  by_cases hout : (xs (6 * t) &&& 31).toInt < 0 ∨ 22 < (xs (6 * t) &&& 31).toInt
  · exact lw_swo hA hout (kk cells slots S H (by omega) (by omega) hI)
  · obtain ⟨k9, hk9, e9⟩ := am_sm 22 (by decide) hout
    rw [e9]
    rcases (show k9 = 0 ∨ k9 = 1 ∨ k9 = 2 ∨ k9 = 3 ∨ k9 = 4 ∨ k9 = 5 ∨ k9 = 6 ∨ k9 = 7 ∨ k9 = 8 ∨ k9 = 9 ∨ k9 = 10 ∨ k9 = 11 ∨ k9 = 12 ∨ k9 = 13 ∨ k9 = 14 ∨ k9 = 15 ∨ k9 = 16 ∨ k9 = 17 ∨ k9 = 18 ∨ k9 = 19 ∨ k9 = 20 ∨ k9 = 21 ∨ k9 = 22 by omega) with rfl | rfl | rfl | rfl | rfl | rfl | rfl | rfl | rfl | rfl | rfl | rfl | rfl | rfl | rfl | rfl | rfl | rfl | rfl | rfl | rfl | rfl | rfl
    · exact hA.1 1 cells slots S (lw_Lt t) 40 _ 148 (lw_Lt t) [] rfl (lt_00 hA hL ht hC hN hI kk)
    · exact hA.1 1 cells slots S (lw_Lt t) 40 _ 224 (lw_Lt t) [] rfl (lt_1 hA hL ht hC hN hI kk)
    · exact hA.1 1 cells slots S (lw_Lt t) 40 _ 249 (lw_Lt t) [] rfl (lt_2 hA hL ht hI kk)
    · exact hA.1 1 cells slots S (lw_Lt t) 40 _ 262 (lw_Lt t) [] rfl (lt_3 hA hL ht hI kk)
    · exact hA.1 1 cells slots S (lw_Lt t) 40 _ 275 (lw_Lt t) [] rfl (lt_4 hA hL ht hI kk)
    · exact hA.1 1 cells slots S (lw_Lt t) 40 _ 300 (lw_Lt t) [] rfl (lt_5 hA hL ht hI kk)
    · exact hA.1 1 cells slots S (lw_Lt t) 40 _ 337 (lw_Lt t) [] rfl (lt_6 hA hL ht hI kk)
    · exact hA.1 1 cells slots S (lw_Lt t) 40 _ 362 (lw_Lt t) [] rfl (lt_7 hA hL ht hI kk)
    · exact hA.1 1 cells slots S (lw_Lt t) 40 _ 375 (lw_Lt t) [] rfl (lt_8 hA hL ht hI kk)
    · exact hA.1 1 cells slots S (lw_Lt t) 40 _ 440 (lw_Lt t) [] rfl (lt_9 hA hL ht hI kk)
    · exact hA.1 1 cells slots S (lw_Lt t) 40 _ 465 (lw_Lt t) [] rfl (lt_10 hA hL ht hI kk)
    · exact hA.1 1 cells slots S (lw_Lt t) 40 _ 518 (lw_Lt t) [] rfl (lt_11 hA hL ht hI kk)
    · exact hA.1 1 cells slots S (lw_Lt t) 40 _ 555 (lw_Lt t) [] rfl (lt_12 hA hL ht hI kk)
    · exact hA.1 1 cells slots S (lw_Lt t) 40 _ 632 (lw_Lt t) [] rfl (lt_13 hA hL ht hI kk)
    · exact hA.1 1 cells slots S (lw_Lt t) 40 _ 709 (lw_Lt t) [] rfl (lt_14 hA hL ht hI kk)
    · exact hA.1 1 cells slots S (lw_Lt t) 40 _ 734 (lw_Lt t) [] rfl (lt_15 hA hL ht hI kk)
    · exact hA.1 1 cells slots S (lw_Lt t) 40 _ 771 (lw_Lt t) [] rfl (lt_16 hA hL ht hI kk)
    · exact hA.1 1 cells slots S (lw_Lt t) 40 _ 784 (lw_Lt t) [] rfl (lt_17 hA hL ht hI kk)
    · exact hA.1 1 cells slots S (lw_Lt t) 40 _ 797 (lw_Lt t) [] rfl (lt_18 hA hL ht hI kk)
    · exact hA.1 1 cells slots S (lw_Lt t) 40 _ 822 (lw_Lt t) [] rfl (lt_19 hA hL ht hI kk)
    · exact hA.1 1 cells slots S (lw_Lt t) 40 _ 859 (lw_Lt t) [] rfl (lt_20 hA hL ht hI kk)
    · exact hA.1 1 cells slots S (lw_Lt t) 40 _ 896 (lw_Lt t) [] rfl (lt_21 hA hL ht hI kk)
    · exact hA.1 1 cells slots S (lw_Lt t) 40 _ 933 (lw_Lt t) [] rfl (lt_22 hA hL ht hI kk)
set_option maxRecDepth 100000 in
/-- the loop -/
theorem lw_loop (hA : lwA C N A) (hL : L ≤ 3072) : ∀ (k t cells slots : Nat) (S : am_S) (H : hp), LI xs L S H → 6 * (t + k) ≤ L → L < 6 * (t + k) + 6 → cells + k ≤ C → slots + 6 * k ≤ N → A cells slots S (lw_Lt t) 23 []
  | 0, t, cells, slots, S, H, hI, h1, h2, _, _ => lw_len hA hI.2.2.2.2.1 (fun _ => hA.1 1 cells slots S (lw_Lt t) 964 _ 965 (lw_Lt t) [.int 1] rfl (hA.2.2.2.1 cells slots S (lw_Lt t))) (fun q => absurd (nI_end hL (by omega) (by omega)) q)
  | k + 1, t, cells, slots, S, H, hI, h1, h2, h3, h4 => lt_all hA hL (by omega) (by omega) (by omega) hI (fun cells' slots' S' H' c1 c2 hI' => lw_next hA (lw_loop hA hL k (t + 1) cells' slots' S' H' hI' (by omega) (by omega) (by omega) (by omega)))
end L4
