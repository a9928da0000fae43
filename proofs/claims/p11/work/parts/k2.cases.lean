/-! the law's turns: cases 3 to 22 -/
set_option maxRecDepth 100000 in
set_option maxHeartbeats 4000000 in
theorem lt_3 {C N : Nat} {A : lwT} (hA : lwA C N A) {cells slots : Nat} {S : am_S} {H : hp} {xs : Nat → Int32} {L t : Nat} (hL : L ≤ 3072) (ht : 6 * t + 6 ≤ L) (hI : LI xs L S H) (kk : lwK A xs L t cells slots) : A cells slots S (lw_Lt t) 262 [] := by
  obtain ⟨hz, hi, hg, hq, hs, -, -⟩ := id hI
  have hX : ∀ j, -2147483648 ≤ (xs j).toInt ∧ (xs j).toInt ≤ 2147483647 := fun j => z_int _
  obtain ⟨d26, z26⟩ := zs_26
  refine hA.1 1 cells slots S (lw_Lt t) 262 _ 263 (lw_Lt t) [.ref 1] rfl ?_
  refine lw_callE hA (i := 40) (j := 4) (M' := mt_4) [] [] rfl rfl rfl rfl zs_1 rfl (by decide) (Nat.le_of_ble_eq_true rfl) hz (v_c_fault (by decide) hi hg ) ?_
  rintro r1 S1 H1 hz1 hk1 ⟨⟨q1, rfl⟩, hi1, hg1, hs1, ht1⟩
  have hv1 : S1.1 = lwc L xs := hk1.1.trans hs
  refine hA.1 1 cells slots S1 (lw_Lt t) 266 _ 267 (lw_Lt t) [] rfl ?_
  refine hA.1 1 cells slots S1 (lw_Lt t) 267 _ 268 (lw_Lt t) [.ref 1826] rfl ?_
  refine lw_call hA (i := 43) (j := 193) (M' := mt_193) [] [] rfl rfl rfl rfl z26 rfl (by decide) (Nat.le_of_ble_eq_true rfl) hz1 (v_r_fault (by decide) hi1 hg1 ) ?_
  rintro r2 S2 H2 hz2 hk2 ⟨⟨q2, rfl⟩, hi2, hg2, hs2, ht2⟩
  refine hA.1 1 cells slots S2 (lw_Lt t) 271 _ 272 (lw_Lt t) [] rfl ?_
  refine hA.1 1 cells slots S2 (lw_Lt t) 272 _ 958 (lw_Lt t) [] rfl ?_
  exact kk cells slots S2 H2 (by omega) (by omega) (LI_keep hI hk1 hk2 hz2 hi2 hg2 (by omega))
set_option maxRecDepth 100000 in
set_option maxHeartbeats 4000000 in
theorem lt_4 {C N : Nat} {A : lwT} (hA : lwA C N A) {cells slots : Nat} {S : am_S} {H : hp} {xs : Nat → Int32} {L t : Nat} (hL : L ≤ 3072) (ht : 6 * t + 6 ≤ L) (hI : LI xs L S H) (kk : lwK A xs L t cells slots) : A cells slots S (lw_Lt t) 275 [] := by
  obtain ⟨hz, hi, hg, hq, hs, -, -⟩ := id hI
  have hX : ∀ j, -2147483648 ≤ (xs j).toInt ∧ (xs j).toInt ≤ 2147483647 := fun j => z_int _
  obtain ⟨d26, z26⟩ := zs_26
  refine hA.1 1 cells slots S (lw_Lt t) 275 _ 276 (lw_Lt t) [.ref 1] rfl ?_
  refine lw_ld hA (a := 6 * t) (k := 1) (n := 4) (pc5 := 281) hs (by omega) hL rfl rfl ?_
  refine lw_callE hA (i := 44) (j := 5) (M' := mt_5) [.inl (xs (6 * t + 1)).toInt] [] rfl rfl rfl rfl zs_1 rfl (by decide) (Nat.le_of_ble_eq_true rfl) hz (v_c_count (by decide) hi hg (hX _)) ?_
  rintro r1 S1 H1 hz1 hk1 ⟨⟨q1, rfl⟩, hi1, hg1, hs1, ht1⟩
  have hv1 : S1.1 = lwc L xs := hk1.1.trans hs
  refine hA.1 1 cells slots S1 (lw_Lt t) 285 _ 286 (lw_Lt t) [] rfl ?_
  refine hA.1 1 cells slots S1 (lw_Lt t) 286 _ 287 (lw_Lt t) [.ref 1826] rfl ?_
  refine lw_ld hA (a := 6 * t) (k := 1) (n := 4) (pc5 := 292) hv1 (by omega) hL rfl rfl ?_
  refine lw_call hA (i := 48) (j := 194) (M' := mt_194) [.inl (xs (6 * t + 1)).toInt] [] rfl rfl rfl rfl z26 rfl (by decide) (Nat.le_of_ble_eq_true rfl) hz1 (v_r_count (by decide) hi1 hg1 (hX _)) ?_
  rintro r2 S2 H2 hz2 hk2 ⟨⟨q2, rfl⟩, hi2, hg2, hs2, ht2⟩
  refine hA.1 1 cells slots S2 (lw_Lt t) 296 _ 297 (lw_Lt t) [] rfl ?_
  refine hA.1 1 cells slots S2 (lw_Lt t) 297 _ 958 (lw_Lt t) [] rfl ?_
  exact kk cells slots S2 H2 (by omega) (by omega) (LI_keep hI hk1 hk2 hz2 hi2 hg2 (by omega))
set_option maxRecDepth 100000 in
set_option maxHeartbeats 4000000 in
theorem lt_5 {C N : Nat} {A : lwT} (hA : lwA C N A) {cells slots : Nat} {S : am_S} {H : hp} {xs : Nat → Int32} {L t : Nat} (hL : L ≤ 3072) (ht : 6 * t + 6 ≤ L) (hI : LI xs L S H) (kk : lwK A xs L t cells slots) : A cells slots S (lw_Lt t) 300 [] := by
  obtain ⟨hz, hi, hg, hq, hs, -, -⟩ := id hI
  have hX : ∀ j, -2147483648 ≤ (xs j).toInt ∧ (xs j).toInt ≤ 2147483647 := fun j => z_int _
  obtain ⟨d26, z26⟩ := zs_26
  refine hA.1 1 cells slots S (lw_Lt t) 300 _ 301 (lw_Lt t) [.ref 1] rfl ?_
  refine lw_ld hA (a := 6 * t) (k := 1) (n := 4) (pc5 := 306) hs (by omega) hL rfl rfl ?_
  refine lw_ld hA (a := 6 * t) (k := 2) (n := 4) (pc5 := 312) hs (by omega) hL rfl rfl ?_
  refine lw_callE hA (i := 49) (j := 6) (M' := mt_6) [.inl (xs (6 * t + 2)).toInt, .inl (xs (6 * t + 1)).toInt] [] rfl rfl rfl rfl zs_1 rfl (by decide) (Nat.le_of_ble_eq_true rfl) hz (v_c_about (by decide) hi hg (hX _) (hX _)) ?_
  rintro r1 S1 H1 hz1 hk1 ⟨⟨q1, rfl⟩, hi1, hg1, hs1, ht1⟩
  have hv1 : S1.1 = lwc L xs := hk1.1.trans hs
  refine hA.1 1 cells slots S1 (lw_Lt t) 316 _ 317 (lw_Lt t) [] rfl ?_
  refine hA.1 1 cells slots S1 (lw_Lt t) 317 _ 318 (lw_Lt t) [.ref 1826] rfl ?_
  refine lw_ld hA (a := 6 * t) (k := 1) (n := 4) (pc5 := 323) hv1 (by omega) hL rfl rfl ?_
  refine lw_ld hA (a := 6 * t) (k := 2) (n := 4) (pc5 := 329) hv1 (by omega) hL rfl rfl ?_
  refine lw_call hA (i := 53) (j := 195) (M' := mt_195) [.inl (xs (6 * t + 2)).toInt, .inl (xs (6 * t + 1)).toInt] [] rfl rfl rfl rfl z26 rfl (by decide) (Nat.le_of_ble_eq_true rfl) hz1 (v_r_about (by decide) hi1 hg1 (hX _) (hX _)) ?_
  rintro r2 S2 H2 hz2 hk2 ⟨⟨q2, rfl⟩, hi2, hg2, hs2, ht2⟩
  refine hA.1 1 cells slots S2 (lw_Lt t) 333 _ 334 (lw_Lt t) [] rfl ?_
  refine hA.1 1 cells slots S2 (lw_Lt t) 334 _ 958 (lw_Lt t) [] rfl ?_
  exact kk cells slots S2 H2 (by omega) (by omega) (LI_keep hI hk1 hk2 hz2 hi2 hg2 (by omega))
set_option maxRecDepth 100000 in
set_option maxHeartbeats 4000000 in
theorem lt_6 {C N : Nat} {A : lwT} (hA : lwA C N A) {cells slots : Nat} {S : am_S} {H : hp} {xs : Nat → Int32} {L t : Nat} (hL : L ≤ 3072) (ht : 6 * t + 6 ≤ L) (hI : LI xs L S H) (kk : lwK A xs L t cells slots) : A cells slots S (lw_Lt t) 337 [] := by
  obtain ⟨hz, hi, hg, hq, hs, -, -⟩ := id hI
  have hX : ∀ j, -2147483648 ≤ (xs j).toInt ∧ (xs j).toInt ≤ 2147483647 := fun j => z_int _
  obtain ⟨d26, z26⟩ := zs_26
  refine hA.1 1 cells slots S (lw_Lt t) 337 _ 338 (lw_Lt t) [.ref 1] rfl ?_
  refine lw_ld hA (a := 6 * t) (k := 1) (n := 4) (pc5 := 343) hs (by omega) hL rfl rfl ?_
  refine lw_callE hA (i := 54) (j := 7) (M' := mt_7) [.inl (xs (6 * t + 1)).toInt] [] rfl rfl rfl rfl zs_1 rfl (by decide) (Nat.le_of_ble_eq_true rfl) hz (v_c_work (by decide) hi hg (hX _)) ?_
  rintro r1 S1 H1 hz1 hk1 ⟨⟨q1, rfl⟩, hi1, hg1, hs1, ht1⟩
  have hv1 : S1.1 = lwc L xs := hk1.1.trans hs
  refine hA.1 1 cells slots S1 (lw_Lt t) 347 _ 348 (lw_Lt t) [] rfl ?_
  refine hA.1 1 cells slots S1 (lw_Lt t) 348 _ 349 (lw_Lt t) [.ref 1826] rfl ?_
  refine lw_ld hA (a := 6 * t) (k := 1) (n := 4) (pc5 := 354) hv1 (by omega) hL rfl rfl ?_
  refine lw_call hA (i := 57) (j := 201) (M' := mt_201) [.inl (xs (6 * t + 1)).toInt] [] rfl rfl rfl rfl z26 rfl (by decide) (Nat.le_of_ble_eq_true rfl) hz1 (v_r_work (by decide) hi1 hg1 (hX _)) ?_
  rintro r2 S2 H2 hz2 hk2 ⟨⟨q2, rfl⟩, hi2, hg2, hs2, ht2⟩
  refine hA.1 1 cells slots S2 (lw_Lt t) 358 _ 359 (lw_Lt t) [] rfl ?_
  refine hA.1 1 cells slots S2 (lw_Lt t) 359 _ 958 (lw_Lt t) [] rfl ?_
  exact kk cells slots S2 H2 (by omega) (by omega) (LI_keep hI hk1 hk2 hz2 hi2 hg2 (by omega))
set_option maxRecDepth 100000 in
set_option maxHeartbeats 4000000 in
theorem lt_7 {C N : Nat} {A : lwT} (hA : lwA C N A) {cells slots : Nat} {S : am_S} {H : hp} {xs : Nat → Int32} {L t : Nat} (hL : L ≤ 3072) (ht : 6 * t + 6 ≤ L) (hI : LI xs L S H) (kk : lwK A xs L t cells slots) : A cells slots S (lw_Lt t) 362 [] := by
  obtain ⟨hz, hi, hg, hq, hs, -, -⟩ := id hI
  have hX : ∀ j, -2147483648 ≤ (xs j).toInt ∧ (xs j).toInt ≤ 2147483647 := fun j => z_int _
  obtain ⟨d26, z26⟩ := zs_26
  refine hA.1 1 cells slots S (lw_Lt t) 362 _ 363 (lw_Lt t) [.ref 1] rfl ?_
  refine lw_callE hA (i := 58) (j := 8) (M' := mt_8) [] [] rfl rfl rfl rfl zs_1 rfl (by decide) (Nat.le_of_ble_eq_true rfl) hz (v_c_steps (by decide) hi hg ) ?_
  rintro r1 S1 H1 hz1 hk1 ⟨⟨q1, rfl⟩, hi1, hg1, hs1, ht1⟩
  have hv1 : S1.1 = lwc L xs := hk1.1.trans hs
  refine hA.1 1 cells slots S1 (lw_Lt t) 366 _ 367 (lw_Lt t) [] rfl ?_
  refine hA.1 1 cells slots S1 (lw_Lt t) 367 _ 368 (lw_Lt t) [.ref 1826] rfl ?_
  refine lw_call hA (i := 61) (j := 202) (M' := mt_202) [] [] rfl rfl rfl rfl z26 rfl (by decide) (Nat.le_of_ble_eq_true rfl) hz1 (v_r_steps (by decide) hi1 hg1 ) ?_
  rintro r2 S2 H2 hz2 hk2 ⟨⟨q2, rfl⟩, hi2, hg2, hs2, ht2⟩
  refine hA.1 1 cells slots S2 (lw_Lt t) 371 _ 372 (lw_Lt t) [] rfl ?_
  refine hA.1 1 cells slots S2 (lw_Lt t) 372 _ 958 (lw_Lt t) [] rfl ?_
  exact kk cells slots S2 H2 (by omega) (by omega) (LI_keep hI hk1 hk2 hz2 hi2 hg2 (by omega))
set_option maxRecDepth 100000 in
set_option maxHeartbeats 4000000 in
theorem lt_10 {C N : Nat} {A : lwT} (hA : lwA C N A) {cells slots : Nat} {S : am_S} {H : hp} {xs : Nat → Int32} {L t : Nat} (hL : L ≤ 3072) (ht : 6 * t + 6 ≤ L) (hI : LI xs L S H) (kk : lwK A xs L t cells slots) : A cells slots S (lw_Lt t) 465 [] := by
  obtain ⟨hz, hi, hg, hq, hs, -, -⟩ := id hI
  have hX : ∀ j, -2147483648 ≤ (xs j).toInt ∧ (xs j).toInt ≤ 2147483647 := fun j => z_int _
  obtain ⟨d26, z26⟩ := zs_26
  refine hA.1 1 cells slots S (lw_Lt t) 465 _ 466 (lw_Lt t) [.ref 1] rfl ?_
  refine lw_ld hA (a := 6 * t) (k := 1) (n := 4) (pc5 := 471) hs (by omega) hL rfl rfl ?_
  refine lw_ld hA (a := 6 * t) (k := 2) (n := 4) (pc5 := 477) hs (by omega) hL rfl rfl ?_
  refine lw_bool hA (pT := 485) (pF := 481) (pE := 486) rfl rfl rfl ?_
  intro y1 hy1
  refine lw_callE hA (i := 71) (j := 11) (M' := mt_11) [.inl y1, .inl (xs (6 * t + 1)).toInt] [] rfl rfl rfl rfl zs_1 rfl (by decide) (Nat.le_of_ble_eq_true rfl) hz (v_c_begin (by decide) hi hg (hX _) hy1) ?_
  rintro r1 S1 H1 hz1 hk1 ⟨⟨q1, rfl⟩, hi1, hg1, hs1, ht1⟩
  have hv1 : S1.1 = lwc L xs := hk1.1.trans hs
  refine hA.1 1 cells slots S1 (lw_Lt t) 489 _ 490 (lw_Lt t) [] rfl ?_
  refine hA.1 1 cells slots S1 (lw_Lt t) 490 _ 491 (lw_Lt t) [.ref 1826] rfl ?_
  refine lw_ld hA (a := 6 * t) (k := 1) (n := 4) (pc5 := 496) hv1 (by omega) hL rfl rfl ?_
  refine lw_ld hA (a := 6 * t) (k := 2) (n := 4) (pc5 := 502) hv1 (by omega) hL rfl rfl ?_
  refine lw_bool hA (pT := 510) (pF := 506) (pE := 511) rfl rfl rfl ?_
  intro y2 hy2
  refine lw_call hA (i := 75) (j := 227) (M' := mt_227) [.inl y2, .inl (xs (6 * t + 1)).toInt] [] rfl rfl rfl rfl z26 rfl (by decide) (Nat.le_of_ble_eq_true rfl) hz1 (v_r_begin (by decide) hi1 hg1 (hX _) hy2) ?_
  rintro r2 S2 H2 hz2 hk2 ⟨⟨q2, rfl⟩, hi2, hg2, hs2, ht2⟩
  refine hA.1 1 cells slots S2 (lw_Lt t) 514 _ 515 (lw_Lt t) [] rfl ?_
  refine hA.1 1 cells slots S2 (lw_Lt t) 515 _ 958 (lw_Lt t) [] rfl ?_
  exact kk cells slots S2 H2 (by omega) (by omega) (LI_keep hI hk1 hk2 hz2 hi2 hg2 (by omega))
set_option maxRecDepth 100000 in
set_option maxHeartbeats 4000000 in
theorem lt_11 {C N : Nat} {A : lwT} (hA : lwA C N A) {cells slots : Nat} {S : am_S} {H : hp} {xs : Nat → Int32} {L t : Nat} (hL : L ≤ 3072) (ht : 6 * t + 6 ≤ L) (hI : LI xs L S H) (kk : lwK A xs L t cells slots) : A cells slots S (lw_Lt t) 518 [] := by
  obtain ⟨hz, hi, hg, hq, hs, -, -⟩ := id hI
  have hX : ∀ j, -2147483648 ≤ (xs j).toInt ∧ (xs j).toInt ≤ 2147483647 := fun j => z_int _
  obtain ⟨d26, z26⟩ := zs_26
  refine hA.1 1 cells slots S (lw_Lt t) 518 _ 519 (lw_Lt t) [.ref 1] rfl ?_
  refine lw_ld hA (a := 6 * t) (k := 1) (n := 4) (pc5 := 524) hs (by omega) hL rfl rfl ?_
  refine lw_ld hA (a := 6 * t) (k := 2) (n := 4) (pc5 := 530) hs (by omega) hL rfl rfl ?_
  refine lw_callE hA (i := 76) (j := 12) (M' := mt_12) [.inl (xs (6 * t + 2)).toInt, .inl (xs (6 * t + 1)).toInt] [] rfl rfl rfl rfl zs_1 rfl (by decide) (Nat.le_of_ble_eq_true rfl) hz (v_c_unfold (by decide) hi hg (hX _) (hX _)) ?_
  rintro r1 S1 H1 hz1 hk1 ⟨⟨q1, rfl⟩, hi1, hg1, hs1, ht1⟩
  have hv1 : S1.1 = lwc L xs := hk1.1.trans hs
  refine hA.1 1 cells slots S1 (lw_Lt t) 534 _ 535 (lw_Lt t) [] rfl ?_
  refine hA.1 1 cells slots S1 (lw_Lt t) 535 _ 536 (lw_Lt t) [.ref 1826] rfl ?_
  refine lw_ld hA (a := 6 * t) (k := 1) (n := 4) (pc5 := 541) hv1 (by omega) hL rfl rfl ?_
  refine lw_ld hA (a := 6 * t) (k := 2) (n := 4) (pc5 := 547) hv1 (by omega) hL rfl rfl ?_
  refine lw_call hA (i := 79) (j := 237) (M' := mt_237) [.inl (xs (6 * t + 2)).toInt, .inl (xs (6 * t + 1)).toInt] [] rfl rfl rfl rfl z26 rfl (by decide) (Nat.le_of_ble_eq_true rfl) hz1 (v_r_unfold (by decide) hi1 hg1 (hX _) (hX _)) ?_
  rintro r2 S2 H2 hz2 hk2 ⟨⟨q2, rfl⟩, hi2, hg2, hs2, ht2⟩
  refine hA.1 1 cells slots S2 (lw_Lt t) 551 _ 552 (lw_Lt t) [] rfl ?_
  refine hA.1 1 cells slots S2 (lw_Lt t) 552 _ 958 (lw_Lt t) [] rfl ?_
  exact kk cells slots S2 H2 (by omega) (by omega) (LI_keep hI hk1 hk2 hz2 hi2 hg2 (by omega))
set_option maxRecDepth 100000 in
set_option maxHeartbeats 4000000 in
theorem lt_12 {C N : Nat} {A : lwT} (hA : lwA C N A) {cells slots : Nat} {S : am_S} {H : hp} {xs : Nat → Int32} {L t : Nat} (hL : L ≤ 3072) (ht : 6 * t + 6 ≤ L) (hI : LI xs L S H) (kk : lwK A xs L t cells slots) : A cells slots S (lw_Lt t) 555 [] := by
  obtain ⟨hz, hi, hg, hq, hs, -, -⟩ := id hI
  have hX : ∀ j, -2147483648 ≤ (xs j).toInt ∧ (xs j).toInt ≤ 2147483647 := fun j => z_int _
  obtain ⟨d26, z26⟩ := zs_26
  refine hA.1 1 cells slots S (lw_Lt t) 555 _ 556 (lw_Lt t) [.ref 1] rfl ?_
  refine lw_ld hA (a := 6 * t) (k := 1) (n := 4) (pc5 := 561) hs (by omega) hL rfl rfl ?_
  refine lw_ld hA (a := 6 * t) (k := 2) (n := 4) (pc5 := 567) hs (by omega) hL rfl rfl ?_
  refine lw_bool hA (pT := 575) (pF := 571) (pE := 576) rfl rfl rfl ?_
  intro y1 hy1
  refine lw_ld hA (a := 6 * t) (k := 3) (n := 4) (pc5 := 581) hs (by omega) hL rfl rfl ?_
  refine lw_ld hA (a := 6 * t) (k := 4) (n := 4) (pc5 := 587) hs (by omega) hL rfl rfl ?_
  refine lw_callE hA (i := 80) (j := 13) (M' := mt_13) [.inl (xs (6 * t + 4)).toInt, .inl (xs (6 * t + 3)).toInt, .inl y1, .inl (xs (6 * t + 1)).toInt] [] rfl rfl rfl rfl zs_1 rfl (by decide) (Nat.le_of_ble_eq_true rfl) hz (v_c_law (by decide) hi hg (hX _) hy1 (hX _) (hX _)) ?_
  rintro r1 S1 H1 hz1 hk1 ⟨⟨q1, rfl⟩, hi1, hg1, hs1, ht1⟩
  have hv1 : S1.1 = lwc L xs := hk1.1.trans hs
  refine hA.1 1 cells slots S1 (lw_Lt t) 591 _ 592 (lw_Lt t) [] rfl ?_
  refine hA.1 1 cells slots S1 (lw_Lt t) 592 _ 593 (lw_Lt t) [.ref 1826] rfl ?_
  refine lw_ld hA (a := 6 * t) (k := 1) (n := 4) (pc5 := 598) hv1 (by omega) hL rfl rfl ?_
  refine lw_ld hA (a := 6 * t) (k := 2) (n := 4) (pc5 := 604) hv1 (by omega) hL rfl rfl ?_
  refine lw_bool hA (pT := 612) (pF := 608) (pE := 613) rfl rfl rfl ?_
  intro y2 hy2
  refine lw_ld hA (a := 6 * t) (k := 3) (n := 4) (pc5 := 618) hv1 (by omega) hL rfl rfl ?_
  refine lw_ld hA (a := 6 * t) (k := 4) (n := 4) (pc5 := 624) hv1 (by omega) hL rfl rfl ?_
  refine lw_call hA (i := 84) (j := 243) (M' := mt_243) [.inl (xs (6 * t + 4)).toInt, .inl (xs (6 * t + 3)).toInt, .inl y2, .inl (xs (6 * t + 1)).toInt] [] rfl rfl rfl rfl z26 rfl (by decide) (Nat.le_of_ble_eq_true rfl) hz1 (v_r_law (by decide) hi1 hg1 (hX _) hy2 (hX _) (hX _)) ?_
  rintro r2 S2 H2 hz2 hk2 ⟨⟨q2, rfl⟩, hi2, hg2, hs2, ht2⟩
  refine hA.1 1 cells slots S2 (lw_Lt t) 628 _ 629 (lw_Lt t) [] rfl ?_
  refine hA.1 1 cells slots S2 (lw_Lt t) 629 _ 958 (lw_Lt t) [] rfl ?_
  exact kk cells slots S2 H2 (by omega) (by omega) (LI_keep hI hk1 hk2 hz2 hi2 hg2 (by omega))
set_option maxRecDepth 100000 in
set_option maxHeartbeats 4000000 in
theorem lt_13 {C N : Nat} {A : lwT} (hA : lwA C N A) {cells slots : Nat} {S : am_S} {H : hp} {xs : Nat → Int32} {L t : Nat} (hL : L ≤ 3072) (ht : 6 * t + 6 ≤ L) (hI : LI xs L S H) (kk : lwK A xs L t cells slots) : A cells slots S (lw_Lt t) 632 [] := by
  obtain ⟨hz, hi, hg, hq, hs, -, -⟩ := id hI
  have hX : ∀ j, -2147483648 ≤ (xs j).toInt ∧ (xs j).toInt ≤ 2147483647 := fun j => z_int _
  obtain ⟨d26, z26⟩ := zs_26
  refine hA.1 1 cells slots S (lw_Lt t) 632 _ 633 (lw_Lt t) [.ref 1] rfl ?_
  refine lw_ld hA (a := 6 * t) (k := 1) (n := 4) (pc5 := 638) hs (by omega) hL rfl rfl ?_
  refine lw_ld hA (a := 6 * t) (k := 2) (n := 4) (pc5 := 644) hs (by omega) hL rfl rfl ?_
  refine lw_bool hA (pT := 652) (pF := 648) (pE := 653) rfl rfl rfl ?_
  intro y1 hy1
  refine lw_ld hA (a := 6 * t) (k := 3) (n := 4) (pc5 := 658) hs (by omega) hL rfl rfl ?_
  refine lw_ld hA (a := 6 * t) (k := 4) (n := 4) (pc5 := 664) hs (by omega) hL rfl rfl ?_
  refine lw_callE hA (i := 85) (j := 14) (M' := mt_14) [.inl (xs (6 * t + 4)).toInt, .inl (xs (6 * t + 3)).toInt, .inl y1, .inl (xs (6 * t + 1)).toInt] [] rfl rfl rfl rfl zs_1 rfl (by decide) (Nat.le_of_ble_eq_true rfl) hz (v_c_hypothesis (by decide) hi hg (hX _) hy1 (hX _) (hX _)) ?_
  rintro r1 S1 H1 hz1 hk1 ⟨⟨q1, rfl⟩, hi1, hg1, hs1, ht1⟩
  have hv1 : S1.1 = lwc L xs := hk1.1.trans hs
  refine hA.1 1 cells slots S1 (lw_Lt t) 668 _ 669 (lw_Lt t) [] rfl ?_
  refine hA.1 1 cells slots S1 (lw_Lt t) 669 _ 670 (lw_Lt t) [.ref 1826] rfl ?_
  refine lw_ld hA (a := 6 * t) (k := 1) (n := 4) (pc5 := 675) hv1 (by omega) hL rfl rfl ?_
  refine lw_ld hA (a := 6 * t) (k := 2) (n := 4) (pc5 := 681) hv1 (by omega) hL rfl rfl ?_
  refine lw_bool hA (pT := 689) (pF := 685) (pE := 690) rfl rfl rfl ?_
  intro y2 hy2
  refine lw_ld hA (a := 6 * t) (k := 3) (n := 4) (pc5 := 695) hv1 (by omega) hL rfl rfl ?_
  refine lw_ld hA (a := 6 * t) (k := 4) (n := 4) (pc5 := 701) hv1 (by omega) hL rfl rfl ?_
  refine lw_call hA (i := 88) (j := 245) (M' := mt_245) [.inl (xs (6 * t + 4)).toInt, .inl (xs (6 * t + 3)).toInt, .inl y2, .inl (xs (6 * t + 1)).toInt] [] rfl rfl rfl rfl z26 rfl (by decide) (Nat.le_of_ble_eq_true rfl) hz1 (v_r_hypothesis (by decide) hi1 hg1 (hX _) hy2 (hX _) (hX _)) ?_
  rintro r2 S2 H2 hz2 hk2 ⟨⟨q2, rfl⟩, hi2, hg2, hs2, ht2⟩
  refine hA.1 1 cells slots S2 (lw_Lt t) 705 _ 706 (lw_Lt t) [] rfl ?_
  refine hA.1 1 cells slots S2 (lw_Lt t) 706 _ 958 (lw_Lt t) [] rfl ?_
  exact kk cells slots S2 H2 (by omega) (by omega) (LI_keep hI hk1 hk2 hz2 hi2 hg2 (by omega))
set_option maxRecDepth 100000 in
set_option maxHeartbeats 4000000 in
theorem lt_14 {C N : Nat} {A : lwT} (hA : lwA C N A) {cells slots : Nat} {S : am_S} {H : hp} {xs : Nat → Int32} {L t : Nat} (hL : L ≤ 3072) (ht : 6 * t + 6 ≤ L) (hI : LI xs L S H) (kk : lwK A xs L t cells slots) : A cells slots S (lw_Lt t) 709 [] := by
  obtain ⟨hz, hi, hg, hq, hs, -, -⟩ := id hI
  have hX : ∀ j, -2147483648 ≤ (xs j).toInt ∧ (xs j).toInt ≤ 2147483647 := fun j => z_int _
  obtain ⟨d26, z26⟩ := zs_26
  refine hA.1 1 cells slots S (lw_Lt t) 709 _ 710 (lw_Lt t) [.ref 1] rfl ?_
  refine lw_ld hA (a := 6 * t) (k := 1) (n := 4) (pc5 := 715) hs (by omega) hL rfl rfl ?_
  refine lw_callE hA (i := 89) (j := 15) (M' := mt_15) [.inl (xs (6 * t + 1)).toInt] [] rfl rfl rfl rfl zs_1 rfl (by decide) (Nat.le_of_ble_eq_true rfl) hz (v_c_induction (by decide) hi hg (hX _)) ?_
  rintro r1 S1 H1 hz1 hk1 ⟨⟨q1, rfl⟩, hi1, hg1, hs1, ht1⟩
  have hv1 : S1.1 = lwc L xs := hk1.1.trans hs
  refine hA.1 1 cells slots S1 (lw_Lt t) 719 _ 720 (lw_Lt t) [] rfl ?_
  refine hA.1 1 cells slots S1 (lw_Lt t) 720 _ 721 (lw_Lt t) [.ref 1826] rfl ?_
  refine lw_ld hA (a := 6 * t) (k := 1) (n := 4) (pc5 := 726) hv1 (by omega) hL rfl rfl ?_
  refine lw_call hA (i := 92) (j := 252) (M' := mt_252) [.inl (xs (6 * t + 1)).toInt] [] rfl rfl rfl rfl z26 rfl (by decide) (Nat.le_of_ble_eq_true rfl) hz1 (v_r_induction (by decide) hi1 hg1 (hX _)) ?_
  rintro r2 S2 H2 hz2 hk2 ⟨⟨q2, rfl⟩, hi2, hg2, hs2, ht2⟩
  refine hA.1 1 cells slots S2 (lw_Lt t) 730 _ 731 (lw_Lt t) [] rfl ?_
  refine hA.1 1 cells slots S2 (lw_Lt t) 731 _ 958 (lw_Lt t) [] rfl ?_
  exact kk cells slots S2 H2 (by omega) (by omega) (LI_keep hI hk1 hk2 hz2 hi2 hg2 (by omega))
set_option maxRecDepth 100000 in
set_option maxHeartbeats 4000000 in
theorem lt_15 {C N : Nat} {A : lwT} (hA : lwA C N A) {cells slots : Nat} {S : am_S} {H : hp} {xs : Nat → Int32} {L t : Nat} (hL : L ≤ 3072) (ht : 6 * t + 6 ≤ L) (hI : LI xs L S H) (kk : lwK A xs L t cells slots) : A cells slots S (lw_Lt t) 734 [] := by
  obtain ⟨hz, hi, hg, hq, hs, -, -⟩ := id hI
  have hX : ∀ j, -2147483648 ≤ (xs j).toInt ∧ (xs j).toInt ≤ 2147483647 := fun j => z_int _
  obtain ⟨d26, z26⟩ := zs_26
  refine hA.1 1 cells slots S (lw_Lt t) 734 _ 735 (lw_Lt t) [.ref 1] rfl ?_
  refine lw_ld hA (a := 6 * t) (k := 1) (n := 4) (pc5 := 740) hs (by omega) hL rfl rfl ?_
  refine lw_ld hA (a := 6 * t) (k := 2) (n := 4) (pc5 := 746) hs (by omega) hL rfl rfl ?_
  refine lw_callE hA (i := 93) (j := 16) (M' := mt_16) [.inl (xs (6 * t + 2)).toInt, .inl (xs (6 * t + 1)).toInt] [] rfl rfl rfl rfl zs_1 rfl (by decide) (Nat.le_of_ble_eq_true rfl) hz (v_c_cases (by decide) hi hg (hX _) (hX _)) ?_
  rintro r1 S1 H1 hz1 hk1 ⟨⟨q1, rfl⟩, hi1, hg1, hs1, ht1⟩
  have hv1 : S1.1 = lwc L xs := hk1.1.trans hs
  refine hA.1 1 cells slots S1 (lw_Lt t) 750 _ 751 (lw_Lt t) [] rfl ?_
  refine hA.1 1 cells slots S1 (lw_Lt t) 751 _ 752 (lw_Lt t) [.ref 1826] rfl ?_
  refine lw_ld hA (a := 6 * t) (k := 1) (n := 4) (pc5 := 757) hv1 (by omega) hL rfl rfl ?_
  refine lw_ld hA (a := 6 * t) (k := 2) (n := 4) (pc5 := 763) hv1 (by omega) hL rfl rfl ?_
  refine lw_call hA (i := 96) (j := 255) (M' := mt_255) [.inl (xs (6 * t + 2)).toInt, .inl (xs (6 * t + 1)).toInt] [] rfl rfl rfl rfl z26 rfl (by decide) (Nat.le_of_ble_eq_true rfl) hz1 (v_r_cases (by decide) hi1 hg1 (hX _) (hX _)) ?_
  rintro r2 S2 H2 hz2 hk2 ⟨⟨q2, rfl⟩, hi2, hg2, hs2, ht2⟩
  refine hA.1 1 cells slots S2 (lw_Lt t) 767 _ 768 (lw_Lt t) [] rfl ?_
  refine hA.1 1 cells slots S2 (lw_Lt t) 768 _ 958 (lw_Lt t) [] rfl ?_
  exact kk cells slots S2 H2 (by omega) (by omega) (LI_keep hI hk1 hk2 hz2 hi2 hg2 (by omega))
set_option maxRecDepth 100000 in
set_option maxHeartbeats 4000000 in
theorem lt_16 {C N : Nat} {A : lwT} (hA : lwA C N A) {cells slots : Nat} {S : am_S} {H : hp} {xs : Nat → Int32} {L t : Nat} (hL : L ≤ 3072) (ht : 6 * t + 6 ≤ L) (hI : LI xs L S H) (kk : lwK A xs L t cells slots) : A cells slots S (lw_Lt t) 771 [] := by
  obtain ⟨hz, hi, hg, hq, hs, -, -⟩ := id hI
  have hX : ∀ j, -2147483648 ≤ (xs j).toInt ∧ (xs j).toInt ≤ 2147483647 := fun j => z_int _
  obtain ⟨d26, z26⟩ := zs_26
  refine hA.1 1 cells slots S (lw_Lt t) 771 _ 772 (lw_Lt t) [.ref 1] rfl ?_
  refine lw_callE hA (i := 97) (j := 17) (M' := mt_17) [] [] rfl rfl rfl rfl zs_1 rfl (by decide) (Nat.le_of_ble_eq_true rfl) hz (v_c_same (by decide) hi hg ) ?_
  rintro r1 S1 H1 hz1 hk1 ⟨⟨q1, rfl⟩, hi1, hg1, hs1, ht1⟩
  have hv1 : S1.1 = lwc L xs := hk1.1.trans hs
  refine hA.1 1 cells slots S1 (lw_Lt t) 775 _ 776 (lw_Lt t) [] rfl ?_
  refine hA.1 1 cells slots S1 (lw_Lt t) 776 _ 777 (lw_Lt t) [.ref 1826] rfl ?_
  refine lw_call hA (i := 100) (j := 261) (M' := mt_261) [] [] rfl rfl rfl rfl z26 rfl (by decide) (Nat.le_of_ble_eq_true rfl) hz1 (v_r_same (by decide) hi1 hg1 ) ?_
  rintro r2 S2 H2 hz2 hk2 ⟨⟨q2, rfl⟩, hi2, hg2, hs2, ht2⟩
  refine hA.1 1 cells slots S2 (lw_Lt t) 780 _ 781 (lw_Lt t) [] rfl ?_
  refine hA.1 1 cells slots S2 (lw_Lt t) 781 _ 958 (lw_Lt t) [] rfl ?_
  exact kk cells slots S2 H2 (by omega) (by omega) (LI_keep hI hk1 hk2 hz2 hi2 hg2 (by omega))
set_option maxRecDepth 100000 in
set_option maxHeartbeats 4000000 in
theorem lt_17 {C N : Nat} {A : lwT} (hA : lwA C N A) {cells slots : Nat} {S : am_S} {H : hp} {xs : Nat → Int32} {L t : Nat} (hL : L ≤ 3072) (ht : 6 * t + 6 ≤ L) (hI : LI xs L S H) (kk : lwK A xs L t cells slots) : A cells slots S (lw_Lt t) 784 [] := by
  obtain ⟨hz, hi, hg, hq, hs, -, -⟩ := id hI
  have hX : ∀ j, -2147483648 ≤ (xs j).toInt ∧ (xs j).toInt ≤ 2147483647 := fun j => z_int _
  obtain ⟨d26, z26⟩ := zs_26
  refine hA.1 1 cells slots S (lw_Lt t) 784 _ 785 (lw_Lt t) [.ref 1] rfl ?_
  refine lw_callE hA (i := 101) (j := 18) (M' := mt_18) [] [] rfl rfl rfl rfl zs_1 rfl (by decide) (Nat.le_of_ble_eq_true rfl) hz (v_c_parts (by decide) hi hg ) ?_
  rintro r1 S1 H1 hz1 hk1 ⟨⟨q1, rfl⟩, hi1, hg1, hs1, ht1⟩
  have hv1 : S1.1 = lwc L xs := hk1.1.trans hs
  refine hA.1 1 cells slots S1 (lw_Lt t) 788 _ 789 (lw_Lt t) [] rfl ?_
  refine hA.1 1 cells slots S1 (lw_Lt t) 789 _ 790 (lw_Lt t) [.ref 1826] rfl ?_
  refine lw_call hA (i := 104) (j := 262) (M' := mt_262) [] [] rfl rfl rfl rfl z26 rfl (by decide) (Nat.le_of_ble_eq_true rfl) hz1 (v_r_parts (by decide) hi1 hg1 ) ?_
  rintro r2 S2 H2 hz2 hk2 ⟨⟨q2, rfl⟩, hi2, hg2, hs2, ht2⟩
  refine hA.1 1 cells slots S2 (lw_Lt t) 793 _ 794 (lw_Lt t) [] rfl ?_
  refine hA.1 1 cells slots S2 (lw_Lt t) 794 _ 958 (lw_Lt t) [] rfl ?_
  exact kk cells slots S2 H2 (by omega) (by omega) (LI_keep hI hk1 hk2 hz2 hi2 hg2 (by omega))
set_option maxRecDepth 100000 in
set_option maxHeartbeats 4000000 in
theorem lt_18 {C N : Nat} {A : lwT} (hA : lwA C N A) {cells slots : Nat} {S : am_S} {H : hp} {xs : Nat → Int32} {L t : Nat} (hL : L ≤ 3072) (ht : 6 * t + 6 ≤ L) (hI : LI xs L S H) (kk : lwK A xs L t cells slots) : A cells slots S (lw_Lt t) 797 [] := by
  obtain ⟨hz, hi, hg, hq, hs, -, -⟩ := id hI
  have hX : ∀ j, -2147483648 ≤ (xs j).toInt ∧ (xs j).toInt ≤ 2147483647 := fun j => z_int _
  obtain ⟨d26, z26⟩ := zs_26
  refine hA.1 1 cells slots S (lw_Lt t) 797 _ 798 (lw_Lt t) [.ref 1] rfl ?_
  refine lw_ld hA (a := 6 * t) (k := 1) (n := 4) (pc5 := 803) hs (by omega) hL rfl rfl ?_
  refine lw_callE hA (i := 105) (j := 19) (M' := mt_19) [.inl (xs (6 * t + 1)).toInt] [] rfl rfl rfl rfl zs_1 rfl (by decide) (Nat.le_of_ble_eq_true rfl) hz (v_c_search (by decide) hi hg (hX _)) ?_
  rintro r1 S1 H1 hz1 hk1 ⟨⟨q1, rfl⟩, hi1, hg1, hs1, ht1⟩
  have hv1 : S1.1 = lwc L xs := hk1.1.trans hs
  refine hA.1 1 cells slots S1 (lw_Lt t) 807 _ 808 (lw_Lt t) [] rfl ?_
  refine hA.1 1 cells slots S1 (lw_Lt t) 808 _ 809 (lw_Lt t) [.ref 1826] rfl ?_
  refine lw_ld hA (a := 6 * t) (k := 1) (n := 4) (pc5 := 814) hv1 (by omega) hL rfl rfl ?_
  refine lw_call hA (i := 108) (j := 266) (M' := mt_266) [.inl (xs (6 * t + 1)).toInt] [] rfl rfl rfl rfl z26 rfl (by decide) (Nat.le_of_ble_eq_true rfl) hz1 (v_r_search (by decide) hi1 hg1 (hX _)) ?_
  rintro r2 S2 H2 hz2 hk2 ⟨⟨q2, rfl⟩, hi2, hg2, hs2, ht2⟩
  refine hA.1 1 cells slots S2 (lw_Lt t) 818 _ 819 (lw_Lt t) [] rfl ?_
  refine hA.1 1 cells slots S2 (lw_Lt t) 819 _ 958 (lw_Lt t) [] rfl ?_
  exact kk cells slots S2 H2 (by omega) (by omega) (LI_keep hI hk1 hk2 hz2 hi2 hg2 (by omega))
set_option maxRecDepth 100000 in
set_option maxHeartbeats 4000000 in
theorem lt_19 {C N : Nat} {A : lwT} (hA : lwA C N A) {cells slots : Nat} {S : am_S} {H : hp} {xs : Nat → Int32} {L t : Nat} (hL : L ≤ 3072) (ht : 6 * t + 6 ≤ L) (hI : LI xs L S H) (kk : lwK A xs L t cells slots) : A cells slots S (lw_Lt t) 822 [] := by
  obtain ⟨hz, hi, hg, hq, hs, -, -⟩ := id hI
  have hX : ∀ j, -2147483648 ≤ (xs j).toInt ∧ (xs j).toInt ≤ 2147483647 := fun j => z_int _
  obtain ⟨d26, z26⟩ := zs_26
  refine hA.1 1 cells slots S (lw_Lt t) 822 _ 823 (lw_Lt t) [.ref 1] rfl ?_
  refine lw_ld hA (a := 6 * t) (k := 1) (n := 4) (pc5 := 828) hs (by omega) hL rfl rfl ?_
  refine lw_ld hA (a := 6 * t) (k := 2) (n := 4) (pc5 := 834) hs (by omega) hL rfl rfl ?_
  refine lw_callE hA (i := 109) (j := 20) (M' := mt_20) [.inl (xs (6 * t + 2)).toInt, .inl (xs (6 * t + 1)).toInt] [] rfl rfl rfl rfl zs_1 rfl (by decide) (Nat.le_of_ble_eq_true rfl) hz (v_c_show (by decide) hi hg (hX _) (hX _)) ?_
  rintro r1 S1 H1 hz1 hk1 ⟨⟨q1, rfl⟩, hi1, hg1, hs1, ht1⟩
  have hv1 : S1.1 = lwc L xs := hk1.1.trans hs
  refine hA.1 1 cells slots S1 (lw_Lt t) 838 _ 839 (lw_Lt t) [] rfl ?_
  refine hA.1 1 cells slots S1 (lw_Lt t) 839 _ 840 (lw_Lt t) [.ref 1826] rfl ?_
  refine lw_ld hA (a := 6 * t) (k := 1) (n := 4) (pc5 := 845) hv1 (by omega) hL rfl rfl ?_
  refine lw_ld hA (a := 6 * t) (k := 2) (n := 4) (pc5 := 851) hv1 (by omega) hL rfl rfl ?_
  refine lw_call hA (i := 112) (j := 270) (M' := mt_270) [.inl (xs (6 * t + 2)).toInt, .inl (xs (6 * t + 1)).toInt] [] rfl rfl rfl rfl z26 rfl (by decide) (Nat.le_of_ble_eq_true rfl) hz1 (v_r_show (by decide) hi1 hg1 (hX _) (hX _)) ?_
  rintro r2 S2 H2 hz2 hk2 ⟨⟨q2, rfl⟩, hi2, hg2, hs2, ht2⟩
  refine hA.1 1 cells slots S2 (lw_Lt t) 855 _ 856 (lw_Lt t) [] rfl ?_
  refine hA.1 1 cells slots S2 (lw_Lt t) 856 _ 958 (lw_Lt t) [] rfl ?_
  exact kk cells slots S2 H2 (by omega) (by omega) (LI_keep hI hk1 hk2 hz2 hi2 hg2 (by omega))
set_option maxRecDepth 100000 in
set_option maxHeartbeats 4000000 in
theorem lt_20 {C N : Nat} {A : lwT} (hA : lwA C N A) {cells slots : Nat} {S : am_S} {H : hp} {xs : Nat → Int32} {L t : Nat} (hL : L ≤ 3072) (ht : 6 * t + 6 ≤ L) (hI : LI xs L S H) (kk : lwK A xs L t cells slots) : A cells slots S (lw_Lt t) 859 [] := by
  obtain ⟨hz, hi, hg, hq, hs, -, -⟩ := id hI
  have hX : ∀ j, -2147483648 ≤ (xs j).toInt ∧ (xs j).toInt ≤ 2147483647 := fun j => z_int _
  obtain ⟨d26, z26⟩ := zs_26
  refine hA.1 1 cells slots S (lw_Lt t) 859 _ 860 (lw_Lt t) [.ref 1] rfl ?_
  refine lw_ld hA (a := 6 * t) (k := 1) (n := 4) (pc5 := 865) hs (by omega) hL rfl rfl ?_
  refine lw_ld hA (a := 6 * t) (k := 2) (n := 4) (pc5 := 871) hs (by omega) hL rfl rfl ?_
  refine lw_callE hA (i := 113) (j := 21) (M' := mt_21) [.inl (xs (6 * t + 2)).toInt, .inl (xs (6 * t + 1)).toInt] [] rfl rfl rfl rfl zs_1 rfl (by decide) (Nat.le_of_ble_eq_true rfl) hz (v_c_showHypothesis (by decide) hi hg (hX _) (hX _)) ?_
  rintro r1 S1 H1 hz1 hk1 ⟨⟨q1, rfl⟩, hi1, hg1, hs1, ht1⟩
  have hv1 : S1.1 = lwc L xs := hk1.1.trans hs
  refine hA.1 1 cells slots S1 (lw_Lt t) 875 _ 876 (lw_Lt t) [] rfl ?_
  refine hA.1 1 cells slots S1 (lw_Lt t) 876 _ 877 (lw_Lt t) [.ref 1826] rfl ?_
  refine lw_ld hA (a := 6 * t) (k := 1) (n := 4) (pc5 := 882) hv1 (by omega) hL rfl rfl ?_
  refine lw_ld hA (a := 6 * t) (k := 2) (n := 4) (pc5 := 888) hv1 (by omega) hL rfl rfl ?_
  refine lw_call hA (i := 116) (j := 271) (M' := mt_271) [.inl (xs (6 * t + 2)).toInt, .inl (xs (6 * t + 1)).toInt] [] rfl rfl rfl rfl z26 rfl (by decide) (Nat.le_of_ble_eq_true rfl) hz1 (v_r_showHypothesis (by decide) hi1 hg1 (hX _) (hX _)) ?_
  rintro r2 S2 H2 hz2 hk2 ⟨⟨q2, rfl⟩, hi2, hg2, hs2, ht2⟩
  refine hA.1 1 cells slots S2 (lw_Lt t) 892 _ 893 (lw_Lt t) [] rfl ?_
  refine hA.1 1 cells slots S2 (lw_Lt t) 893 _ 958 (lw_Lt t) [] rfl ?_
  exact kk cells slots S2 H2 (by omega) (by omega) (LI_keep hI hk1 hk2 hz2 hi2 hg2 (by omega))
set_option maxRecDepth 100000 in
set_option maxHeartbeats 4000000 in
theorem lt_21 {C N : Nat} {A : lwT} (hA : lwA C N A) {cells slots : Nat} {S : am_S} {H : hp} {xs : Nat → Int32} {L t : Nat} (hL : L ≤ 3072) (ht : 6 * t + 6 ≤ L) (hI : LI xs L S H) (kk : lwK A xs L t cells slots) : A cells slots S (lw_Lt t) 896 [] := by
  obtain ⟨hz, hi, hg, hq, hs, -, -⟩ := id hI
  have hX : ∀ j, -2147483648 ≤ (xs j).toInt ∧ (xs j).toInt ≤ 2147483647 := fun j => z_int _
  obtain ⟨d26, z26⟩ := zs_26
  refine hA.1 1 cells slots S (lw_Lt t) 896 _ 897 (lw_Lt t) [.ref 1] rfl ?_
  refine lw_ld hA (a := 6 * t) (k := 1) (n := 4) (pc5 := 902) hs (by omega) hL rfl rfl ?_
  refine lw_ld hA (a := 6 * t) (k := 2) (n := 4) (pc5 := 908) hs (by omega) hL rfl rfl ?_
  refine lw_callE hA (i := 117) (j := 22) (M' := mt_22) [.inl (xs (6 * t + 2)).toInt, .inl (xs (6 * t + 1)).toInt] [] rfl rfl rfl rfl zs_1 rfl (by decide) (Nat.le_of_ble_eq_true rfl) hz (v_c_showLaw (by decide) hi hg (hX _) (hX _)) ?_
  rintro r1 S1 H1 hz1 hk1 ⟨⟨q1, rfl⟩, hi1, hg1, hs1, ht1⟩
  have hv1 : S1.1 = lwc L xs := hk1.1.trans hs
  refine hA.1 1 cells slots S1 (lw_Lt t) 912 _ 913 (lw_Lt t) [] rfl ?_
  refine hA.1 1 cells slots S1 (lw_Lt t) 913 _ 914 (lw_Lt t) [.ref 1826] rfl ?_
  refine lw_ld hA (a := 6 * t) (k := 1) (n := 4) (pc5 := 919) hv1 (by omega) hL rfl rfl ?_
  refine lw_ld hA (a := 6 * t) (k := 2) (n := 4) (pc5 := 925) hv1 (by omega) hL rfl rfl ?_
  refine lw_call hA (i := 120) (j := 272) (M' := mt_272) [.inl (xs (6 * t + 2)).toInt, .inl (xs (6 * t + 1)).toInt] [] rfl rfl rfl rfl z26 rfl (by decide) (Nat.le_of_ble_eq_true rfl) hz1 (v_r_showLaw (by decide) hi1 hg1 (hX _) (hX _)) ?_
  rintro r2 S2 H2 hz2 hk2 ⟨⟨q2, rfl⟩, hi2, hg2, hs2, ht2⟩
  refine hA.1 1 cells slots S2 (lw_Lt t) 929 _ 930 (lw_Lt t) [] rfl ?_
  refine hA.1 1 cells slots S2 (lw_Lt t) 930 _ 958 (lw_Lt t) [] rfl ?_
  exact kk cells slots S2 H2 (by omega) (by omega) (LI_keep hI hk1 hk2 hz2 hi2 hg2 (by omega))
set_option maxRecDepth 100000 in
set_option maxHeartbeats 4000000 in
theorem lt_22 {C N : Nat} {A : lwT} (hA : lwA C N A) {cells slots : Nat} {S : am_S} {H : hp} {xs : Nat → Int32} {L t : Nat} (hL : L ≤ 3072) (ht : 6 * t + 6 ≤ L) (hI : LI xs L S H) (kk : lwK A xs L t cells slots) : A cells slots S (lw_Lt t) 933 [] := by
  obtain ⟨hz, hi, hg, hq, hs, -, -⟩ := id hI
  have hX : ∀ j, -2147483648 ≤ (xs j).toInt ∧ (xs j).toInt ≤ 2147483647 := fun j => z_int _
  obtain ⟨d26, z26⟩ := zs_26
  refine hA.1 1 cells slots S (lw_Lt t) 933 _ 934 (lw_Lt t) [.ref 1] rfl ?_
  refine lw_ld hA (a := 6 * t) (k := 1) (n := 4) (pc5 := 939) hs (by omega) hL rfl rfl ?_
  refine lw_callE hA (i := 121) (j := 23) (M' := mt_23) [.inl (xs (6 * t + 1)).toInt] [] rfl rfl rfl rfl zs_1 rfl (by decide) (Nat.le_of_ble_eq_true rfl) hz (v_c_printed (by decide) hi hg (hX _)) ?_
  rintro r1 S1 H1 hz1 hk1 ⟨⟨q1, rfl⟩, hi1, hg1, hs1, ht1⟩
  have hv1 : S1.1 = lwc L xs := hk1.1.trans hs
  refine hA.1 1 cells slots S1 (lw_Lt t) 943 _ 944 (lw_Lt t) [] rfl ?_
  refine hA.1 1 cells slots S1 (lw_Lt t) 944 _ 945 (lw_Lt t) [.ref 1826] rfl ?_
  refine lw_ld hA (a := 6 * t) (k := 1) (n := 4) (pc5 := 950) hv1 (by omega) hL rfl rfl ?_
  refine lw_call hA (i := 124) (j := 207) (M' := mt_207) [.inl (xs (6 * t + 1)).toInt] [] rfl rfl rfl rfl z26 rfl (by decide) (Nat.le_of_ble_eq_true rfl) hz1 (v_r_printed (by decide) hi1 hg1 (hX _)) ?_
  rintro r2 S2 H2 hz2 hk2 ⟨⟨q2, rfl⟩, hi2, hg2, hs2, ht2⟩
  refine hA.1 1 cells slots S2 (lw_Lt t) 954 _ 955 (lw_Lt t) [] rfl ?_
  refine hA.1 1 cells slots S2 (lw_Lt t) 955 _ 958 (lw_Lt t) [] rfl ?_
  exact kk cells slots S2 H2 (by omega) (by omega) (LI_keep hI hk1 hk2 hz2 hi2 hg2 (by omega))
set_option maxRecDepth 100000 in
set_option maxHeartbeats 4000000 in
theorem lt_2 {C N : Nat} {A : lwT} (hA : lwA C N A) {cells slots : Nat} {S : am_S} {H : hp} {xs : Nat → Int32} {L t : Nat} (hL : L ≤ 3072) (ht : 6 * t + 6 ≤ L) (hI : LI xs L S H) (kk : lwK A xs L t cells slots) : A cells slots S (lw_Lt t) 249 [] := by
  obtain ⟨hz, hi, hg, hq, hs, -, -⟩ := id hI
  obtain ⟨d26, z26⟩ := zs_26
  obtain ⟨hE9, ⟨X, hT, h0, hA9, hS, hM, hR9⟩, hB, hVQ, hCL⟩ := hg.2.1
  have hb := hg.1.2.1
  refine hA.1 1 cells slots S (lw_Lt t) 249 _ 250 (lw_Lt t) [.ref 1] rfl ?_
  refine lw_callE hA (i := 35) (j := 3) (M' := mt_3) [] [] rfl rfl rfl rfl zs_1 rfl (by decide) (Nat.le_of_ble_eq_true rfl) hz (w_c_read (by decide) hi hg.1 hE9 hT h0 hA9 hS hM.1 hVQ hCL) ?_
  rintro r1 S1 H1 hz1 hk1 ⟨q1, rfl, hr1, hi1, hg1, hl1, gu1, hRX, hVQ1, hTC1, h10⟩
  refine hA.1 1 cells slots S1 (lw_Lt t) 253 _ 254 (lw_Lt t) [] rfl ?_
  refine hA.1 1 cells slots S1 (lw_Lt t) 254 _ 255 (lw_Lt t) (.ref 1826 :: []) rfl ?_
  refine lw_call hA (i := 39) (j := 192) (M' := mt_192) [] [] rfl rfl rfl rfl z26 rfl (Nat.le_of_ble_eq_true rfl) (Nat.le_of_ble_eq_true rfl) hz1 (w_r_read (Y := (H.1 3, (H.1 2 1).toNat)) (X := X) (by decide) hg1 (TB_of hB hq (by omega) gu1) h0 (by rw [gu1 1826 (by decide)]; exact TA_same hA9 (ft_up gu1)) (RS9_ft hR9 (ft_up gu1)) hM.1) ?_
  rintro r2 S2 H2 hz2 hk2 ⟨q2, rfl, hRQ, hg2, hc2, h28, hag, hfv⟩
  obtain ⟨e, hE2, X2, t1, t2, t3, t4⟩ := read_same h0 hRX hRQ hc2 hM
  subst e
  have hl2 : H2.1 2 1 = 0 := by rw [hc2.2 2 (by decide)]; exact hl1
  refine hA.1 1 cells slots S2 (lw_Lt t) 258 _ 259 (lw_Lt t) [] rfl ?_
  refine hA.1 1 cells slots S2 (lw_Lt t) 259 _ 958 (lw_Lt t) [] rfl ?_
  exact kk cells slots S2 H2 (by omega) (by omega) (LI_keep hI hk1 hk2 hz2 (Inv_cl hi1 hc2) ⟨hg2, ⟨hE2, ⟨X2, t1, t2, t3, t4⟩, fun j hj => absurd hj (by omega), VRQ_cl hVQ1 hc2, CL_cl hTC1.2 hc2⟩, TOx_ag hg1.1 (TOx_c hg.2.2 hTC1.1 h10 gu1) hc2 hag hfv.1 hfv.2⟩ (by omega))
set_option maxRecDepth 100000 in
set_option maxHeartbeats 4000000 in
theorem lt_8 {C N : Nat} {A : lwT} (hA : lwA C N A) {cells slots : Nat} {S : am_S} {H : hp} {xs : Nat → Int32} {L t : Nat} (hL : L ≤ 3072) (ht : 6 * t + 6 ≤ L) (hI : LI xs L S H) (kk : lwK A xs L t cells slots) : A cells slots S (lw_Lt t) 375 [] := by
  obtain ⟨hz, hi, hg, hq, hs, -, -⟩ := id hI
  have hX : ∀ j, -2147483648 ≤ (xs j).toInt ∧ (xs j).toInt ≤ 2147483647 := fun j => z_int _
  obtain ⟨d26, z26⟩ := zs_26
  obtain ⟨hE9, ⟨X, hT, h0, hA9, hS, hM, hR9⟩, hB, hVQ, hCL⟩ := hg.2.1
  refine hA.1 1 cells slots S (lw_Lt t) 375 _ 376 (lw_Lt t) (.ref 1 :: []) rfl ?_
  refine lw_ld hA (a := 6 * t) (k := 1) (n := 4) (pc5 := 381) hs (by omega) hL rfl rfl ?_
  refine lw_ld hA (a := 6 * t) (k := 2) (n := 4) (pc5 := 387) hs (by omega) hL rfl rfl ?_
  refine lw_ld hA (a := 6 * t) (k := 3) (n := 4) (pc5 := 393) hs (by omega) hL rfl rfl ?_
  refine lw_bool2 hA (pT := 401) (pF := 397) (pE := 402) rfl rfl rfl ?_
  intro y1 hy1 hz19
  refine lw_callE hA (i := 62) (j := 9) (M' := mt_9) [.inl y1, .inl (xs (6 * t + 2)).toInt, .inl (xs (6 * t + 1)).toInt] [] rfl rfl rfl rfl zs_1 rfl (by decide) (Nat.le_of_ble_eq_true rfl) hz (w_c_test (by decide) hi hg (hX _) (hX _) hy1 hE9 hT hA9 hS hM.1 hR9 hVQ hCL) ?_
  rintro r1 S1 H1 hz1 hk1 ⟨⟨hi1, hg1, hs1, ht1⟩, gu1, HT1, q1, rfl, hA1⟩
  have hv1 : S1.1 = lwc L xs := hk1.1.trans hs
  refine hA.1 1 cells slots S1 (lw_Lt t) 405 _ 406 (lw_Lt t) [] rfl ?_
  refine hA.1 1 cells slots S1 (lw_Lt t) 406 _ 407 (lw_Lt t) (.ref 1826 :: []) rfl ?_
  refine lw_ld hA (a := 6 * t) (k := 1) (n := 4) (pc5 := 412) hv1 (by omega) hL rfl rfl ?_
  refine lw_ld hA (a := 6 * t) (k := 2) (n := 4) (pc5 := 418) hv1 (by omega) hL rfl rfl ?_
  refine lw_ld hA (a := 6 * t) (k := 3) (n := 4) (pc5 := 424) hv1 (by omega) hL rfl rfl ?_
  refine lw_bool2 hA (pT := 432) (pF := 428) (pE := 433) rfl rfl rfl ?_
  intro y2 hy2 hz29
  refine lw_call hA (i := 66) (j := 218) (M' := mt_218) [.inl y2, .inl (xs (6 * t + 2)).toInt, .inl (xs (6 * t + 1)).toInt] [] rfl rfl rfl rfl z26 rfl (by decide) (Nat.le_of_ble_eq_true rfl) hz1 (w_r_test (X := X) (by decide) hi1 hg1 (hX _) (hX _) hy2 HT1 (by rw [gu1 1826 (by decide)]; exact TA_same hA9 (ft_up gu1)) (RS9_ft hR9 (ft_up gu1))) ?_
  rintro r2 S2 H2 hz2 hk2 ⟨⟨hi2, hg2, hs2, ht2⟩, hc2, hft2, q2, rfl, hA2⟩
  refine hA.1 1 cells slots S2 (lw_Lt t) 436 _ 437 (lw_Lt t) [] rfl ?_
  rw [hz29, ← hz19, gu1 1833 (by decide), gu1 1830 (by decide), gu1 1826 (by decide), gu1 1867 (by decide)] at hA2
  have e3 : q1 = q2 := TZ_eq (TZ_c hA1) (TZ_r hA2)
  subst e3
  refine hA.1 1 cells slots S2 (lw_Lt t) 437 _ 958 (lw_Lt t) [] rfl ?_
  exact kk cells slots S2 H2 (by omega) (by omega) (LI_keep hI hk1 hk2 hz2 hi2 ⟨hg2.1, hg2.2, TOx_test hg.1.1 hA9 hR9 hg.2.2 gu1 hA1 hc2 hft2 hA2⟩ (by omega))
set_option maxRecDepth 100000 in
set_option maxHeartbeats 4000000 in
theorem lt_9 {C N : Nat} {A : lwT} (hA : lwA C N A) {cells slots : Nat} {S : am_S} {H : hp} {xs : Nat → Int32} {L t : Nat} (hL : L ≤ 3072) (ht : 6 * t + 6 ≤ L) (hI : LI xs L S H) (kk : lwK A xs L t cells slots) : A cells slots S (lw_Lt t) 440 [] := by
  obtain ⟨hz, hi, hg, hq, hs, -, -⟩ := id hI
  have hX : ∀ j, -2147483648 ≤ (xs j).toInt ∧ (xs j).toInt ≤ 2147483647 := fun j => z_int _
  obtain ⟨d26, z26⟩ := zs_26
  refine hA.1 1 cells slots S (lw_Lt t) 440 _ 441 (lw_Lt t) [.ref 1] rfl ?_
  refine lw_ld hA (a := 6 * t) (k := 1) (n := 4) (pc5 := 446) hs (by omega) hL rfl rfl ?_
  refine lw_callE hA (i := 67) (j := 10) (M' := mt_10) [.inl (xs (6 * t + 1)).toInt] [] rfl rfl rfl rfl zs_1 rfl (by decide) (Nat.le_of_ble_eq_true rfl) hz (w_c_told (by decide) hi hg (hX _)) ?_
  rintro r1 S1 H1 hz1 hk1 ⟨⟨-, hi1, hg1, hs1, ht1⟩, gu1, hTK, q1, rfl, hA1⟩
  have hv1 : S1.1 = lwc L xs := hk1.1.trans hs
  refine hA.1 1 cells slots S1 (lw_Lt t) 450 _ 451 (lw_Lt t) (.ref 1826 :: [zc (.inl q1)]) rfl ?_
  refine lw_ld hA (a := 6 * t) (k := 1) (n := 4) (pc5 := 456) hv1 (by omega) hL rfl rfl ?_
  refine lw_call hA (i := 70) (j := 220) (M' := mt_220) [.inl (xs (6 * t + 1)).toInt] [zc (.inl q1)] rfl rfl rfl rfl z26 rfl (Nat.le_of_ble_eq_true rfl) (Nat.le_of_ble_eq_true rfl) hz1 (w_r_told (by decide) hi1 hg1 (hX _)) ?_
  rintro r2 S2 H2 hz2 hk2 ⟨⟨-, hi2, hg2, hs2, ht2⟩, q2, rfl, hA2⟩
  have h6 : ∀ l : Nat, H.1 1826 67 = (l : Int) → H.1 1845 l ≤ 6 := by
    intro l hl
    rcases hg.2.2 with ⟨-, o⟩ | ⟨l', nv, o1, o2, -⟩
    · omega
    · obtain rfl : l = l' := by omega
      omega
  have e3 : q1 = q2 := TZt_eq hA1 (TZt_up gu1 hTK h6 hA2)
  subst e3
  refine hA.1 1 cells slots S2 (lw_Lt t) 460 _ 958 (lw_Lt t) [] (by show some (if Int32.ofInt q1 = Int32.ofInt q1 then 958 else 463, lw_Lt t, []) = _; rw [if_pos rfl]) ?_
  exact kk cells slots S2 H2 (by omega) (by omega) (LI_keep hI hk1 hk2 hz2 hi2 hg2 (by omega))
