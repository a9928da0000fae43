/-! the law's turns: cases 2 to 22 -/
set_option maxRecDepth 100000 in
set_option maxHeartbeats 4000000 in
theorem lt_2 {C N : Nat} {A : lwT} (hA : lwA C N A) {cells slots : Nat} {S : am_S} {H : hp} {xs : Nat → Int32} {L t : Nat} (hL : L ≤ 3072) (ht : 6 * t + 6 ≤ L) (hI : LI xs L S H) (kk : lwK A xs L t cells slots) : A cells slots S (lw_Lt t) 277 [] := by
  obtain ⟨hz, hi, hg, hq, hs, -, -⟩ := id hI
  have hX : ∀ j, -2147483648 ≤ (xs j).toInt ∧ (xs j).toInt ≤ 2147483647 := fun j => z_int _
  obtain ⟨d26, z26⟩ := zs_26
  refine hA.1 1 cells slots S (lw_Lt t) 277 _ 278 (lw_Lt t) [.ref 1] rfl ?_
  refine lw_call hA (i := 39) (j := 3) (M' := mt_3) [] [] rfl rfl rfl rfl zs_1 rfl (by decide) (Nat.le_of_ble_eq_true rfl) hz (c_read (by decide) hi hg ) ?_
  rintro r1 S1 H1 hz1 hk1 ⟨⟨q1, rfl⟩, hi1, hg1, hs1, ht1⟩
  have hv1 : S1.1 = lwc L xs := hk1.1.trans hs
  refine hA.1 1 cells slots S1 (lw_Lt t) 281 _ 282 (lw_Lt t) [] rfl ?_
  refine hA.1 1 cells slots S1 (lw_Lt t) 282 _ 283 (lw_Lt t) [.ref 1826] rfl ?_
  refine lw_call hA (i := 42) (j := 192) (M' := mt_192) [] [] rfl rfl rfl rfl z26 rfl (by decide) (Nat.le_of_ble_eq_true rfl) hz1 (r_read (by decide) hi1 hg1 ) ?_
  rintro r2 S2 H2 hz2 hk2 ⟨⟨q2, rfl⟩, hi2, hg2, hs2, ht2⟩
  refine hA.1 1 cells slots S2 (lw_Lt t) 286 _ 287 (lw_Lt t) [] rfl ?_
  refine hA.1 1 cells slots S2 (lw_Lt t) 287 _ 986 (lw_Lt t) [] rfl ?_
  exact kk cells slots S2 H2 (by omega) (by omega) (LI_keep hI hk1 hk2 hz2 hi2 hg2 (by omega))
set_option maxRecDepth 100000 in
set_option maxHeartbeats 4000000 in
theorem lt_3 {C N : Nat} {A : lwT} (hA : lwA C N A) {cells slots : Nat} {S : am_S} {H : hp} {xs : Nat → Int32} {L t : Nat} (hL : L ≤ 3072) (ht : 6 * t + 6 ≤ L) (hI : LI xs L S H) (kk : lwK A xs L t cells slots) : A cells slots S (lw_Lt t) 290 [] := by
  obtain ⟨hz, hi, hg, hq, hs, -, -⟩ := id hI
  have hX : ∀ j, -2147483648 ≤ (xs j).toInt ∧ (xs j).toInt ≤ 2147483647 := fun j => z_int _
  obtain ⟨d26, z26⟩ := zs_26
  refine hA.1 1 cells slots S (lw_Lt t) 290 _ 291 (lw_Lt t) [.ref 1] rfl ?_
  refine lw_call hA (i := 43) (j := 4) (M' := mt_4) [] [] rfl rfl rfl rfl zs_1 rfl (by decide) (Nat.le_of_ble_eq_true rfl) hz (c_fault (by decide) hi hg ) ?_
  rintro r1 S1 H1 hz1 hk1 ⟨⟨q1, rfl⟩, hi1, hg1, hs1, ht1⟩
  have hv1 : S1.1 = lwc L xs := hk1.1.trans hs
  refine hA.1 1 cells slots S1 (lw_Lt t) 294 _ 295 (lw_Lt t) [] rfl ?_
  refine hA.1 1 cells slots S1 (lw_Lt t) 295 _ 296 (lw_Lt t) [.ref 1826] rfl ?_
  refine lw_call hA (i := 46) (j := 193) (M' := mt_193) [] [] rfl rfl rfl rfl z26 rfl (by decide) (Nat.le_of_ble_eq_true rfl) hz1 (r_fault (by decide) hi1 hg1 ) ?_
  rintro r2 S2 H2 hz2 hk2 ⟨⟨q2, rfl⟩, hi2, hg2, hs2, ht2⟩
  refine hA.1 1 cells slots S2 (lw_Lt t) 299 _ 300 (lw_Lt t) [] rfl ?_
  refine hA.1 1 cells slots S2 (lw_Lt t) 300 _ 986 (lw_Lt t) [] rfl ?_
  exact kk cells slots S2 H2 (by omega) (by omega) (LI_keep hI hk1 hk2 hz2 hi2 hg2 (by omega))
set_option maxRecDepth 100000 in
set_option maxHeartbeats 4000000 in
theorem lt_4 {C N : Nat} {A : lwT} (hA : lwA C N A) {cells slots : Nat} {S : am_S} {H : hp} {xs : Nat → Int32} {L t : Nat} (hL : L ≤ 3072) (ht : 6 * t + 6 ≤ L) (hI : LI xs L S H) (kk : lwK A xs L t cells slots) : A cells slots S (lw_Lt t) 303 [] := by
  obtain ⟨hz, hi, hg, hq, hs, -, -⟩ := id hI
  have hX : ∀ j, -2147483648 ≤ (xs j).toInt ∧ (xs j).toInt ≤ 2147483647 := fun j => z_int _
  obtain ⟨d26, z26⟩ := zs_26
  refine hA.1 1 cells slots S (lw_Lt t) 303 _ 304 (lw_Lt t) [.ref 1] rfl ?_
  refine lw_ld hA (a := 6 * t) (k := 1) (n := 4) (pc5 := 309) hs (by omega) hL rfl rfl ?_
  refine lw_call hA (i := 47) (j := 5) (M' := mt_5) [.inl (xs (6 * t + 1)).toInt] [] rfl rfl rfl rfl zs_1 rfl (by decide) (Nat.le_of_ble_eq_true rfl) hz (c_count (by decide) hi hg (hX _)) ?_
  rintro r1 S1 H1 hz1 hk1 ⟨⟨q1, rfl⟩, hi1, hg1, hs1, ht1⟩
  have hv1 : S1.1 = lwc L xs := hk1.1.trans hs
  refine hA.1 1 cells slots S1 (lw_Lt t) 313 _ 314 (lw_Lt t) [] rfl ?_
  refine hA.1 1 cells slots S1 (lw_Lt t) 314 _ 315 (lw_Lt t) [.ref 1826] rfl ?_
  refine lw_ld hA (a := 6 * t) (k := 1) (n := 4) (pc5 := 320) hv1 (by omega) hL rfl rfl ?_
  refine lw_call hA (i := 51) (j := 194) (M' := mt_194) [.inl (xs (6 * t + 1)).toInt] [] rfl rfl rfl rfl z26 rfl (by decide) (Nat.le_of_ble_eq_true rfl) hz1 (r_count (by decide) hi1 hg1 (hX _)) ?_
  rintro r2 S2 H2 hz2 hk2 ⟨⟨q2, rfl⟩, hi2, hg2, hs2, ht2⟩
  refine hA.1 1 cells slots S2 (lw_Lt t) 324 _ 325 (lw_Lt t) [] rfl ?_
  refine hA.1 1 cells slots S2 (lw_Lt t) 325 _ 986 (lw_Lt t) [] rfl ?_
  exact kk cells slots S2 H2 (by omega) (by omega) (LI_keep hI hk1 hk2 hz2 hi2 hg2 (by omega))
set_option maxRecDepth 100000 in
set_option maxHeartbeats 4000000 in
theorem lt_5 {C N : Nat} {A : lwT} (hA : lwA C N A) {cells slots : Nat} {S : am_S} {H : hp} {xs : Nat → Int32} {L t : Nat} (hL : L ≤ 3072) (ht : 6 * t + 6 ≤ L) (hI : LI xs L S H) (kk : lwK A xs L t cells slots) : A cells slots S (lw_Lt t) 328 [] := by
  obtain ⟨hz, hi, hg, hq, hs, -, -⟩ := id hI
  have hX : ∀ j, -2147483648 ≤ (xs j).toInt ∧ (xs j).toInt ≤ 2147483647 := fun j => z_int _
  obtain ⟨d26, z26⟩ := zs_26
  refine hA.1 1 cells slots S (lw_Lt t) 328 _ 329 (lw_Lt t) [.ref 1] rfl ?_
  refine lw_ld hA (a := 6 * t) (k := 1) (n := 4) (pc5 := 334) hs (by omega) hL rfl rfl ?_
  refine lw_ld hA (a := 6 * t) (k := 2) (n := 4) (pc5 := 340) hs (by omega) hL rfl rfl ?_
  refine lw_call hA (i := 52) (j := 6) (M' := mt_6) [.inl (xs (6 * t + 2)).toInt, .inl (xs (6 * t + 1)).toInt] [] rfl rfl rfl rfl zs_1 rfl (by decide) (Nat.le_of_ble_eq_true rfl) hz (c_about (by decide) hi hg (hX _) (hX _)) ?_
  rintro r1 S1 H1 hz1 hk1 ⟨⟨q1, rfl⟩, hi1, hg1, hs1, ht1⟩
  have hv1 : S1.1 = lwc L xs := hk1.1.trans hs
  refine hA.1 1 cells slots S1 (lw_Lt t) 344 _ 345 (lw_Lt t) [] rfl ?_
  refine hA.1 1 cells slots S1 (lw_Lt t) 345 _ 346 (lw_Lt t) [.ref 1826] rfl ?_
  refine lw_ld hA (a := 6 * t) (k := 1) (n := 4) (pc5 := 351) hv1 (by omega) hL rfl rfl ?_
  refine lw_ld hA (a := 6 * t) (k := 2) (n := 4) (pc5 := 357) hv1 (by omega) hL rfl rfl ?_
  refine lw_call hA (i := 56) (j := 195) (M' := mt_195) [.inl (xs (6 * t + 2)).toInt, .inl (xs (6 * t + 1)).toInt] [] rfl rfl rfl rfl z26 rfl (by decide) (Nat.le_of_ble_eq_true rfl) hz1 (r_about (by decide) hi1 hg1 (hX _) (hX _)) ?_
  rintro r2 S2 H2 hz2 hk2 ⟨⟨q2, rfl⟩, hi2, hg2, hs2, ht2⟩
  refine hA.1 1 cells slots S2 (lw_Lt t) 361 _ 362 (lw_Lt t) [] rfl ?_
  refine hA.1 1 cells slots S2 (lw_Lt t) 362 _ 986 (lw_Lt t) [] rfl ?_
  exact kk cells slots S2 H2 (by omega) (by omega) (LI_keep hI hk1 hk2 hz2 hi2 hg2 (by omega))
set_option maxRecDepth 100000 in
set_option maxHeartbeats 4000000 in
theorem lt_6 {C N : Nat} {A : lwT} (hA : lwA C N A) {cells slots : Nat} {S : am_S} {H : hp} {xs : Nat → Int32} {L t : Nat} (hL : L ≤ 3072) (ht : 6 * t + 6 ≤ L) (hI : LI xs L S H) (kk : lwK A xs L t cells slots) : A cells slots S (lw_Lt t) 365 [] := by
  obtain ⟨hz, hi, hg, hq, hs, -, -⟩ := id hI
  have hX : ∀ j, -2147483648 ≤ (xs j).toInt ∧ (xs j).toInt ≤ 2147483647 := fun j => z_int _
  obtain ⟨d26, z26⟩ := zs_26
  refine hA.1 1 cells slots S (lw_Lt t) 365 _ 366 (lw_Lt t) [.ref 1] rfl ?_
  refine lw_ld hA (a := 6 * t) (k := 1) (n := 4) (pc5 := 371) hs (by omega) hL rfl rfl ?_
  refine lw_call hA (i := 57) (j := 7) (M' := mt_7) [.inl (xs (6 * t + 1)).toInt] [] rfl rfl rfl rfl zs_1 rfl (by decide) (Nat.le_of_ble_eq_true rfl) hz (c_work (by decide) hi hg (hX _)) ?_
  rintro r1 S1 H1 hz1 hk1 ⟨⟨q1, rfl⟩, hi1, hg1, hs1, ht1⟩
  have hv1 : S1.1 = lwc L xs := hk1.1.trans hs
  refine hA.1 1 cells slots S1 (lw_Lt t) 375 _ 376 (lw_Lt t) [] rfl ?_
  refine hA.1 1 cells slots S1 (lw_Lt t) 376 _ 377 (lw_Lt t) [.ref 1826] rfl ?_
  refine lw_ld hA (a := 6 * t) (k := 1) (n := 4) (pc5 := 382) hv1 (by omega) hL rfl rfl ?_
  refine lw_call hA (i := 60) (j := 201) (M' := mt_201) [.inl (xs (6 * t + 1)).toInt] [] rfl rfl rfl rfl z26 rfl (by decide) (Nat.le_of_ble_eq_true rfl) hz1 (r_work (by decide) hi1 hg1 (hX _)) ?_
  rintro r2 S2 H2 hz2 hk2 ⟨⟨q2, rfl⟩, hi2, hg2, hs2, ht2⟩
  refine hA.1 1 cells slots S2 (lw_Lt t) 386 _ 387 (lw_Lt t) [] rfl ?_
  refine hA.1 1 cells slots S2 (lw_Lt t) 387 _ 986 (lw_Lt t) [] rfl ?_
  exact kk cells slots S2 H2 (by omega) (by omega) (LI_keep hI hk1 hk2 hz2 hi2 hg2 (by omega))
set_option maxRecDepth 100000 in
set_option maxHeartbeats 4000000 in
theorem lt_7 {C N : Nat} {A : lwT} (hA : lwA C N A) {cells slots : Nat} {S : am_S} {H : hp} {xs : Nat → Int32} {L t : Nat} (hL : L ≤ 3072) (ht : 6 * t + 6 ≤ L) (hI : LI xs L S H) (kk : lwK A xs L t cells slots) : A cells slots S (lw_Lt t) 390 [] := by
  obtain ⟨hz, hi, hg, hq, hs, -, -⟩ := id hI
  have hX : ∀ j, -2147483648 ≤ (xs j).toInt ∧ (xs j).toInt ≤ 2147483647 := fun j => z_int _
  obtain ⟨d26, z26⟩ := zs_26
  refine hA.1 1 cells slots S (lw_Lt t) 390 _ 391 (lw_Lt t) [.ref 1] rfl ?_
  refine lw_call hA (i := 61) (j := 8) (M' := mt_8) [] [] rfl rfl rfl rfl zs_1 rfl (by decide) (Nat.le_of_ble_eq_true rfl) hz (c_steps (by decide) hi hg ) ?_
  rintro r1 S1 H1 hz1 hk1 ⟨⟨q1, rfl⟩, hi1, hg1, hs1, ht1⟩
  have hv1 : S1.1 = lwc L xs := hk1.1.trans hs
  refine hA.1 1 cells slots S1 (lw_Lt t) 394 _ 395 (lw_Lt t) [] rfl ?_
  refine hA.1 1 cells slots S1 (lw_Lt t) 395 _ 396 (lw_Lt t) [.ref 1826] rfl ?_
  refine lw_call hA (i := 64) (j := 202) (M' := mt_202) [] [] rfl rfl rfl rfl z26 rfl (by decide) (Nat.le_of_ble_eq_true rfl) hz1 (r_steps (by decide) hi1 hg1 ) ?_
  rintro r2 S2 H2 hz2 hk2 ⟨⟨q2, rfl⟩, hi2, hg2, hs2, ht2⟩
  refine hA.1 1 cells slots S2 (lw_Lt t) 399 _ 400 (lw_Lt t) [] rfl ?_
  refine hA.1 1 cells slots S2 (lw_Lt t) 400 _ 986 (lw_Lt t) [] rfl ?_
  exact kk cells slots S2 H2 (by omega) (by omega) (LI_keep hI hk1 hk2 hz2 hi2 hg2 (by omega))
set_option maxRecDepth 100000 in
set_option maxHeartbeats 4000000 in
theorem lt_8 {C N : Nat} {A : lwT} (hA : lwA C N A) {cells slots : Nat} {S : am_S} {H : hp} {xs : Nat → Int32} {L t : Nat} (hL : L ≤ 3072) (ht : 6 * t + 6 ≤ L) (hI : LI xs L S H) (kk : lwK A xs L t cells slots) : A cells slots S (lw_Lt t) 403 [] := by
  obtain ⟨hz, hi, hg, hq, hs, -, -⟩ := id hI
  have hX : ∀ j, -2147483648 ≤ (xs j).toInt ∧ (xs j).toInt ≤ 2147483647 := fun j => z_int _
  obtain ⟨d26, z26⟩ := zs_26
  refine hA.1 1 cells slots S (lw_Lt t) 403 _ 404 (lw_Lt t) [.ref 1] rfl ?_
  refine lw_ld hA (a := 6 * t) (k := 1) (n := 4) (pc5 := 409) hs (by omega) hL rfl rfl ?_
  refine lw_ld hA (a := 6 * t) (k := 2) (n := 4) (pc5 := 415) hs (by omega) hL rfl rfl ?_
  refine lw_ld hA (a := 6 * t) (k := 3) (n := 4) (pc5 := 421) hs (by omega) hL rfl rfl ?_
  refine lw_bool hA (pT := 429) (pF := 425) (pE := 430) rfl rfl rfl ?_
  intro y1 hy1
  refine lw_call hA (i := 65) (j := 9) (M' := mt_9) [.inl y1, .inl (xs (6 * t + 2)).toInt, .inl (xs (6 * t + 1)).toInt] [] rfl rfl rfl rfl zs_1 rfl (by decide) (Nat.le_of_ble_eq_true rfl) hz (c_test (by decide) hi hg (hX _) (hX _) hy1) ?_
  rintro r1 S1 H1 hz1 hk1 ⟨⟨q1, rfl⟩, hi1, hg1, hs1, ht1⟩
  have hv1 : S1.1 = lwc L xs := hk1.1.trans hs
  refine hA.1 1 cells slots S1 (lw_Lt t) 433 _ 434 (lw_Lt t) [] rfl ?_
  refine hA.1 1 cells slots S1 (lw_Lt t) 434 _ 435 (lw_Lt t) [.ref 1826] rfl ?_
  refine lw_ld hA (a := 6 * t) (k := 1) (n := 4) (pc5 := 440) hv1 (by omega) hL rfl rfl ?_
  refine lw_ld hA (a := 6 * t) (k := 2) (n := 4) (pc5 := 446) hv1 (by omega) hL rfl rfl ?_
  refine lw_ld hA (a := 6 * t) (k := 3) (n := 4) (pc5 := 452) hv1 (by omega) hL rfl rfl ?_
  refine lw_bool hA (pT := 460) (pF := 456) (pE := 461) rfl rfl rfl ?_
  intro y2 hy2
  refine lw_call hA (i := 69) (j := 218) (M' := mt_218) [.inl y2, .inl (xs (6 * t + 2)).toInt, .inl (xs (6 * t + 1)).toInt] [] rfl rfl rfl rfl z26 rfl (by decide) (Nat.le_of_ble_eq_true rfl) hz1 (r_test (by decide) hi1 hg1 (hX _) (hX _) hy2) ?_
  rintro r2 S2 H2 hz2 hk2 ⟨⟨q2, rfl⟩, hi2, hg2, hs2, ht2⟩
  refine hA.1 1 cells slots S2 (lw_Lt t) 464 _ 465 (lw_Lt t) [] rfl ?_
  refine hA.1 1 cells slots S2 (lw_Lt t) 465 _ 986 (lw_Lt t) [] rfl ?_
  exact kk cells slots S2 H2 (by omega) (by omega) (LI_keep hI hk1 hk2 hz2 hi2 hg2 (by omega))
set_option maxRecDepth 100000 in
set_option maxHeartbeats 4000000 in
theorem lt_9 {C N : Nat} {A : lwT} (hA : lwA C N A) {cells slots : Nat} {S : am_S} {H : hp} {xs : Nat → Int32} {L t : Nat} (hL : L ≤ 3072) (ht : 6 * t + 6 ≤ L) (hI : LI xs L S H) (kk : lwK A xs L t cells slots) : A cells slots S (lw_Lt t) 468 [] := by
  obtain ⟨hz, hi, hg, hq, hs, -, -⟩ := id hI
  have hX : ∀ j, -2147483648 ≤ (xs j).toInt ∧ (xs j).toInt ≤ 2147483647 := fun j => z_int _
  obtain ⟨d26, z26⟩ := zs_26
  refine hA.1 1 cells slots S (lw_Lt t) 468 _ 469 (lw_Lt t) [.ref 1] rfl ?_
  refine lw_ld hA (a := 6 * t) (k := 1) (n := 4) (pc5 := 474) hs (by omega) hL rfl rfl ?_
  refine lw_call hA (i := 70) (j := 10) (M' := mt_10) [.inl (xs (6 * t + 1)).toInt] [] rfl rfl rfl rfl zs_1 rfl (by decide) (Nat.le_of_ble_eq_true rfl) hz (c_told (by decide) hi hg (hX _)) ?_
  rintro r1 S1 H1 hz1 hk1 ⟨⟨q1, rfl⟩, hi1, hg1, hs1, ht1⟩
  have hv1 : S1.1 = lwc L xs := hk1.1.trans hs
  refine hA.1 1 cells slots S1 (lw_Lt t) 478 _ 479 (lw_Lt t) [] rfl ?_
  refine hA.1 1 cells slots S1 (lw_Lt t) 479 _ 480 (lw_Lt t) [.ref 1826] rfl ?_
  refine lw_ld hA (a := 6 * t) (k := 1) (n := 4) (pc5 := 485) hv1 (by omega) hL rfl rfl ?_
  refine lw_call hA (i := 73) (j := 220) (M' := mt_220) [.inl (xs (6 * t + 1)).toInt] [] rfl rfl rfl rfl z26 rfl (by decide) (Nat.le_of_ble_eq_true rfl) hz1 (r_told (by decide) hi1 hg1 (hX _)) ?_
  rintro r2 S2 H2 hz2 hk2 ⟨⟨q2, rfl⟩, hi2, hg2, hs2, ht2⟩
  refine hA.1 1 cells slots S2 (lw_Lt t) 489 _ 490 (lw_Lt t) [] rfl ?_
  refine hA.1 1 cells slots S2 (lw_Lt t) 490 _ 986 (lw_Lt t) [] rfl ?_
  exact kk cells slots S2 H2 (by omega) (by omega) (LI_keep hI hk1 hk2 hz2 hi2 hg2 (by omega))
set_option maxRecDepth 100000 in
set_option maxHeartbeats 4000000 in
theorem lt_10 {C N : Nat} {A : lwT} (hA : lwA C N A) {cells slots : Nat} {S : am_S} {H : hp} {xs : Nat → Int32} {L t : Nat} (hL : L ≤ 3072) (ht : 6 * t + 6 ≤ L) (hI : LI xs L S H) (kk : lwK A xs L t cells slots) : A cells slots S (lw_Lt t) 493 [] := by
  obtain ⟨hz, hi, hg, hq, hs, -, -⟩ := id hI
  have hX : ∀ j, -2147483648 ≤ (xs j).toInt ∧ (xs j).toInt ≤ 2147483647 := fun j => z_int _
  obtain ⟨d26, z26⟩ := zs_26
  refine hA.1 1 cells slots S (lw_Lt t) 493 _ 494 (lw_Lt t) [.ref 1] rfl ?_
  refine lw_ld hA (a := 6 * t) (k := 1) (n := 4) (pc5 := 499) hs (by omega) hL rfl rfl ?_
  refine lw_ld hA (a := 6 * t) (k := 2) (n := 4) (pc5 := 505) hs (by omega) hL rfl rfl ?_
  refine lw_bool hA (pT := 513) (pF := 509) (pE := 514) rfl rfl rfl ?_
  intro y1 hy1
  refine lw_call hA (i := 74) (j := 11) (M' := mt_11) [.inl y1, .inl (xs (6 * t + 1)).toInt] [] rfl rfl rfl rfl zs_1 rfl (by decide) (Nat.le_of_ble_eq_true rfl) hz (c_begin (by decide) hi hg (hX _) hy1) ?_
  rintro r1 S1 H1 hz1 hk1 ⟨⟨q1, rfl⟩, hi1, hg1, hs1, ht1⟩
  have hv1 : S1.1 = lwc L xs := hk1.1.trans hs
  refine hA.1 1 cells slots S1 (lw_Lt t) 517 _ 518 (lw_Lt t) [] rfl ?_
  refine hA.1 1 cells slots S1 (lw_Lt t) 518 _ 519 (lw_Lt t) [.ref 1826] rfl ?_
  refine lw_ld hA (a := 6 * t) (k := 1) (n := 4) (pc5 := 524) hv1 (by omega) hL rfl rfl ?_
  refine lw_ld hA (a := 6 * t) (k := 2) (n := 4) (pc5 := 530) hv1 (by omega) hL rfl rfl ?_
  refine lw_bool hA (pT := 538) (pF := 534) (pE := 539) rfl rfl rfl ?_
  intro y2 hy2
  refine lw_call hA (i := 78) (j := 227) (M' := mt_227) [.inl y2, .inl (xs (6 * t + 1)).toInt] [] rfl rfl rfl rfl z26 rfl (by decide) (Nat.le_of_ble_eq_true rfl) hz1 (r_begin (by decide) hi1 hg1 (hX _) hy2) ?_
  rintro r2 S2 H2 hz2 hk2 ⟨⟨q2, rfl⟩, hi2, hg2, hs2, ht2⟩
  refine hA.1 1 cells slots S2 (lw_Lt t) 542 _ 543 (lw_Lt t) [] rfl ?_
  refine hA.1 1 cells slots S2 (lw_Lt t) 543 _ 986 (lw_Lt t) [] rfl ?_
  exact kk cells slots S2 H2 (by omega) (by omega) (LI_keep hI hk1 hk2 hz2 hi2 hg2 (by omega))
set_option maxRecDepth 100000 in
set_option maxHeartbeats 4000000 in
theorem lt_11 {C N : Nat} {A : lwT} (hA : lwA C N A) {cells slots : Nat} {S : am_S} {H : hp} {xs : Nat → Int32} {L t : Nat} (hL : L ≤ 3072) (ht : 6 * t + 6 ≤ L) (hI : LI xs L S H) (kk : lwK A xs L t cells slots) : A cells slots S (lw_Lt t) 546 [] := by
  obtain ⟨hz, hi, hg, hq, hs, -, -⟩ := id hI
  have hX : ∀ j, -2147483648 ≤ (xs j).toInt ∧ (xs j).toInt ≤ 2147483647 := fun j => z_int _
  obtain ⟨d26, z26⟩ := zs_26
  refine hA.1 1 cells slots S (lw_Lt t) 546 _ 547 (lw_Lt t) [.ref 1] rfl ?_
  refine lw_ld hA (a := 6 * t) (k := 1) (n := 4) (pc5 := 552) hs (by omega) hL rfl rfl ?_
  refine lw_ld hA (a := 6 * t) (k := 2) (n := 4) (pc5 := 558) hs (by omega) hL rfl rfl ?_
  refine lw_call hA (i := 79) (j := 12) (M' := mt_12) [.inl (xs (6 * t + 2)).toInt, .inl (xs (6 * t + 1)).toInt] [] rfl rfl rfl rfl zs_1 rfl (by decide) (Nat.le_of_ble_eq_true rfl) hz (c_unfold (by decide) hi hg (hX _) (hX _)) ?_
  rintro r1 S1 H1 hz1 hk1 ⟨⟨q1, rfl⟩, hi1, hg1, hs1, ht1⟩
  have hv1 : S1.1 = lwc L xs := hk1.1.trans hs
  refine hA.1 1 cells slots S1 (lw_Lt t) 562 _ 563 (lw_Lt t) [] rfl ?_
  refine hA.1 1 cells slots S1 (lw_Lt t) 563 _ 564 (lw_Lt t) [.ref 1826] rfl ?_
  refine lw_ld hA (a := 6 * t) (k := 1) (n := 4) (pc5 := 569) hv1 (by omega) hL rfl rfl ?_
  refine lw_ld hA (a := 6 * t) (k := 2) (n := 4) (pc5 := 575) hv1 (by omega) hL rfl rfl ?_
  refine lw_call hA (i := 82) (j := 237) (M' := mt_237) [.inl (xs (6 * t + 2)).toInt, .inl (xs (6 * t + 1)).toInt] [] rfl rfl rfl rfl z26 rfl (by decide) (Nat.le_of_ble_eq_true rfl) hz1 (r_unfold (by decide) hi1 hg1 (hX _) (hX _)) ?_
  rintro r2 S2 H2 hz2 hk2 ⟨⟨q2, rfl⟩, hi2, hg2, hs2, ht2⟩
  refine hA.1 1 cells slots S2 (lw_Lt t) 579 _ 580 (lw_Lt t) [] rfl ?_
  refine hA.1 1 cells slots S2 (lw_Lt t) 580 _ 986 (lw_Lt t) [] rfl ?_
  exact kk cells slots S2 H2 (by omega) (by omega) (LI_keep hI hk1 hk2 hz2 hi2 hg2 (by omega))
set_option maxRecDepth 100000 in
set_option maxHeartbeats 4000000 in
theorem lt_12 {C N : Nat} {A : lwT} (hA : lwA C N A) {cells slots : Nat} {S : am_S} {H : hp} {xs : Nat → Int32} {L t : Nat} (hL : L ≤ 3072) (ht : 6 * t + 6 ≤ L) (hI : LI xs L S H) (kk : lwK A xs L t cells slots) : A cells slots S (lw_Lt t) 583 [] := by
  obtain ⟨hz, hi, hg, hq, hs, -, -⟩ := id hI
  have hX : ∀ j, -2147483648 ≤ (xs j).toInt ∧ (xs j).toInt ≤ 2147483647 := fun j => z_int _
  obtain ⟨d26, z26⟩ := zs_26
  refine hA.1 1 cells slots S (lw_Lt t) 583 _ 584 (lw_Lt t) [.ref 1] rfl ?_
  refine lw_ld hA (a := 6 * t) (k := 1) (n := 4) (pc5 := 589) hs (by omega) hL rfl rfl ?_
  refine lw_ld hA (a := 6 * t) (k := 2) (n := 4) (pc5 := 595) hs (by omega) hL rfl rfl ?_
  refine lw_bool hA (pT := 603) (pF := 599) (pE := 604) rfl rfl rfl ?_
  intro y1 hy1
  refine lw_ld hA (a := 6 * t) (k := 3) (n := 4) (pc5 := 609) hs (by omega) hL rfl rfl ?_
  refine lw_ld hA (a := 6 * t) (k := 4) (n := 4) (pc5 := 615) hs (by omega) hL rfl rfl ?_
  refine lw_call hA (i := 83) (j := 13) (M' := mt_13) [.inl (xs (6 * t + 4)).toInt, .inl (xs (6 * t + 3)).toInt, .inl y1, .inl (xs (6 * t + 1)).toInt] [] rfl rfl rfl rfl zs_1 rfl (by decide) (Nat.le_of_ble_eq_true rfl) hz (c_law (by decide) hi hg (hX _) hy1 (hX _) (hX _)) ?_
  rintro r1 S1 H1 hz1 hk1 ⟨⟨q1, rfl⟩, hi1, hg1, hs1, ht1⟩
  have hv1 : S1.1 = lwc L xs := hk1.1.trans hs
  refine hA.1 1 cells slots S1 (lw_Lt t) 619 _ 620 (lw_Lt t) [] rfl ?_
  refine hA.1 1 cells slots S1 (lw_Lt t) 620 _ 621 (lw_Lt t) [.ref 1826] rfl ?_
  refine lw_ld hA (a := 6 * t) (k := 1) (n := 4) (pc5 := 626) hv1 (by omega) hL rfl rfl ?_
  refine lw_ld hA (a := 6 * t) (k := 2) (n := 4) (pc5 := 632) hv1 (by omega) hL rfl rfl ?_
  refine lw_bool hA (pT := 640) (pF := 636) (pE := 641) rfl rfl rfl ?_
  intro y2 hy2
  refine lw_ld hA (a := 6 * t) (k := 3) (n := 4) (pc5 := 646) hv1 (by omega) hL rfl rfl ?_
  refine lw_ld hA (a := 6 * t) (k := 4) (n := 4) (pc5 := 652) hv1 (by omega) hL rfl rfl ?_
  refine lw_call hA (i := 87) (j := 243) (M' := mt_243) [.inl (xs (6 * t + 4)).toInt, .inl (xs (6 * t + 3)).toInt, .inl y2, .inl (xs (6 * t + 1)).toInt] [] rfl rfl rfl rfl z26 rfl (by decide) (Nat.le_of_ble_eq_true rfl) hz1 (r_law (by decide) hi1 hg1 (hX _) hy2 (hX _) (hX _)) ?_
  rintro r2 S2 H2 hz2 hk2 ⟨⟨q2, rfl⟩, hi2, hg2, hs2, ht2⟩
  refine hA.1 1 cells slots S2 (lw_Lt t) 656 _ 657 (lw_Lt t) [] rfl ?_
  refine hA.1 1 cells slots S2 (lw_Lt t) 657 _ 986 (lw_Lt t) [] rfl ?_
  exact kk cells slots S2 H2 (by omega) (by omega) (LI_keep hI hk1 hk2 hz2 hi2 hg2 (by omega))
set_option maxRecDepth 100000 in
set_option maxHeartbeats 4000000 in
theorem lt_13 {C N : Nat} {A : lwT} (hA : lwA C N A) {cells slots : Nat} {S : am_S} {H : hp} {xs : Nat → Int32} {L t : Nat} (hL : L ≤ 3072) (ht : 6 * t + 6 ≤ L) (hI : LI xs L S H) (kk : lwK A xs L t cells slots) : A cells slots S (lw_Lt t) 660 [] := by
  obtain ⟨hz, hi, hg, hq, hs, -, -⟩ := id hI
  have hX : ∀ j, -2147483648 ≤ (xs j).toInt ∧ (xs j).toInt ≤ 2147483647 := fun j => z_int _
  obtain ⟨d26, z26⟩ := zs_26
  refine hA.1 1 cells slots S (lw_Lt t) 660 _ 661 (lw_Lt t) [.ref 1] rfl ?_
  refine lw_ld hA (a := 6 * t) (k := 1) (n := 4) (pc5 := 666) hs (by omega) hL rfl rfl ?_
  refine lw_ld hA (a := 6 * t) (k := 2) (n := 4) (pc5 := 672) hs (by omega) hL rfl rfl ?_
  refine lw_bool hA (pT := 680) (pF := 676) (pE := 681) rfl rfl rfl ?_
  intro y1 hy1
  refine lw_ld hA (a := 6 * t) (k := 3) (n := 4) (pc5 := 686) hs (by omega) hL rfl rfl ?_
  refine lw_ld hA (a := 6 * t) (k := 4) (n := 4) (pc5 := 692) hs (by omega) hL rfl rfl ?_
  refine lw_call hA (i := 88) (j := 14) (M' := mt_14) [.inl (xs (6 * t + 4)).toInt, .inl (xs (6 * t + 3)).toInt, .inl y1, .inl (xs (6 * t + 1)).toInt] [] rfl rfl rfl rfl zs_1 rfl (by decide) (Nat.le_of_ble_eq_true rfl) hz (c_hypothesis (by decide) hi hg (hX _) hy1 (hX _) (hX _)) ?_
  rintro r1 S1 H1 hz1 hk1 ⟨⟨q1, rfl⟩, hi1, hg1, hs1, ht1⟩
  have hv1 : S1.1 = lwc L xs := hk1.1.trans hs
  refine hA.1 1 cells slots S1 (lw_Lt t) 696 _ 697 (lw_Lt t) [] rfl ?_
  refine hA.1 1 cells slots S1 (lw_Lt t) 697 _ 698 (lw_Lt t) [.ref 1826] rfl ?_
  refine lw_ld hA (a := 6 * t) (k := 1) (n := 4) (pc5 := 703) hv1 (by omega) hL rfl rfl ?_
  refine lw_ld hA (a := 6 * t) (k := 2) (n := 4) (pc5 := 709) hv1 (by omega) hL rfl rfl ?_
  refine lw_bool hA (pT := 717) (pF := 713) (pE := 718) rfl rfl rfl ?_
  intro y2 hy2
  refine lw_ld hA (a := 6 * t) (k := 3) (n := 4) (pc5 := 723) hv1 (by omega) hL rfl rfl ?_
  refine lw_ld hA (a := 6 * t) (k := 4) (n := 4) (pc5 := 729) hv1 (by omega) hL rfl rfl ?_
  refine lw_call hA (i := 91) (j := 245) (M' := mt_245) [.inl (xs (6 * t + 4)).toInt, .inl (xs (6 * t + 3)).toInt, .inl y2, .inl (xs (6 * t + 1)).toInt] [] rfl rfl rfl rfl z26 rfl (by decide) (Nat.le_of_ble_eq_true rfl) hz1 (r_hypothesis (by decide) hi1 hg1 (hX _) hy2 (hX _) (hX _)) ?_
  rintro r2 S2 H2 hz2 hk2 ⟨⟨q2, rfl⟩, hi2, hg2, hs2, ht2⟩
  refine hA.1 1 cells slots S2 (lw_Lt t) 733 _ 734 (lw_Lt t) [] rfl ?_
  refine hA.1 1 cells slots S2 (lw_Lt t) 734 _ 986 (lw_Lt t) [] rfl ?_
  exact kk cells slots S2 H2 (by omega) (by omega) (LI_keep hI hk1 hk2 hz2 hi2 hg2 (by omega))
set_option maxRecDepth 100000 in
set_option maxHeartbeats 4000000 in
theorem lt_14 {C N : Nat} {A : lwT} (hA : lwA C N A) {cells slots : Nat} {S : am_S} {H : hp} {xs : Nat → Int32} {L t : Nat} (hL : L ≤ 3072) (ht : 6 * t + 6 ≤ L) (hI : LI xs L S H) (kk : lwK A xs L t cells slots) : A cells slots S (lw_Lt t) 737 [] := by
  obtain ⟨hz, hi, hg, hq, hs, -, -⟩ := id hI
  have hX : ∀ j, -2147483648 ≤ (xs j).toInt ∧ (xs j).toInt ≤ 2147483647 := fun j => z_int _
  obtain ⟨d26, z26⟩ := zs_26
  refine hA.1 1 cells slots S (lw_Lt t) 737 _ 738 (lw_Lt t) [.ref 1] rfl ?_
  refine lw_ld hA (a := 6 * t) (k := 1) (n := 4) (pc5 := 743) hs (by omega) hL rfl rfl ?_
  refine lw_call hA (i := 92) (j := 15) (M' := mt_15) [.inl (xs (6 * t + 1)).toInt] [] rfl rfl rfl rfl zs_1 rfl (by decide) (Nat.le_of_ble_eq_true rfl) hz (c_induction (by decide) hi hg (hX _)) ?_
  rintro r1 S1 H1 hz1 hk1 ⟨⟨q1, rfl⟩, hi1, hg1, hs1, ht1⟩
  have hv1 : S1.1 = lwc L xs := hk1.1.trans hs
  refine hA.1 1 cells slots S1 (lw_Lt t) 747 _ 748 (lw_Lt t) [] rfl ?_
  refine hA.1 1 cells slots S1 (lw_Lt t) 748 _ 749 (lw_Lt t) [.ref 1826] rfl ?_
  refine lw_ld hA (a := 6 * t) (k := 1) (n := 4) (pc5 := 754) hv1 (by omega) hL rfl rfl ?_
  refine lw_call hA (i := 95) (j := 252) (M' := mt_252) [.inl (xs (6 * t + 1)).toInt] [] rfl rfl rfl rfl z26 rfl (by decide) (Nat.le_of_ble_eq_true rfl) hz1 (r_induction (by decide) hi1 hg1 (hX _)) ?_
  rintro r2 S2 H2 hz2 hk2 ⟨⟨q2, rfl⟩, hi2, hg2, hs2, ht2⟩
  refine hA.1 1 cells slots S2 (lw_Lt t) 758 _ 759 (lw_Lt t) [] rfl ?_
  refine hA.1 1 cells slots S2 (lw_Lt t) 759 _ 986 (lw_Lt t) [] rfl ?_
  exact kk cells slots S2 H2 (by omega) (by omega) (LI_keep hI hk1 hk2 hz2 hi2 hg2 (by omega))
set_option maxRecDepth 100000 in
set_option maxHeartbeats 4000000 in
theorem lt_15 {C N : Nat} {A : lwT} (hA : lwA C N A) {cells slots : Nat} {S : am_S} {H : hp} {xs : Nat → Int32} {L t : Nat} (hL : L ≤ 3072) (ht : 6 * t + 6 ≤ L) (hI : LI xs L S H) (kk : lwK A xs L t cells slots) : A cells slots S (lw_Lt t) 762 [] := by
  obtain ⟨hz, hi, hg, hq, hs, -, -⟩ := id hI
  have hX : ∀ j, -2147483648 ≤ (xs j).toInt ∧ (xs j).toInt ≤ 2147483647 := fun j => z_int _
  obtain ⟨d26, z26⟩ := zs_26
  refine hA.1 1 cells slots S (lw_Lt t) 762 _ 763 (lw_Lt t) [.ref 1] rfl ?_
  refine lw_ld hA (a := 6 * t) (k := 1) (n := 4) (pc5 := 768) hs (by omega) hL rfl rfl ?_
  refine lw_ld hA (a := 6 * t) (k := 2) (n := 4) (pc5 := 774) hs (by omega) hL rfl rfl ?_
  refine lw_call hA (i := 96) (j := 16) (M' := mt_16) [.inl (xs (6 * t + 2)).toInt, .inl (xs (6 * t + 1)).toInt] [] rfl rfl rfl rfl zs_1 rfl (by decide) (Nat.le_of_ble_eq_true rfl) hz (c_cases (by decide) hi hg (hX _) (hX _)) ?_
  rintro r1 S1 H1 hz1 hk1 ⟨⟨q1, rfl⟩, hi1, hg1, hs1, ht1⟩
  have hv1 : S1.1 = lwc L xs := hk1.1.trans hs
  refine hA.1 1 cells slots S1 (lw_Lt t) 778 _ 779 (lw_Lt t) [] rfl ?_
  refine hA.1 1 cells slots S1 (lw_Lt t) 779 _ 780 (lw_Lt t) [.ref 1826] rfl ?_
  refine lw_ld hA (a := 6 * t) (k := 1) (n := 4) (pc5 := 785) hv1 (by omega) hL rfl rfl ?_
  refine lw_ld hA (a := 6 * t) (k := 2) (n := 4) (pc5 := 791) hv1 (by omega) hL rfl rfl ?_
  refine lw_call hA (i := 99) (j := 255) (M' := mt_255) [.inl (xs (6 * t + 2)).toInt, .inl (xs (6 * t + 1)).toInt] [] rfl rfl rfl rfl z26 rfl (by decide) (Nat.le_of_ble_eq_true rfl) hz1 (r_cases (by decide) hi1 hg1 (hX _) (hX _)) ?_
  rintro r2 S2 H2 hz2 hk2 ⟨⟨q2, rfl⟩, hi2, hg2, hs2, ht2⟩
  refine hA.1 1 cells slots S2 (lw_Lt t) 795 _ 796 (lw_Lt t) [] rfl ?_
  refine hA.1 1 cells slots S2 (lw_Lt t) 796 _ 986 (lw_Lt t) [] rfl ?_
  exact kk cells slots S2 H2 (by omega) (by omega) (LI_keep hI hk1 hk2 hz2 hi2 hg2 (by omega))
set_option maxRecDepth 100000 in
set_option maxHeartbeats 4000000 in
theorem lt_16 {C N : Nat} {A : lwT} (hA : lwA C N A) {cells slots : Nat} {S : am_S} {H : hp} {xs : Nat → Int32} {L t : Nat} (hL : L ≤ 3072) (ht : 6 * t + 6 ≤ L) (hI : LI xs L S H) (kk : lwK A xs L t cells slots) : A cells slots S (lw_Lt t) 799 [] := by
  obtain ⟨hz, hi, hg, hq, hs, -, -⟩ := id hI
  have hX : ∀ j, -2147483648 ≤ (xs j).toInt ∧ (xs j).toInt ≤ 2147483647 := fun j => z_int _
  obtain ⟨d26, z26⟩ := zs_26
  refine hA.1 1 cells slots S (lw_Lt t) 799 _ 800 (lw_Lt t) [.ref 1] rfl ?_
  refine lw_call hA (i := 100) (j := 17) (M' := mt_17) [] [] rfl rfl rfl rfl zs_1 rfl (by decide) (Nat.le_of_ble_eq_true rfl) hz (c_same (by decide) hi hg ) ?_
  rintro r1 S1 H1 hz1 hk1 ⟨⟨q1, rfl⟩, hi1, hg1, hs1, ht1⟩
  have hv1 : S1.1 = lwc L xs := hk1.1.trans hs
  refine hA.1 1 cells slots S1 (lw_Lt t) 803 _ 804 (lw_Lt t) [] rfl ?_
  refine hA.1 1 cells slots S1 (lw_Lt t) 804 _ 805 (lw_Lt t) [.ref 1826] rfl ?_
  refine lw_call hA (i := 103) (j := 261) (M' := mt_261) [] [] rfl rfl rfl rfl z26 rfl (by decide) (Nat.le_of_ble_eq_true rfl) hz1 (r_same (by decide) hi1 hg1 ) ?_
  rintro r2 S2 H2 hz2 hk2 ⟨⟨q2, rfl⟩, hi2, hg2, hs2, ht2⟩
  refine hA.1 1 cells slots S2 (lw_Lt t) 808 _ 809 (lw_Lt t) [] rfl ?_
  refine hA.1 1 cells slots S2 (lw_Lt t) 809 _ 986 (lw_Lt t) [] rfl ?_
  exact kk cells slots S2 H2 (by omega) (by omega) (LI_keep hI hk1 hk2 hz2 hi2 hg2 (by omega))
set_option maxRecDepth 100000 in
set_option maxHeartbeats 4000000 in
theorem lt_17 {C N : Nat} {A : lwT} (hA : lwA C N A) {cells slots : Nat} {S : am_S} {H : hp} {xs : Nat → Int32} {L t : Nat} (hL : L ≤ 3072) (ht : 6 * t + 6 ≤ L) (hI : LI xs L S H) (kk : lwK A xs L t cells slots) : A cells slots S (lw_Lt t) 812 [] := by
  obtain ⟨hz, hi, hg, hq, hs, -, -⟩ := id hI
  have hX : ∀ j, -2147483648 ≤ (xs j).toInt ∧ (xs j).toInt ≤ 2147483647 := fun j => z_int _
  obtain ⟨d26, z26⟩ := zs_26
  refine hA.1 1 cells slots S (lw_Lt t) 812 _ 813 (lw_Lt t) [.ref 1] rfl ?_
  refine lw_call hA (i := 104) (j := 18) (M' := mt_18) [] [] rfl rfl rfl rfl zs_1 rfl (by decide) (Nat.le_of_ble_eq_true rfl) hz (c_parts (by decide) hi hg ) ?_
  rintro r1 S1 H1 hz1 hk1 ⟨⟨q1, rfl⟩, hi1, hg1, hs1, ht1⟩
  have hv1 : S1.1 = lwc L xs := hk1.1.trans hs
  refine hA.1 1 cells slots S1 (lw_Lt t) 816 _ 817 (lw_Lt t) [] rfl ?_
  refine hA.1 1 cells slots S1 (lw_Lt t) 817 _ 818 (lw_Lt t) [.ref 1826] rfl ?_
  refine lw_call hA (i := 107) (j := 262) (M' := mt_262) [] [] rfl rfl rfl rfl z26 rfl (by decide) (Nat.le_of_ble_eq_true rfl) hz1 (r_parts (by decide) hi1 hg1 ) ?_
  rintro r2 S2 H2 hz2 hk2 ⟨⟨q2, rfl⟩, hi2, hg2, hs2, ht2⟩
  refine hA.1 1 cells slots S2 (lw_Lt t) 821 _ 822 (lw_Lt t) [] rfl ?_
  refine hA.1 1 cells slots S2 (lw_Lt t) 822 _ 986 (lw_Lt t) [] rfl ?_
  exact kk cells slots S2 H2 (by omega) (by omega) (LI_keep hI hk1 hk2 hz2 hi2 hg2 (by omega))
set_option maxRecDepth 100000 in
set_option maxHeartbeats 4000000 in
theorem lt_18 {C N : Nat} {A : lwT} (hA : lwA C N A) {cells slots : Nat} {S : am_S} {H : hp} {xs : Nat → Int32} {L t : Nat} (hL : L ≤ 3072) (ht : 6 * t + 6 ≤ L) (hI : LI xs L S H) (kk : lwK A xs L t cells slots) : A cells slots S (lw_Lt t) 825 [] := by
  obtain ⟨hz, hi, hg, hq, hs, -, -⟩ := id hI
  have hX : ∀ j, -2147483648 ≤ (xs j).toInt ∧ (xs j).toInt ≤ 2147483647 := fun j => z_int _
  obtain ⟨d26, z26⟩ := zs_26
  refine hA.1 1 cells slots S (lw_Lt t) 825 _ 826 (lw_Lt t) [.ref 1] rfl ?_
  refine lw_ld hA (a := 6 * t) (k := 1) (n := 4) (pc5 := 831) hs (by omega) hL rfl rfl ?_
  refine lw_call hA (i := 108) (j := 19) (M' := mt_19) [.inl (xs (6 * t + 1)).toInt] [] rfl rfl rfl rfl zs_1 rfl (by decide) (Nat.le_of_ble_eq_true rfl) hz (c_search (by decide) hi hg (hX _)) ?_
  rintro r1 S1 H1 hz1 hk1 ⟨⟨q1, rfl⟩, hi1, hg1, hs1, ht1⟩
  have hv1 : S1.1 = lwc L xs := hk1.1.trans hs
  refine hA.1 1 cells slots S1 (lw_Lt t) 835 _ 836 (lw_Lt t) [] rfl ?_
  refine hA.1 1 cells slots S1 (lw_Lt t) 836 _ 837 (lw_Lt t) [.ref 1826] rfl ?_
  refine lw_ld hA (a := 6 * t) (k := 1) (n := 4) (pc5 := 842) hv1 (by omega) hL rfl rfl ?_
  refine lw_call hA (i := 111) (j := 266) (M' := mt_266) [.inl (xs (6 * t + 1)).toInt] [] rfl rfl rfl rfl z26 rfl (by decide) (Nat.le_of_ble_eq_true rfl) hz1 (r_search (by decide) hi1 hg1 (hX _)) ?_
  rintro r2 S2 H2 hz2 hk2 ⟨⟨q2, rfl⟩, hi2, hg2, hs2, ht2⟩
  refine hA.1 1 cells slots S2 (lw_Lt t) 846 _ 847 (lw_Lt t) [] rfl ?_
  refine hA.1 1 cells slots S2 (lw_Lt t) 847 _ 986 (lw_Lt t) [] rfl ?_
  exact kk cells slots S2 H2 (by omega) (by omega) (LI_keep hI hk1 hk2 hz2 hi2 hg2 (by omega))
set_option maxRecDepth 100000 in
set_option maxHeartbeats 4000000 in
theorem lt_19 {C N : Nat} {A : lwT} (hA : lwA C N A) {cells slots : Nat} {S : am_S} {H : hp} {xs : Nat → Int32} {L t : Nat} (hL : L ≤ 3072) (ht : 6 * t + 6 ≤ L) (hI : LI xs L S H) (kk : lwK A xs L t cells slots) : A cells slots S (lw_Lt t) 850 [] := by
  obtain ⟨hz, hi, hg, hq, hs, -, -⟩ := id hI
  have hX : ∀ j, -2147483648 ≤ (xs j).toInt ∧ (xs j).toInt ≤ 2147483647 := fun j => z_int _
  obtain ⟨d26, z26⟩ := zs_26
  refine hA.1 1 cells slots S (lw_Lt t) 850 _ 851 (lw_Lt t) [.ref 1] rfl ?_
  refine lw_ld hA (a := 6 * t) (k := 1) (n := 4) (pc5 := 856) hs (by omega) hL rfl rfl ?_
  refine lw_ld hA (a := 6 * t) (k := 2) (n := 4) (pc5 := 862) hs (by omega) hL rfl rfl ?_
  refine lw_call hA (i := 112) (j := 20) (M' := mt_20) [.inl (xs (6 * t + 2)).toInt, .inl (xs (6 * t + 1)).toInt] [] rfl rfl rfl rfl zs_1 rfl (by decide) (Nat.le_of_ble_eq_true rfl) hz (c_show (by decide) hi hg (hX _) (hX _)) ?_
  rintro r1 S1 H1 hz1 hk1 ⟨⟨q1, rfl⟩, hi1, hg1, hs1, ht1⟩
  have hv1 : S1.1 = lwc L xs := hk1.1.trans hs
  refine hA.1 1 cells slots S1 (lw_Lt t) 866 _ 867 (lw_Lt t) [] rfl ?_
  refine hA.1 1 cells slots S1 (lw_Lt t) 867 _ 868 (lw_Lt t) [.ref 1826] rfl ?_
  refine lw_ld hA (a := 6 * t) (k := 1) (n := 4) (pc5 := 873) hv1 (by omega) hL rfl rfl ?_
  refine lw_ld hA (a := 6 * t) (k := 2) (n := 4) (pc5 := 879) hv1 (by omega) hL rfl rfl ?_
  refine lw_call hA (i := 115) (j := 270) (M' := mt_270) [.inl (xs (6 * t + 2)).toInt, .inl (xs (6 * t + 1)).toInt] [] rfl rfl rfl rfl z26 rfl (by decide) (Nat.le_of_ble_eq_true rfl) hz1 (r_show (by decide) hi1 hg1 (hX _) (hX _)) ?_
  rintro r2 S2 H2 hz2 hk2 ⟨⟨q2, rfl⟩, hi2, hg2, hs2, ht2⟩
  refine hA.1 1 cells slots S2 (lw_Lt t) 883 _ 884 (lw_Lt t) [] rfl ?_
  refine hA.1 1 cells slots S2 (lw_Lt t) 884 _ 986 (lw_Lt t) [] rfl ?_
  exact kk cells slots S2 H2 (by omega) (by omega) (LI_keep hI hk1 hk2 hz2 hi2 hg2 (by omega))
set_option maxRecDepth 100000 in
set_option maxHeartbeats 4000000 in
theorem lt_20 {C N : Nat} {A : lwT} (hA : lwA C N A) {cells slots : Nat} {S : am_S} {H : hp} {xs : Nat → Int32} {L t : Nat} (hL : L ≤ 3072) (ht : 6 * t + 6 ≤ L) (hI : LI xs L S H) (kk : lwK A xs L t cells slots) : A cells slots S (lw_Lt t) 887 [] := by
  obtain ⟨hz, hi, hg, hq, hs, -, -⟩ := id hI
  have hX : ∀ j, -2147483648 ≤ (xs j).toInt ∧ (xs j).toInt ≤ 2147483647 := fun j => z_int _
  obtain ⟨d26, z26⟩ := zs_26
  refine hA.1 1 cells slots S (lw_Lt t) 887 _ 888 (lw_Lt t) [.ref 1] rfl ?_
  refine lw_ld hA (a := 6 * t) (k := 1) (n := 4) (pc5 := 893) hs (by omega) hL rfl rfl ?_
  refine lw_ld hA (a := 6 * t) (k := 2) (n := 4) (pc5 := 899) hs (by omega) hL rfl rfl ?_
  refine lw_call hA (i := 116) (j := 21) (M' := mt_21) [.inl (xs (6 * t + 2)).toInt, .inl (xs (6 * t + 1)).toInt] [] rfl rfl rfl rfl zs_1 rfl (by decide) (Nat.le_of_ble_eq_true rfl) hz (c_showHypothesis (by decide) hi hg (hX _) (hX _)) ?_
  rintro r1 S1 H1 hz1 hk1 ⟨⟨q1, rfl⟩, hi1, hg1, hs1, ht1⟩
  have hv1 : S1.1 = lwc L xs := hk1.1.trans hs
  refine hA.1 1 cells slots S1 (lw_Lt t) 903 _ 904 (lw_Lt t) [] rfl ?_
  refine hA.1 1 cells slots S1 (lw_Lt t) 904 _ 905 (lw_Lt t) [.ref 1826] rfl ?_
  refine lw_ld hA (a := 6 * t) (k := 1) (n := 4) (pc5 := 910) hv1 (by omega) hL rfl rfl ?_
  refine lw_ld hA (a := 6 * t) (k := 2) (n := 4) (pc5 := 916) hv1 (by omega) hL rfl rfl ?_
  refine lw_call hA (i := 119) (j := 271) (M' := mt_271) [.inl (xs (6 * t + 2)).toInt, .inl (xs (6 * t + 1)).toInt] [] rfl rfl rfl rfl z26 rfl (by decide) (Nat.le_of_ble_eq_true rfl) hz1 (r_showHypothesis (by decide) hi1 hg1 (hX _) (hX _)) ?_
  rintro r2 S2 H2 hz2 hk2 ⟨⟨q2, rfl⟩, hi2, hg2, hs2, ht2⟩
  refine hA.1 1 cells slots S2 (lw_Lt t) 920 _ 921 (lw_Lt t) [] rfl ?_
  refine hA.1 1 cells slots S2 (lw_Lt t) 921 _ 986 (lw_Lt t) [] rfl ?_
  exact kk cells slots S2 H2 (by omega) (by omega) (LI_keep hI hk1 hk2 hz2 hi2 hg2 (by omega))
set_option maxRecDepth 100000 in
set_option maxHeartbeats 4000000 in
theorem lt_21 {C N : Nat} {A : lwT} (hA : lwA C N A) {cells slots : Nat} {S : am_S} {H : hp} {xs : Nat → Int32} {L t : Nat} (hL : L ≤ 3072) (ht : 6 * t + 6 ≤ L) (hI : LI xs L S H) (kk : lwK A xs L t cells slots) : A cells slots S (lw_Lt t) 924 [] := by
  obtain ⟨hz, hi, hg, hq, hs, -, -⟩ := id hI
  have hX : ∀ j, -2147483648 ≤ (xs j).toInt ∧ (xs j).toInt ≤ 2147483647 := fun j => z_int _
  obtain ⟨d26, z26⟩ := zs_26
  refine hA.1 1 cells slots S (lw_Lt t) 924 _ 925 (lw_Lt t) [.ref 1] rfl ?_
  refine lw_ld hA (a := 6 * t) (k := 1) (n := 4) (pc5 := 930) hs (by omega) hL rfl rfl ?_
  refine lw_ld hA (a := 6 * t) (k := 2) (n := 4) (pc5 := 936) hs (by omega) hL rfl rfl ?_
  refine lw_call hA (i := 120) (j := 22) (M' := mt_22) [.inl (xs (6 * t + 2)).toInt, .inl (xs (6 * t + 1)).toInt] [] rfl rfl rfl rfl zs_1 rfl (by decide) (Nat.le_of_ble_eq_true rfl) hz (c_showLaw (by decide) hi hg (hX _) (hX _)) ?_
  rintro r1 S1 H1 hz1 hk1 ⟨⟨q1, rfl⟩, hi1, hg1, hs1, ht1⟩
  have hv1 : S1.1 = lwc L xs := hk1.1.trans hs
  refine hA.1 1 cells slots S1 (lw_Lt t) 940 _ 941 (lw_Lt t) [] rfl ?_
  refine hA.1 1 cells slots S1 (lw_Lt t) 941 _ 942 (lw_Lt t) [.ref 1826] rfl ?_
  refine lw_ld hA (a := 6 * t) (k := 1) (n := 4) (pc5 := 947) hv1 (by omega) hL rfl rfl ?_
  refine lw_ld hA (a := 6 * t) (k := 2) (n := 4) (pc5 := 953) hv1 (by omega) hL rfl rfl ?_
  refine lw_call hA (i := 123) (j := 272) (M' := mt_272) [.inl (xs (6 * t + 2)).toInt, .inl (xs (6 * t + 1)).toInt] [] rfl rfl rfl rfl z26 rfl (by decide) (Nat.le_of_ble_eq_true rfl) hz1 (r_showLaw (by decide) hi1 hg1 (hX _) (hX _)) ?_
  rintro r2 S2 H2 hz2 hk2 ⟨⟨q2, rfl⟩, hi2, hg2, hs2, ht2⟩
  refine hA.1 1 cells slots S2 (lw_Lt t) 957 _ 958 (lw_Lt t) [] rfl ?_
  refine hA.1 1 cells slots S2 (lw_Lt t) 958 _ 986 (lw_Lt t) [] rfl ?_
  exact kk cells slots S2 H2 (by omega) (by omega) (LI_keep hI hk1 hk2 hz2 hi2 hg2 (by omega))
set_option maxRecDepth 100000 in
set_option maxHeartbeats 4000000 in
theorem lt_22 {C N : Nat} {A : lwT} (hA : lwA C N A) {cells slots : Nat} {S : am_S} {H : hp} {xs : Nat → Int32} {L t : Nat} (hL : L ≤ 3072) (ht : 6 * t + 6 ≤ L) (hI : LI xs L S H) (kk : lwK A xs L t cells slots) : A cells slots S (lw_Lt t) 961 [] := by
  obtain ⟨hz, hi, hg, hq, hs, -, -⟩ := id hI
  have hX : ∀ j, -2147483648 ≤ (xs j).toInt ∧ (xs j).toInt ≤ 2147483647 := fun j => z_int _
  obtain ⟨d26, z26⟩ := zs_26
  refine hA.1 1 cells slots S (lw_Lt t) 961 _ 962 (lw_Lt t) [.ref 1] rfl ?_
  refine lw_ld hA (a := 6 * t) (k := 1) (n := 4) (pc5 := 967) hs (by omega) hL rfl rfl ?_
  refine lw_call hA (i := 124) (j := 23) (M' := mt_23) [.inl (xs (6 * t + 1)).toInt] [] rfl rfl rfl rfl zs_1 rfl (by decide) (Nat.le_of_ble_eq_true rfl) hz (c_printed (by decide) hi hg (hX _)) ?_
  rintro r1 S1 H1 hz1 hk1 ⟨⟨q1, rfl⟩, hi1, hg1, hs1, ht1⟩
  have hv1 : S1.1 = lwc L xs := hk1.1.trans hs
  refine hA.1 1 cells slots S1 (lw_Lt t) 971 _ 972 (lw_Lt t) [] rfl ?_
  refine hA.1 1 cells slots S1 (lw_Lt t) 972 _ 973 (lw_Lt t) [.ref 1826] rfl ?_
  refine lw_ld hA (a := 6 * t) (k := 1) (n := 4) (pc5 := 978) hv1 (by omega) hL rfl rfl ?_
  refine lw_call hA (i := 127) (j := 207) (M' := mt_207) [.inl (xs (6 * t + 1)).toInt] [] rfl rfl rfl rfl z26 rfl (by decide) (Nat.le_of_ble_eq_true rfl) hz1 (r_printed (by decide) hi1 hg1 (hX _)) ?_
  rintro r2 S2 H2 hz2 hk2 ⟨⟨q2, rfl⟩, hi2, hg2, hs2, ht2⟩
  refine hA.1 1 cells slots S2 (lw_Lt t) 982 _ 983 (lw_Lt t) [] rfl ?_
  refine hA.1 1 cells slots S2 (lw_Lt t) 983 _ 986 (lw_Lt t) [] rfl ?_
  exact kk cells slots S2 H2 (by omega) (by omega) (LI_keep hI hk1 hk2 hz2 hi2 hg2 (by omega))
