/-! the law's turns: cases 2 to 22 -/
set_option maxRecDepth 100000 in
set_option maxHeartbeats 4000000 in
theorem lt_2 {C N : Nat} {A : lwT} (hA : lwA C N A) {cells slots : Nat} {S : am_S} {H : hp} {xs : Nat → Int32} {L t : Nat} (hL : L ≤ 3072) (ht : 6 * t + 6 ≤ L) (hI : LI xs L S H) (kk : lwK A xs L t cells slots) : A cells slots S (lw_Lt t) 260 [] := by
  obtain ⟨hz, hi, hg, hq, hs, -, -⟩ := id hI
  have hX : ∀ j, -2147483648 ≤ (xs j).toInt ∧ (xs j).toInt ≤ 2147483647 := fun j => z_int _
  obtain ⟨d26, z26⟩ := zs_26
  refine hA.1 1 cells slots S (lw_Lt t) 260 _ 261 (lw_Lt t) [.ref 1] rfl ?_
  refine lw_call hA (i := 39) (j := 3) (M' := mt_3) [] [] rfl rfl rfl rfl zs_1 rfl (by decide) (Nat.le_of_ble_eq_true rfl) hz (c_read (by decide) hi hg ) ?_
  rintro r1 S1 H1 hz1 hk1 ⟨⟨q1, rfl⟩, hi1, hg1, hs1, ht1⟩
  have hv1 : S1.1 = lwc L xs := hk1.1.trans hs
  refine hA.1 1 cells slots S1 (lw_Lt t) 264 _ 265 (lw_Lt t) [] rfl ?_
  refine hA.1 1 cells slots S1 (lw_Lt t) 265 _ 266 (lw_Lt t) [.ref 1826] rfl ?_
  refine lw_call hA (i := 42) (j := 192) (M' := mt_192) [] [] rfl rfl rfl rfl z26 rfl (by decide) (Nat.le_of_ble_eq_true rfl) hz1 (r_read (by decide) hi1 hg1 ) ?_
  rintro r2 S2 H2 hz2 hk2 ⟨⟨q2, rfl⟩, hi2, hg2, hs2, ht2⟩
  refine hA.1 1 cells slots S2 (lw_Lt t) 269 _ 270 (lw_Lt t) [] rfl ?_
  refine hA.1 1 cells slots S2 (lw_Lt t) 270 _ 969 (lw_Lt t) [] rfl ?_
  exact kk cells slots S2 H2 (by omega) (by omega) (LI_keep hI hk1 hk2 hz2 hi2 hg2 (by omega))
set_option maxRecDepth 100000 in
set_option maxHeartbeats 4000000 in
theorem lt_3 {C N : Nat} {A : lwT} (hA : lwA C N A) {cells slots : Nat} {S : am_S} {H : hp} {xs : Nat → Int32} {L t : Nat} (hL : L ≤ 3072) (ht : 6 * t + 6 ≤ L) (hI : LI xs L S H) (kk : lwK A xs L t cells slots) : A cells slots S (lw_Lt t) 273 [] := by
  obtain ⟨hz, hi, hg, hq, hs, -, -⟩ := id hI
  have hX : ∀ j, -2147483648 ≤ (xs j).toInt ∧ (xs j).toInt ≤ 2147483647 := fun j => z_int _
  obtain ⟨d26, z26⟩ := zs_26
  refine hA.1 1 cells slots S (lw_Lt t) 273 _ 274 (lw_Lt t) [.ref 1] rfl ?_
  refine lw_call hA (i := 43) (j := 4) (M' := mt_4) [] [] rfl rfl rfl rfl zs_1 rfl (by decide) (Nat.le_of_ble_eq_true rfl) hz (c_fault (by decide) hi hg ) ?_
  rintro r1 S1 H1 hz1 hk1 ⟨⟨q1, rfl⟩, hi1, hg1, hs1, ht1⟩
  have hv1 : S1.1 = lwc L xs := hk1.1.trans hs
  refine hA.1 1 cells slots S1 (lw_Lt t) 277 _ 278 (lw_Lt t) [] rfl ?_
  refine hA.1 1 cells slots S1 (lw_Lt t) 278 _ 279 (lw_Lt t) [.ref 1826] rfl ?_
  refine lw_call hA (i := 46) (j := 193) (M' := mt_193) [] [] rfl rfl rfl rfl z26 rfl (by decide) (Nat.le_of_ble_eq_true rfl) hz1 (r_fault (by decide) hi1 hg1 ) ?_
  rintro r2 S2 H2 hz2 hk2 ⟨⟨q2, rfl⟩, hi2, hg2, hs2, ht2⟩
  refine hA.1 1 cells slots S2 (lw_Lt t) 282 _ 283 (lw_Lt t) [] rfl ?_
  refine hA.1 1 cells slots S2 (lw_Lt t) 283 _ 969 (lw_Lt t) [] rfl ?_
  exact kk cells slots S2 H2 (by omega) (by omega) (LI_keep hI hk1 hk2 hz2 hi2 hg2 (by omega))
set_option maxRecDepth 100000 in
set_option maxHeartbeats 4000000 in
theorem lt_4 {C N : Nat} {A : lwT} (hA : lwA C N A) {cells slots : Nat} {S : am_S} {H : hp} {xs : Nat → Int32} {L t : Nat} (hL : L ≤ 3072) (ht : 6 * t + 6 ≤ L) (hI : LI xs L S H) (kk : lwK A xs L t cells slots) : A cells slots S (lw_Lt t) 286 [] := by
  obtain ⟨hz, hi, hg, hq, hs, -, -⟩ := id hI
  have hX : ∀ j, -2147483648 ≤ (xs j).toInt ∧ (xs j).toInt ≤ 2147483647 := fun j => z_int _
  obtain ⟨d26, z26⟩ := zs_26
  refine hA.1 1 cells slots S (lw_Lt t) 286 _ 287 (lw_Lt t) [.ref 1] rfl ?_
  refine lw_ld hA (a := 6 * t) (k := 1) (n := 4) (pc5 := 292) hs (by omega) hL rfl rfl ?_
  refine lw_call hA (i := 47) (j := 5) (M' := mt_5) [.inl (xs (6 * t + 1)).toInt] [] rfl rfl rfl rfl zs_1 rfl (by decide) (Nat.le_of_ble_eq_true rfl) hz (c_count (by decide) hi hg (hX _)) ?_
  rintro r1 S1 H1 hz1 hk1 ⟨⟨q1, rfl⟩, hi1, hg1, hs1, ht1⟩
  have hv1 : S1.1 = lwc L xs := hk1.1.trans hs
  refine hA.1 1 cells slots S1 (lw_Lt t) 296 _ 297 (lw_Lt t) [] rfl ?_
  refine hA.1 1 cells slots S1 (lw_Lt t) 297 _ 298 (lw_Lt t) [.ref 1826] rfl ?_
  refine lw_ld hA (a := 6 * t) (k := 1) (n := 4) (pc5 := 303) hv1 (by omega) hL rfl rfl ?_
  refine lw_call hA (i := 51) (j := 194) (M' := mt_194) [.inl (xs (6 * t + 1)).toInt] [] rfl rfl rfl rfl z26 rfl (by decide) (Nat.le_of_ble_eq_true rfl) hz1 (r_count (by decide) hi1 hg1 (hX _)) ?_
  rintro r2 S2 H2 hz2 hk2 ⟨⟨q2, rfl⟩, hi2, hg2, hs2, ht2⟩
  refine hA.1 1 cells slots S2 (lw_Lt t) 307 _ 308 (lw_Lt t) [] rfl ?_
  refine hA.1 1 cells slots S2 (lw_Lt t) 308 _ 969 (lw_Lt t) [] rfl ?_
  exact kk cells slots S2 H2 (by omega) (by omega) (LI_keep hI hk1 hk2 hz2 hi2 hg2 (by omega))
set_option maxRecDepth 100000 in
set_option maxHeartbeats 4000000 in
theorem lt_5 {C N : Nat} {A : lwT} (hA : lwA C N A) {cells slots : Nat} {S : am_S} {H : hp} {xs : Nat → Int32} {L t : Nat} (hL : L ≤ 3072) (ht : 6 * t + 6 ≤ L) (hI : LI xs L S H) (kk : lwK A xs L t cells slots) : A cells slots S (lw_Lt t) 311 [] := by
  obtain ⟨hz, hi, hg, hq, hs, -, -⟩ := id hI
  have hX : ∀ j, -2147483648 ≤ (xs j).toInt ∧ (xs j).toInt ≤ 2147483647 := fun j => z_int _
  obtain ⟨d26, z26⟩ := zs_26
  refine hA.1 1 cells slots S (lw_Lt t) 311 _ 312 (lw_Lt t) [.ref 1] rfl ?_
  refine lw_ld hA (a := 6 * t) (k := 1) (n := 4) (pc5 := 317) hs (by omega) hL rfl rfl ?_
  refine lw_ld hA (a := 6 * t) (k := 2) (n := 4) (pc5 := 323) hs (by omega) hL rfl rfl ?_
  refine lw_call hA (i := 52) (j := 6) (M' := mt_6) [.inl (xs (6 * t + 2)).toInt, .inl (xs (6 * t + 1)).toInt] [] rfl rfl rfl rfl zs_1 rfl (by decide) (Nat.le_of_ble_eq_true rfl) hz (c_about (by decide) hi hg (hX _) (hX _)) ?_
  rintro r1 S1 H1 hz1 hk1 ⟨⟨q1, rfl⟩, hi1, hg1, hs1, ht1⟩
  have hv1 : S1.1 = lwc L xs := hk1.1.trans hs
  refine hA.1 1 cells slots S1 (lw_Lt t) 327 _ 328 (lw_Lt t) [] rfl ?_
  refine hA.1 1 cells slots S1 (lw_Lt t) 328 _ 329 (lw_Lt t) [.ref 1826] rfl ?_
  refine lw_ld hA (a := 6 * t) (k := 1) (n := 4) (pc5 := 334) hv1 (by omega) hL rfl rfl ?_
  refine lw_ld hA (a := 6 * t) (k := 2) (n := 4) (pc5 := 340) hv1 (by omega) hL rfl rfl ?_
  refine lw_call hA (i := 56) (j := 195) (M' := mt_195) [.inl (xs (6 * t + 2)).toInt, .inl (xs (6 * t + 1)).toInt] [] rfl rfl rfl rfl z26 rfl (by decide) (Nat.le_of_ble_eq_true rfl) hz1 (r_about (by decide) hi1 hg1 (hX _) (hX _)) ?_
  rintro r2 S2 H2 hz2 hk2 ⟨⟨q2, rfl⟩, hi2, hg2, hs2, ht2⟩
  refine hA.1 1 cells slots S2 (lw_Lt t) 344 _ 345 (lw_Lt t) [] rfl ?_
  refine hA.1 1 cells slots S2 (lw_Lt t) 345 _ 969 (lw_Lt t) [] rfl ?_
  exact kk cells slots S2 H2 (by omega) (by omega) (LI_keep hI hk1 hk2 hz2 hi2 hg2 (by omega))
set_option maxRecDepth 100000 in
set_option maxHeartbeats 4000000 in
theorem lt_6 {C N : Nat} {A : lwT} (hA : lwA C N A) {cells slots : Nat} {S : am_S} {H : hp} {xs : Nat → Int32} {L t : Nat} (hL : L ≤ 3072) (ht : 6 * t + 6 ≤ L) (hI : LI xs L S H) (kk : lwK A xs L t cells slots) : A cells slots S (lw_Lt t) 348 [] := by
  obtain ⟨hz, hi, hg, hq, hs, -, -⟩ := id hI
  have hX : ∀ j, -2147483648 ≤ (xs j).toInt ∧ (xs j).toInt ≤ 2147483647 := fun j => z_int _
  obtain ⟨d26, z26⟩ := zs_26
  refine hA.1 1 cells slots S (lw_Lt t) 348 _ 349 (lw_Lt t) [.ref 1] rfl ?_
  refine lw_ld hA (a := 6 * t) (k := 1) (n := 4) (pc5 := 354) hs (by omega) hL rfl rfl ?_
  refine lw_call hA (i := 57) (j := 7) (M' := mt_7) [.inl (xs (6 * t + 1)).toInt] [] rfl rfl rfl rfl zs_1 rfl (by decide) (Nat.le_of_ble_eq_true rfl) hz (c_work (by decide) hi hg (hX _)) ?_
  rintro r1 S1 H1 hz1 hk1 ⟨⟨q1, rfl⟩, hi1, hg1, hs1, ht1⟩
  have hv1 : S1.1 = lwc L xs := hk1.1.trans hs
  refine hA.1 1 cells slots S1 (lw_Lt t) 358 _ 359 (lw_Lt t) [] rfl ?_
  refine hA.1 1 cells slots S1 (lw_Lt t) 359 _ 360 (lw_Lt t) [.ref 1826] rfl ?_
  refine lw_ld hA (a := 6 * t) (k := 1) (n := 4) (pc5 := 365) hv1 (by omega) hL rfl rfl ?_
  refine lw_call hA (i := 60) (j := 201) (M' := mt_201) [.inl (xs (6 * t + 1)).toInt] [] rfl rfl rfl rfl z26 rfl (by decide) (Nat.le_of_ble_eq_true rfl) hz1 (r_work (by decide) hi1 hg1 (hX _)) ?_
  rintro r2 S2 H2 hz2 hk2 ⟨⟨q2, rfl⟩, hi2, hg2, hs2, ht2⟩
  refine hA.1 1 cells slots S2 (lw_Lt t) 369 _ 370 (lw_Lt t) [] rfl ?_
  refine hA.1 1 cells slots S2 (lw_Lt t) 370 _ 969 (lw_Lt t) [] rfl ?_
  exact kk cells slots S2 H2 (by omega) (by omega) (LI_keep hI hk1 hk2 hz2 hi2 hg2 (by omega))
set_option maxRecDepth 100000 in
set_option maxHeartbeats 4000000 in
theorem lt_7 {C N : Nat} {A : lwT} (hA : lwA C N A) {cells slots : Nat} {S : am_S} {H : hp} {xs : Nat → Int32} {L t : Nat} (hL : L ≤ 3072) (ht : 6 * t + 6 ≤ L) (hI : LI xs L S H) (kk : lwK A xs L t cells slots) : A cells slots S (lw_Lt t) 373 [] := by
  obtain ⟨hz, hi, hg, hq, hs, -, -⟩ := id hI
  have hX : ∀ j, -2147483648 ≤ (xs j).toInt ∧ (xs j).toInt ≤ 2147483647 := fun j => z_int _
  obtain ⟨d26, z26⟩ := zs_26
  refine hA.1 1 cells slots S (lw_Lt t) 373 _ 374 (lw_Lt t) [.ref 1] rfl ?_
  refine lw_call hA (i := 61) (j := 8) (M' := mt_8) [] [] rfl rfl rfl rfl zs_1 rfl (by decide) (Nat.le_of_ble_eq_true rfl) hz (c_steps (by decide) hi hg ) ?_
  rintro r1 S1 H1 hz1 hk1 ⟨⟨q1, rfl⟩, hi1, hg1, hs1, ht1⟩
  have hv1 : S1.1 = lwc L xs := hk1.1.trans hs
  refine hA.1 1 cells slots S1 (lw_Lt t) 377 _ 378 (lw_Lt t) [] rfl ?_
  refine hA.1 1 cells slots S1 (lw_Lt t) 378 _ 379 (lw_Lt t) [.ref 1826] rfl ?_
  refine lw_call hA (i := 64) (j := 202) (M' := mt_202) [] [] rfl rfl rfl rfl z26 rfl (by decide) (Nat.le_of_ble_eq_true rfl) hz1 (r_steps (by decide) hi1 hg1 ) ?_
  rintro r2 S2 H2 hz2 hk2 ⟨⟨q2, rfl⟩, hi2, hg2, hs2, ht2⟩
  refine hA.1 1 cells slots S2 (lw_Lt t) 382 _ 383 (lw_Lt t) [] rfl ?_
  refine hA.1 1 cells slots S2 (lw_Lt t) 383 _ 969 (lw_Lt t) [] rfl ?_
  exact kk cells slots S2 H2 (by omega) (by omega) (LI_keep hI hk1 hk2 hz2 hi2 hg2 (by omega))
set_option maxRecDepth 100000 in
set_option maxHeartbeats 4000000 in
theorem lt_8 {C N : Nat} {A : lwT} (hA : lwA C N A) {cells slots : Nat} {S : am_S} {H : hp} {xs : Nat → Int32} {L t : Nat} (hL : L ≤ 3072) (ht : 6 * t + 6 ≤ L) (hI : LI xs L S H) (kk : lwK A xs L t cells slots) : A cells slots S (lw_Lt t) 386 [] := by
  obtain ⟨hz, hi, hg, hq, hs, -, -⟩ := id hI
  have hX : ∀ j, -2147483648 ≤ (xs j).toInt ∧ (xs j).toInt ≤ 2147483647 := fun j => z_int _
  obtain ⟨d26, z26⟩ := zs_26
  refine hA.1 1 cells slots S (lw_Lt t) 386 _ 387 (lw_Lt t) [.ref 1] rfl ?_
  refine lw_ld hA (a := 6 * t) (k := 1) (n := 4) (pc5 := 392) hs (by omega) hL rfl rfl ?_
  refine lw_ld hA (a := 6 * t) (k := 2) (n := 4) (pc5 := 398) hs (by omega) hL rfl rfl ?_
  refine lw_ld hA (a := 6 * t) (k := 3) (n := 4) (pc5 := 404) hs (by omega) hL rfl rfl ?_
  refine lw_bool hA (pT := 412) (pF := 408) (pE := 413) rfl rfl rfl ?_
  intro y1 hy1
  refine lw_call hA (i := 65) (j := 9) (M' := mt_9) [.inl y1, .inl (xs (6 * t + 2)).toInt, .inl (xs (6 * t + 1)).toInt] [] rfl rfl rfl rfl zs_1 rfl (by decide) (Nat.le_of_ble_eq_true rfl) hz (c_test (by decide) hi hg (hX _) (hX _) hy1) ?_
  rintro r1 S1 H1 hz1 hk1 ⟨⟨q1, rfl⟩, hi1, hg1, hs1, ht1⟩
  have hv1 : S1.1 = lwc L xs := hk1.1.trans hs
  refine hA.1 1 cells slots S1 (lw_Lt t) 416 _ 417 (lw_Lt t) [] rfl ?_
  refine hA.1 1 cells slots S1 (lw_Lt t) 417 _ 418 (lw_Lt t) [.ref 1826] rfl ?_
  refine lw_ld hA (a := 6 * t) (k := 1) (n := 4) (pc5 := 423) hv1 (by omega) hL rfl rfl ?_
  refine lw_ld hA (a := 6 * t) (k := 2) (n := 4) (pc5 := 429) hv1 (by omega) hL rfl rfl ?_
  refine lw_ld hA (a := 6 * t) (k := 3) (n := 4) (pc5 := 435) hv1 (by omega) hL rfl rfl ?_
  refine lw_bool hA (pT := 443) (pF := 439) (pE := 444) rfl rfl rfl ?_
  intro y2 hy2
  refine lw_call hA (i := 69) (j := 218) (M' := mt_218) [.inl y2, .inl (xs (6 * t + 2)).toInt, .inl (xs (6 * t + 1)).toInt] [] rfl rfl rfl rfl z26 rfl (by decide) (Nat.le_of_ble_eq_true rfl) hz1 (r_test (by decide) hi1 hg1 (hX _) (hX _) hy2) ?_
  rintro r2 S2 H2 hz2 hk2 ⟨⟨q2, rfl⟩, hi2, hg2, hs2, ht2⟩
  refine hA.1 1 cells slots S2 (lw_Lt t) 447 _ 448 (lw_Lt t) [] rfl ?_
  refine hA.1 1 cells slots S2 (lw_Lt t) 448 _ 969 (lw_Lt t) [] rfl ?_
  exact kk cells slots S2 H2 (by omega) (by omega) (LI_keep hI hk1 hk2 hz2 hi2 hg2 (by omega))
set_option maxRecDepth 100000 in
set_option maxHeartbeats 4000000 in
theorem lt_9 {C N : Nat} {A : lwT} (hA : lwA C N A) {cells slots : Nat} {S : am_S} {H : hp} {xs : Nat → Int32} {L t : Nat} (hL : L ≤ 3072) (ht : 6 * t + 6 ≤ L) (hI : LI xs L S H) (kk : lwK A xs L t cells slots) : A cells slots S (lw_Lt t) 451 [] := by
  obtain ⟨hz, hi, hg, hq, hs, -, -⟩ := id hI
  have hX : ∀ j, -2147483648 ≤ (xs j).toInt ∧ (xs j).toInt ≤ 2147483647 := fun j => z_int _
  obtain ⟨d26, z26⟩ := zs_26
  refine hA.1 1 cells slots S (lw_Lt t) 451 _ 452 (lw_Lt t) [.ref 1] rfl ?_
  refine lw_ld hA (a := 6 * t) (k := 1) (n := 4) (pc5 := 457) hs (by omega) hL rfl rfl ?_
  refine lw_call hA (i := 70) (j := 10) (M' := mt_10) [.inl (xs (6 * t + 1)).toInt] [] rfl rfl rfl rfl zs_1 rfl (by decide) (Nat.le_of_ble_eq_true rfl) hz (c_told (by decide) hi hg (hX _)) ?_
  rintro r1 S1 H1 hz1 hk1 ⟨⟨q1, rfl⟩, hi1, hg1, hs1, ht1⟩
  have hv1 : S1.1 = lwc L xs := hk1.1.trans hs
  refine hA.1 1 cells slots S1 (lw_Lt t) 461 _ 462 (lw_Lt t) [] rfl ?_
  refine hA.1 1 cells slots S1 (lw_Lt t) 462 _ 463 (lw_Lt t) [.ref 1826] rfl ?_
  refine lw_ld hA (a := 6 * t) (k := 1) (n := 4) (pc5 := 468) hv1 (by omega) hL rfl rfl ?_
  refine lw_call hA (i := 73) (j := 220) (M' := mt_220) [.inl (xs (6 * t + 1)).toInt] [] rfl rfl rfl rfl z26 rfl (by decide) (Nat.le_of_ble_eq_true rfl) hz1 (r_told (by decide) hi1 hg1 (hX _)) ?_
  rintro r2 S2 H2 hz2 hk2 ⟨⟨q2, rfl⟩, hi2, hg2, hs2, ht2⟩
  refine hA.1 1 cells slots S2 (lw_Lt t) 472 _ 473 (lw_Lt t) [] rfl ?_
  refine hA.1 1 cells slots S2 (lw_Lt t) 473 _ 969 (lw_Lt t) [] rfl ?_
  exact kk cells slots S2 H2 (by omega) (by omega) (LI_keep hI hk1 hk2 hz2 hi2 hg2 (by omega))
set_option maxRecDepth 100000 in
set_option maxHeartbeats 4000000 in
theorem lt_10 {C N : Nat} {A : lwT} (hA : lwA C N A) {cells slots : Nat} {S : am_S} {H : hp} {xs : Nat → Int32} {L t : Nat} (hL : L ≤ 3072) (ht : 6 * t + 6 ≤ L) (hI : LI xs L S H) (kk : lwK A xs L t cells slots) : A cells slots S (lw_Lt t) 476 [] := by
  obtain ⟨hz, hi, hg, hq, hs, -, -⟩ := id hI
  have hX : ∀ j, -2147483648 ≤ (xs j).toInt ∧ (xs j).toInt ≤ 2147483647 := fun j => z_int _
  obtain ⟨d26, z26⟩ := zs_26
  refine hA.1 1 cells slots S (lw_Lt t) 476 _ 477 (lw_Lt t) [.ref 1] rfl ?_
  refine lw_ld hA (a := 6 * t) (k := 1) (n := 4) (pc5 := 482) hs (by omega) hL rfl rfl ?_
  refine lw_ld hA (a := 6 * t) (k := 2) (n := 4) (pc5 := 488) hs (by omega) hL rfl rfl ?_
  refine lw_bool hA (pT := 496) (pF := 492) (pE := 497) rfl rfl rfl ?_
  intro y1 hy1
  refine lw_call hA (i := 74) (j := 11) (M' := mt_11) [.inl y1, .inl (xs (6 * t + 1)).toInt] [] rfl rfl rfl rfl zs_1 rfl (by decide) (Nat.le_of_ble_eq_true rfl) hz (c_begin (by decide) hi hg (hX _) hy1) ?_
  rintro r1 S1 H1 hz1 hk1 ⟨⟨q1, rfl⟩, hi1, hg1, hs1, ht1⟩
  have hv1 : S1.1 = lwc L xs := hk1.1.trans hs
  refine hA.1 1 cells slots S1 (lw_Lt t) 500 _ 501 (lw_Lt t) [] rfl ?_
  refine hA.1 1 cells slots S1 (lw_Lt t) 501 _ 502 (lw_Lt t) [.ref 1826] rfl ?_
  refine lw_ld hA (a := 6 * t) (k := 1) (n := 4) (pc5 := 507) hv1 (by omega) hL rfl rfl ?_
  refine lw_ld hA (a := 6 * t) (k := 2) (n := 4) (pc5 := 513) hv1 (by omega) hL rfl rfl ?_
  refine lw_bool hA (pT := 521) (pF := 517) (pE := 522) rfl rfl rfl ?_
  intro y2 hy2
  refine lw_call hA (i := 78) (j := 227) (M' := mt_227) [.inl y2, .inl (xs (6 * t + 1)).toInt] [] rfl rfl rfl rfl z26 rfl (by decide) (Nat.le_of_ble_eq_true rfl) hz1 (r_begin (by decide) hi1 hg1 (hX _) hy2) ?_
  rintro r2 S2 H2 hz2 hk2 ⟨⟨q2, rfl⟩, hi2, hg2, hs2, ht2⟩
  refine hA.1 1 cells slots S2 (lw_Lt t) 525 _ 526 (lw_Lt t) [] rfl ?_
  refine hA.1 1 cells slots S2 (lw_Lt t) 526 _ 969 (lw_Lt t) [] rfl ?_
  exact kk cells slots S2 H2 (by omega) (by omega) (LI_keep hI hk1 hk2 hz2 hi2 hg2 (by omega))
set_option maxRecDepth 100000 in
set_option maxHeartbeats 4000000 in
theorem lt_11 {C N : Nat} {A : lwT} (hA : lwA C N A) {cells slots : Nat} {S : am_S} {H : hp} {xs : Nat → Int32} {L t : Nat} (hL : L ≤ 3072) (ht : 6 * t + 6 ≤ L) (hI : LI xs L S H) (kk : lwK A xs L t cells slots) : A cells slots S (lw_Lt t) 529 [] := by
  obtain ⟨hz, hi, hg, hq, hs, -, -⟩ := id hI
  have hX : ∀ j, -2147483648 ≤ (xs j).toInt ∧ (xs j).toInt ≤ 2147483647 := fun j => z_int _
  obtain ⟨d26, z26⟩ := zs_26
  refine hA.1 1 cells slots S (lw_Lt t) 529 _ 530 (lw_Lt t) [.ref 1] rfl ?_
  refine lw_ld hA (a := 6 * t) (k := 1) (n := 4) (pc5 := 535) hs (by omega) hL rfl rfl ?_
  refine lw_ld hA (a := 6 * t) (k := 2) (n := 4) (pc5 := 541) hs (by omega) hL rfl rfl ?_
  refine lw_call hA (i := 79) (j := 12) (M' := mt_12) [.inl (xs (6 * t + 2)).toInt, .inl (xs (6 * t + 1)).toInt] [] rfl rfl rfl rfl zs_1 rfl (by decide) (Nat.le_of_ble_eq_true rfl) hz (c_unfold (by decide) hi hg (hX _) (hX _)) ?_
  rintro r1 S1 H1 hz1 hk1 ⟨⟨q1, rfl⟩, hi1, hg1, hs1, ht1⟩
  have hv1 : S1.1 = lwc L xs := hk1.1.trans hs
  refine hA.1 1 cells slots S1 (lw_Lt t) 545 _ 546 (lw_Lt t) [] rfl ?_
  refine hA.1 1 cells slots S1 (lw_Lt t) 546 _ 547 (lw_Lt t) [.ref 1826] rfl ?_
  refine lw_ld hA (a := 6 * t) (k := 1) (n := 4) (pc5 := 552) hv1 (by omega) hL rfl rfl ?_
  refine lw_ld hA (a := 6 * t) (k := 2) (n := 4) (pc5 := 558) hv1 (by omega) hL rfl rfl ?_
  refine lw_call hA (i := 82) (j := 237) (M' := mt_237) [.inl (xs (6 * t + 2)).toInt, .inl (xs (6 * t + 1)).toInt] [] rfl rfl rfl rfl z26 rfl (by decide) (Nat.le_of_ble_eq_true rfl) hz1 (r_unfold (by decide) hi1 hg1 (hX _) (hX _)) ?_
  rintro r2 S2 H2 hz2 hk2 ⟨⟨q2, rfl⟩, hi2, hg2, hs2, ht2⟩
  refine hA.1 1 cells slots S2 (lw_Lt t) 562 _ 563 (lw_Lt t) [] rfl ?_
  refine hA.1 1 cells slots S2 (lw_Lt t) 563 _ 969 (lw_Lt t) [] rfl ?_
  exact kk cells slots S2 H2 (by omega) (by omega) (LI_keep hI hk1 hk2 hz2 hi2 hg2 (by omega))
set_option maxRecDepth 100000 in
set_option maxHeartbeats 4000000 in
theorem lt_12 {C N : Nat} {A : lwT} (hA : lwA C N A) {cells slots : Nat} {S : am_S} {H : hp} {xs : Nat → Int32} {L t : Nat} (hL : L ≤ 3072) (ht : 6 * t + 6 ≤ L) (hI : LI xs L S H) (kk : lwK A xs L t cells slots) : A cells slots S (lw_Lt t) 566 [] := by
  obtain ⟨hz, hi, hg, hq, hs, -, -⟩ := id hI
  have hX : ∀ j, -2147483648 ≤ (xs j).toInt ∧ (xs j).toInt ≤ 2147483647 := fun j => z_int _
  obtain ⟨d26, z26⟩ := zs_26
  refine hA.1 1 cells slots S (lw_Lt t) 566 _ 567 (lw_Lt t) [.ref 1] rfl ?_
  refine lw_ld hA (a := 6 * t) (k := 1) (n := 4) (pc5 := 572) hs (by omega) hL rfl rfl ?_
  refine lw_ld hA (a := 6 * t) (k := 2) (n := 4) (pc5 := 578) hs (by omega) hL rfl rfl ?_
  refine lw_bool hA (pT := 586) (pF := 582) (pE := 587) rfl rfl rfl ?_
  intro y1 hy1
  refine lw_ld hA (a := 6 * t) (k := 3) (n := 4) (pc5 := 592) hs (by omega) hL rfl rfl ?_
  refine lw_ld hA (a := 6 * t) (k := 4) (n := 4) (pc5 := 598) hs (by omega) hL rfl rfl ?_
  refine lw_call hA (i := 83) (j := 13) (M' := mt_13) [.inl (xs (6 * t + 4)).toInt, .inl (xs (6 * t + 3)).toInt, .inl y1, .inl (xs (6 * t + 1)).toInt] [] rfl rfl rfl rfl zs_1 rfl (by decide) (Nat.le_of_ble_eq_true rfl) hz (c_law (by decide) hi hg (hX _) hy1 (hX _) (hX _)) ?_
  rintro r1 S1 H1 hz1 hk1 ⟨⟨q1, rfl⟩, hi1, hg1, hs1, ht1⟩
  have hv1 : S1.1 = lwc L xs := hk1.1.trans hs
  refine hA.1 1 cells slots S1 (lw_Lt t) 602 _ 603 (lw_Lt t) [] rfl ?_
  refine hA.1 1 cells slots S1 (lw_Lt t) 603 _ 604 (lw_Lt t) [.ref 1826] rfl ?_
  refine lw_ld hA (a := 6 * t) (k := 1) (n := 4) (pc5 := 609) hv1 (by omega) hL rfl rfl ?_
  refine lw_ld hA (a := 6 * t) (k := 2) (n := 4) (pc5 := 615) hv1 (by omega) hL rfl rfl ?_
  refine lw_bool hA (pT := 623) (pF := 619) (pE := 624) rfl rfl rfl ?_
  intro y2 hy2
  refine lw_ld hA (a := 6 * t) (k := 3) (n := 4) (pc5 := 629) hv1 (by omega) hL rfl rfl ?_
  refine lw_ld hA (a := 6 * t) (k := 4) (n := 4) (pc5 := 635) hv1 (by omega) hL rfl rfl ?_
  refine lw_call hA (i := 87) (j := 243) (M' := mt_243) [.inl (xs (6 * t + 4)).toInt, .inl (xs (6 * t + 3)).toInt, .inl y2, .inl (xs (6 * t + 1)).toInt] [] rfl rfl rfl rfl z26 rfl (by decide) (Nat.le_of_ble_eq_true rfl) hz1 (r_law (by decide) hi1 hg1 (hX _) hy2 (hX _) (hX _)) ?_
  rintro r2 S2 H2 hz2 hk2 ⟨⟨q2, rfl⟩, hi2, hg2, hs2, ht2⟩
  refine hA.1 1 cells slots S2 (lw_Lt t) 639 _ 640 (lw_Lt t) [] rfl ?_
  refine hA.1 1 cells slots S2 (lw_Lt t) 640 _ 969 (lw_Lt t) [] rfl ?_
  exact kk cells slots S2 H2 (by omega) (by omega) (LI_keep hI hk1 hk2 hz2 hi2 hg2 (by omega))
set_option maxRecDepth 100000 in
set_option maxHeartbeats 4000000 in
theorem lt_13 {C N : Nat} {A : lwT} (hA : lwA C N A) {cells slots : Nat} {S : am_S} {H : hp} {xs : Nat → Int32} {L t : Nat} (hL : L ≤ 3072) (ht : 6 * t + 6 ≤ L) (hI : LI xs L S H) (kk : lwK A xs L t cells slots) : A cells slots S (lw_Lt t) 643 [] := by
  obtain ⟨hz, hi, hg, hq, hs, -, -⟩ := id hI
  have hX : ∀ j, -2147483648 ≤ (xs j).toInt ∧ (xs j).toInt ≤ 2147483647 := fun j => z_int _
  obtain ⟨d26, z26⟩ := zs_26
  refine hA.1 1 cells slots S (lw_Lt t) 643 _ 644 (lw_Lt t) [.ref 1] rfl ?_
  refine lw_ld hA (a := 6 * t) (k := 1) (n := 4) (pc5 := 649) hs (by omega) hL rfl rfl ?_
  refine lw_ld hA (a := 6 * t) (k := 2) (n := 4) (pc5 := 655) hs (by omega) hL rfl rfl ?_
  refine lw_bool hA (pT := 663) (pF := 659) (pE := 664) rfl rfl rfl ?_
  intro y1 hy1
  refine lw_ld hA (a := 6 * t) (k := 3) (n := 4) (pc5 := 669) hs (by omega) hL rfl rfl ?_
  refine lw_ld hA (a := 6 * t) (k := 4) (n := 4) (pc5 := 675) hs (by omega) hL rfl rfl ?_
  refine lw_call hA (i := 88) (j := 14) (M' := mt_14) [.inl (xs (6 * t + 4)).toInt, .inl (xs (6 * t + 3)).toInt, .inl y1, .inl (xs (6 * t + 1)).toInt] [] rfl rfl rfl rfl zs_1 rfl (by decide) (Nat.le_of_ble_eq_true rfl) hz (c_hypothesis (by decide) hi hg (hX _) hy1 (hX _) (hX _)) ?_
  rintro r1 S1 H1 hz1 hk1 ⟨⟨q1, rfl⟩, hi1, hg1, hs1, ht1⟩
  have hv1 : S1.1 = lwc L xs := hk1.1.trans hs
  refine hA.1 1 cells slots S1 (lw_Lt t) 679 _ 680 (lw_Lt t) [] rfl ?_
  refine hA.1 1 cells slots S1 (lw_Lt t) 680 _ 681 (lw_Lt t) [.ref 1826] rfl ?_
  refine lw_ld hA (a := 6 * t) (k := 1) (n := 4) (pc5 := 686) hv1 (by omega) hL rfl rfl ?_
  refine lw_ld hA (a := 6 * t) (k := 2) (n := 4) (pc5 := 692) hv1 (by omega) hL rfl rfl ?_
  refine lw_bool hA (pT := 700) (pF := 696) (pE := 701) rfl rfl rfl ?_
  intro y2 hy2
  refine lw_ld hA (a := 6 * t) (k := 3) (n := 4) (pc5 := 706) hv1 (by omega) hL rfl rfl ?_
  refine lw_ld hA (a := 6 * t) (k := 4) (n := 4) (pc5 := 712) hv1 (by omega) hL rfl rfl ?_
  refine lw_call hA (i := 91) (j := 245) (M' := mt_245) [.inl (xs (6 * t + 4)).toInt, .inl (xs (6 * t + 3)).toInt, .inl y2, .inl (xs (6 * t + 1)).toInt] [] rfl rfl rfl rfl z26 rfl (by decide) (Nat.le_of_ble_eq_true rfl) hz1 (r_hypothesis (by decide) hi1 hg1 (hX _) hy2 (hX _) (hX _)) ?_
  rintro r2 S2 H2 hz2 hk2 ⟨⟨q2, rfl⟩, hi2, hg2, hs2, ht2⟩
  refine hA.1 1 cells slots S2 (lw_Lt t) 716 _ 717 (lw_Lt t) [] rfl ?_
  refine hA.1 1 cells slots S2 (lw_Lt t) 717 _ 969 (lw_Lt t) [] rfl ?_
  exact kk cells slots S2 H2 (by omega) (by omega) (LI_keep hI hk1 hk2 hz2 hi2 hg2 (by omega))
set_option maxRecDepth 100000 in
set_option maxHeartbeats 4000000 in
theorem lt_14 {C N : Nat} {A : lwT} (hA : lwA C N A) {cells slots : Nat} {S : am_S} {H : hp} {xs : Nat → Int32} {L t : Nat} (hL : L ≤ 3072) (ht : 6 * t + 6 ≤ L) (hI : LI xs L S H) (kk : lwK A xs L t cells slots) : A cells slots S (lw_Lt t) 720 [] := by
  obtain ⟨hz, hi, hg, hq, hs, -, -⟩ := id hI
  have hX : ∀ j, -2147483648 ≤ (xs j).toInt ∧ (xs j).toInt ≤ 2147483647 := fun j => z_int _
  obtain ⟨d26, z26⟩ := zs_26
  refine hA.1 1 cells slots S (lw_Lt t) 720 _ 721 (lw_Lt t) [.ref 1] rfl ?_
  refine lw_ld hA (a := 6 * t) (k := 1) (n := 4) (pc5 := 726) hs (by omega) hL rfl rfl ?_
  refine lw_call hA (i := 92) (j := 15) (M' := mt_15) [.inl (xs (6 * t + 1)).toInt] [] rfl rfl rfl rfl zs_1 rfl (by decide) (Nat.le_of_ble_eq_true rfl) hz (c_induction (by decide) hi hg (hX _)) ?_
  rintro r1 S1 H1 hz1 hk1 ⟨⟨q1, rfl⟩, hi1, hg1, hs1, ht1⟩
  have hv1 : S1.1 = lwc L xs := hk1.1.trans hs
  refine hA.1 1 cells slots S1 (lw_Lt t) 730 _ 731 (lw_Lt t) [] rfl ?_
  refine hA.1 1 cells slots S1 (lw_Lt t) 731 _ 732 (lw_Lt t) [.ref 1826] rfl ?_
  refine lw_ld hA (a := 6 * t) (k := 1) (n := 4) (pc5 := 737) hv1 (by omega) hL rfl rfl ?_
  refine lw_call hA (i := 95) (j := 252) (M' := mt_252) [.inl (xs (6 * t + 1)).toInt] [] rfl rfl rfl rfl z26 rfl (by decide) (Nat.le_of_ble_eq_true rfl) hz1 (r_induction (by decide) hi1 hg1 (hX _)) ?_
  rintro r2 S2 H2 hz2 hk2 ⟨⟨q2, rfl⟩, hi2, hg2, hs2, ht2⟩
  refine hA.1 1 cells slots S2 (lw_Lt t) 741 _ 742 (lw_Lt t) [] rfl ?_
  refine hA.1 1 cells slots S2 (lw_Lt t) 742 _ 969 (lw_Lt t) [] rfl ?_
  exact kk cells slots S2 H2 (by omega) (by omega) (LI_keep hI hk1 hk2 hz2 hi2 hg2 (by omega))
set_option maxRecDepth 100000 in
set_option maxHeartbeats 4000000 in
theorem lt_15 {C N : Nat} {A : lwT} (hA : lwA C N A) {cells slots : Nat} {S : am_S} {H : hp} {xs : Nat → Int32} {L t : Nat} (hL : L ≤ 3072) (ht : 6 * t + 6 ≤ L) (hI : LI xs L S H) (kk : lwK A xs L t cells slots) : A cells slots S (lw_Lt t) 745 [] := by
  obtain ⟨hz, hi, hg, hq, hs, -, -⟩ := id hI
  have hX : ∀ j, -2147483648 ≤ (xs j).toInt ∧ (xs j).toInt ≤ 2147483647 := fun j => z_int _
  obtain ⟨d26, z26⟩ := zs_26
  refine hA.1 1 cells slots S (lw_Lt t) 745 _ 746 (lw_Lt t) [.ref 1] rfl ?_
  refine lw_ld hA (a := 6 * t) (k := 1) (n := 4) (pc5 := 751) hs (by omega) hL rfl rfl ?_
  refine lw_ld hA (a := 6 * t) (k := 2) (n := 4) (pc5 := 757) hs (by omega) hL rfl rfl ?_
  refine lw_call hA (i := 96) (j := 16) (M' := mt_16) [.inl (xs (6 * t + 2)).toInt, .inl (xs (6 * t + 1)).toInt] [] rfl rfl rfl rfl zs_1 rfl (by decide) (Nat.le_of_ble_eq_true rfl) hz (c_cases (by decide) hi hg (hX _) (hX _)) ?_
  rintro r1 S1 H1 hz1 hk1 ⟨⟨q1, rfl⟩, hi1, hg1, hs1, ht1⟩
  have hv1 : S1.1 = lwc L xs := hk1.1.trans hs
  refine hA.1 1 cells slots S1 (lw_Lt t) 761 _ 762 (lw_Lt t) [] rfl ?_
  refine hA.1 1 cells slots S1 (lw_Lt t) 762 _ 763 (lw_Lt t) [.ref 1826] rfl ?_
  refine lw_ld hA (a := 6 * t) (k := 1) (n := 4) (pc5 := 768) hv1 (by omega) hL rfl rfl ?_
  refine lw_ld hA (a := 6 * t) (k := 2) (n := 4) (pc5 := 774) hv1 (by omega) hL rfl rfl ?_
  refine lw_call hA (i := 99) (j := 255) (M' := mt_255) [.inl (xs (6 * t + 2)).toInt, .inl (xs (6 * t + 1)).toInt] [] rfl rfl rfl rfl z26 rfl (by decide) (Nat.le_of_ble_eq_true rfl) hz1 (r_cases (by decide) hi1 hg1 (hX _) (hX _)) ?_
  rintro r2 S2 H2 hz2 hk2 ⟨⟨q2, rfl⟩, hi2, hg2, hs2, ht2⟩
  refine hA.1 1 cells slots S2 (lw_Lt t) 778 _ 779 (lw_Lt t) [] rfl ?_
  refine hA.1 1 cells slots S2 (lw_Lt t) 779 _ 969 (lw_Lt t) [] rfl ?_
  exact kk cells slots S2 H2 (by omega) (by omega) (LI_keep hI hk1 hk2 hz2 hi2 hg2 (by omega))
set_option maxRecDepth 100000 in
set_option maxHeartbeats 4000000 in
theorem lt_16 {C N : Nat} {A : lwT} (hA : lwA C N A) {cells slots : Nat} {S : am_S} {H : hp} {xs : Nat → Int32} {L t : Nat} (hL : L ≤ 3072) (ht : 6 * t + 6 ≤ L) (hI : LI xs L S H) (kk : lwK A xs L t cells slots) : A cells slots S (lw_Lt t) 782 [] := by
  obtain ⟨hz, hi, hg, hq, hs, -, -⟩ := id hI
  have hX : ∀ j, -2147483648 ≤ (xs j).toInt ∧ (xs j).toInt ≤ 2147483647 := fun j => z_int _
  obtain ⟨d26, z26⟩ := zs_26
  refine hA.1 1 cells slots S (lw_Lt t) 782 _ 783 (lw_Lt t) [.ref 1] rfl ?_
  refine lw_call hA (i := 100) (j := 17) (M' := mt_17) [] [] rfl rfl rfl rfl zs_1 rfl (by decide) (Nat.le_of_ble_eq_true rfl) hz (c_same (by decide) hi hg ) ?_
  rintro r1 S1 H1 hz1 hk1 ⟨⟨q1, rfl⟩, hi1, hg1, hs1, ht1⟩
  have hv1 : S1.1 = lwc L xs := hk1.1.trans hs
  refine hA.1 1 cells slots S1 (lw_Lt t) 786 _ 787 (lw_Lt t) [] rfl ?_
  refine hA.1 1 cells slots S1 (lw_Lt t) 787 _ 788 (lw_Lt t) [.ref 1826] rfl ?_
  refine lw_call hA (i := 103) (j := 261) (M' := mt_261) [] [] rfl rfl rfl rfl z26 rfl (by decide) (Nat.le_of_ble_eq_true rfl) hz1 (r_same (by decide) hi1 hg1 ) ?_
  rintro r2 S2 H2 hz2 hk2 ⟨⟨q2, rfl⟩, hi2, hg2, hs2, ht2⟩
  refine hA.1 1 cells slots S2 (lw_Lt t) 791 _ 792 (lw_Lt t) [] rfl ?_
  refine hA.1 1 cells slots S2 (lw_Lt t) 792 _ 969 (lw_Lt t) [] rfl ?_
  exact kk cells slots S2 H2 (by omega) (by omega) (LI_keep hI hk1 hk2 hz2 hi2 hg2 (by omega))
set_option maxRecDepth 100000 in
set_option maxHeartbeats 4000000 in
theorem lt_17 {C N : Nat} {A : lwT} (hA : lwA C N A) {cells slots : Nat} {S : am_S} {H : hp} {xs : Nat → Int32} {L t : Nat} (hL : L ≤ 3072) (ht : 6 * t + 6 ≤ L) (hI : LI xs L S H) (kk : lwK A xs L t cells slots) : A cells slots S (lw_Lt t) 795 [] := by
  obtain ⟨hz, hi, hg, hq, hs, -, -⟩ := id hI
  have hX : ∀ j, -2147483648 ≤ (xs j).toInt ∧ (xs j).toInt ≤ 2147483647 := fun j => z_int _
  obtain ⟨d26, z26⟩ := zs_26
  refine hA.1 1 cells slots S (lw_Lt t) 795 _ 796 (lw_Lt t) [.ref 1] rfl ?_
  refine lw_call hA (i := 104) (j := 18) (M' := mt_18) [] [] rfl rfl rfl rfl zs_1 rfl (by decide) (Nat.le_of_ble_eq_true rfl) hz (c_parts (by decide) hi hg ) ?_
  rintro r1 S1 H1 hz1 hk1 ⟨⟨q1, rfl⟩, hi1, hg1, hs1, ht1⟩
  have hv1 : S1.1 = lwc L xs := hk1.1.trans hs
  refine hA.1 1 cells slots S1 (lw_Lt t) 799 _ 800 (lw_Lt t) [] rfl ?_
  refine hA.1 1 cells slots S1 (lw_Lt t) 800 _ 801 (lw_Lt t) [.ref 1826] rfl ?_
  refine lw_call hA (i := 107) (j := 262) (M' := mt_262) [] [] rfl rfl rfl rfl z26 rfl (by decide) (Nat.le_of_ble_eq_true rfl) hz1 (r_parts (by decide) hi1 hg1 ) ?_
  rintro r2 S2 H2 hz2 hk2 ⟨⟨q2, rfl⟩, hi2, hg2, hs2, ht2⟩
  refine hA.1 1 cells slots S2 (lw_Lt t) 804 _ 805 (lw_Lt t) [] rfl ?_
  refine hA.1 1 cells slots S2 (lw_Lt t) 805 _ 969 (lw_Lt t) [] rfl ?_
  exact kk cells slots S2 H2 (by omega) (by omega) (LI_keep hI hk1 hk2 hz2 hi2 hg2 (by omega))
set_option maxRecDepth 100000 in
set_option maxHeartbeats 4000000 in
theorem lt_18 {C N : Nat} {A : lwT} (hA : lwA C N A) {cells slots : Nat} {S : am_S} {H : hp} {xs : Nat → Int32} {L t : Nat} (hL : L ≤ 3072) (ht : 6 * t + 6 ≤ L) (hI : LI xs L S H) (kk : lwK A xs L t cells slots) : A cells slots S (lw_Lt t) 808 [] := by
  obtain ⟨hz, hi, hg, hq, hs, -, -⟩ := id hI
  have hX : ∀ j, -2147483648 ≤ (xs j).toInt ∧ (xs j).toInt ≤ 2147483647 := fun j => z_int _
  obtain ⟨d26, z26⟩ := zs_26
  refine hA.1 1 cells slots S (lw_Lt t) 808 _ 809 (lw_Lt t) [.ref 1] rfl ?_
  refine lw_ld hA (a := 6 * t) (k := 1) (n := 4) (pc5 := 814) hs (by omega) hL rfl rfl ?_
  refine lw_call hA (i := 108) (j := 19) (M' := mt_19) [.inl (xs (6 * t + 1)).toInt] [] rfl rfl rfl rfl zs_1 rfl (by decide) (Nat.le_of_ble_eq_true rfl) hz (c_search (by decide) hi hg (hX _)) ?_
  rintro r1 S1 H1 hz1 hk1 ⟨⟨q1, rfl⟩, hi1, hg1, hs1, ht1⟩
  have hv1 : S1.1 = lwc L xs := hk1.1.trans hs
  refine hA.1 1 cells slots S1 (lw_Lt t) 818 _ 819 (lw_Lt t) [] rfl ?_
  refine hA.1 1 cells slots S1 (lw_Lt t) 819 _ 820 (lw_Lt t) [.ref 1826] rfl ?_
  refine lw_ld hA (a := 6 * t) (k := 1) (n := 4) (pc5 := 825) hv1 (by omega) hL rfl rfl ?_
  refine lw_call hA (i := 111) (j := 266) (M' := mt_266) [.inl (xs (6 * t + 1)).toInt] [] rfl rfl rfl rfl z26 rfl (by decide) (Nat.le_of_ble_eq_true rfl) hz1 (r_search (by decide) hi1 hg1 (hX _)) ?_
  rintro r2 S2 H2 hz2 hk2 ⟨⟨q2, rfl⟩, hi2, hg2, hs2, ht2⟩
  refine hA.1 1 cells slots S2 (lw_Lt t) 829 _ 830 (lw_Lt t) [] rfl ?_
  refine hA.1 1 cells slots S2 (lw_Lt t) 830 _ 969 (lw_Lt t) [] rfl ?_
  exact kk cells slots S2 H2 (by omega) (by omega) (LI_keep hI hk1 hk2 hz2 hi2 hg2 (by omega))
set_option maxRecDepth 100000 in
set_option maxHeartbeats 4000000 in
theorem lt_19 {C N : Nat} {A : lwT} (hA : lwA C N A) {cells slots : Nat} {S : am_S} {H : hp} {xs : Nat → Int32} {L t : Nat} (hL : L ≤ 3072) (ht : 6 * t + 6 ≤ L) (hI : LI xs L S H) (kk : lwK A xs L t cells slots) : A cells slots S (lw_Lt t) 833 [] := by
  obtain ⟨hz, hi, hg, hq, hs, -, -⟩ := id hI
  have hX : ∀ j, -2147483648 ≤ (xs j).toInt ∧ (xs j).toInt ≤ 2147483647 := fun j => z_int _
  obtain ⟨d26, z26⟩ := zs_26
  refine hA.1 1 cells slots S (lw_Lt t) 833 _ 834 (lw_Lt t) [.ref 1] rfl ?_
  refine lw_ld hA (a := 6 * t) (k := 1) (n := 4) (pc5 := 839) hs (by omega) hL rfl rfl ?_
  refine lw_ld hA (a := 6 * t) (k := 2) (n := 4) (pc5 := 845) hs (by omega) hL rfl rfl ?_
  refine lw_call hA (i := 112) (j := 20) (M' := mt_20) [.inl (xs (6 * t + 2)).toInt, .inl (xs (6 * t + 1)).toInt] [] rfl rfl rfl rfl zs_1 rfl (by decide) (Nat.le_of_ble_eq_true rfl) hz (c_show (by decide) hi hg (hX _) (hX _)) ?_
  rintro r1 S1 H1 hz1 hk1 ⟨⟨q1, rfl⟩, hi1, hg1, hs1, ht1⟩
  have hv1 : S1.1 = lwc L xs := hk1.1.trans hs
  refine hA.1 1 cells slots S1 (lw_Lt t) 849 _ 850 (lw_Lt t) [] rfl ?_
  refine hA.1 1 cells slots S1 (lw_Lt t) 850 _ 851 (lw_Lt t) [.ref 1826] rfl ?_
  refine lw_ld hA (a := 6 * t) (k := 1) (n := 4) (pc5 := 856) hv1 (by omega) hL rfl rfl ?_
  refine lw_ld hA (a := 6 * t) (k := 2) (n := 4) (pc5 := 862) hv1 (by omega) hL rfl rfl ?_
  refine lw_call hA (i := 115) (j := 270) (M' := mt_270) [.inl (xs (6 * t + 2)).toInt, .inl (xs (6 * t + 1)).toInt] [] rfl rfl rfl rfl z26 rfl (by decide) (Nat.le_of_ble_eq_true rfl) hz1 (r_show (by decide) hi1 hg1 (hX _) (hX _)) ?_
  rintro r2 S2 H2 hz2 hk2 ⟨⟨q2, rfl⟩, hi2, hg2, hs2, ht2⟩
  refine hA.1 1 cells slots S2 (lw_Lt t) 866 _ 867 (lw_Lt t) [] rfl ?_
  refine hA.1 1 cells slots S2 (lw_Lt t) 867 _ 969 (lw_Lt t) [] rfl ?_
  exact kk cells slots S2 H2 (by omega) (by omega) (LI_keep hI hk1 hk2 hz2 hi2 hg2 (by omega))
set_option maxRecDepth 100000 in
set_option maxHeartbeats 4000000 in
theorem lt_20 {C N : Nat} {A : lwT} (hA : lwA C N A) {cells slots : Nat} {S : am_S} {H : hp} {xs : Nat → Int32} {L t : Nat} (hL : L ≤ 3072) (ht : 6 * t + 6 ≤ L) (hI : LI xs L S H) (kk : lwK A xs L t cells slots) : A cells slots S (lw_Lt t) 870 [] := by
  obtain ⟨hz, hi, hg, hq, hs, -, -⟩ := id hI
  have hX : ∀ j, -2147483648 ≤ (xs j).toInt ∧ (xs j).toInt ≤ 2147483647 := fun j => z_int _
  obtain ⟨d26, z26⟩ := zs_26
  refine hA.1 1 cells slots S (lw_Lt t) 870 _ 871 (lw_Lt t) [.ref 1] rfl ?_
  refine lw_ld hA (a := 6 * t) (k := 1) (n := 4) (pc5 := 876) hs (by omega) hL rfl rfl ?_
  refine lw_ld hA (a := 6 * t) (k := 2) (n := 4) (pc5 := 882) hs (by omega) hL rfl rfl ?_
  refine lw_call hA (i := 116) (j := 21) (M' := mt_21) [.inl (xs (6 * t + 2)).toInt, .inl (xs (6 * t + 1)).toInt] [] rfl rfl rfl rfl zs_1 rfl (by decide) (Nat.le_of_ble_eq_true rfl) hz (c_showHypothesis (by decide) hi hg (hX _) (hX _)) ?_
  rintro r1 S1 H1 hz1 hk1 ⟨⟨q1, rfl⟩, hi1, hg1, hs1, ht1⟩
  have hv1 : S1.1 = lwc L xs := hk1.1.trans hs
  refine hA.1 1 cells slots S1 (lw_Lt t) 886 _ 887 (lw_Lt t) [] rfl ?_
  refine hA.1 1 cells slots S1 (lw_Lt t) 887 _ 888 (lw_Lt t) [.ref 1826] rfl ?_
  refine lw_ld hA (a := 6 * t) (k := 1) (n := 4) (pc5 := 893) hv1 (by omega) hL rfl rfl ?_
  refine lw_ld hA (a := 6 * t) (k := 2) (n := 4) (pc5 := 899) hv1 (by omega) hL rfl rfl ?_
  refine lw_call hA (i := 119) (j := 271) (M' := mt_271) [.inl (xs (6 * t + 2)).toInt, .inl (xs (6 * t + 1)).toInt] [] rfl rfl rfl rfl z26 rfl (by decide) (Nat.le_of_ble_eq_true rfl) hz1 (r_showHypothesis (by decide) hi1 hg1 (hX _) (hX _)) ?_
  rintro r2 S2 H2 hz2 hk2 ⟨⟨q2, rfl⟩, hi2, hg2, hs2, ht2⟩
  refine hA.1 1 cells slots S2 (lw_Lt t) 903 _ 904 (lw_Lt t) [] rfl ?_
  refine hA.1 1 cells slots S2 (lw_Lt t) 904 _ 969 (lw_Lt t) [] rfl ?_
  exact kk cells slots S2 H2 (by omega) (by omega) (LI_keep hI hk1 hk2 hz2 hi2 hg2 (by omega))
set_option maxRecDepth 100000 in
set_option maxHeartbeats 4000000 in
theorem lt_21 {C N : Nat} {A : lwT} (hA : lwA C N A) {cells slots : Nat} {S : am_S} {H : hp} {xs : Nat → Int32} {L t : Nat} (hL : L ≤ 3072) (ht : 6 * t + 6 ≤ L) (hI : LI xs L S H) (kk : lwK A xs L t cells slots) : A cells slots S (lw_Lt t) 907 [] := by
  obtain ⟨hz, hi, hg, hq, hs, -, -⟩ := id hI
  have hX : ∀ j, -2147483648 ≤ (xs j).toInt ∧ (xs j).toInt ≤ 2147483647 := fun j => z_int _
  obtain ⟨d26, z26⟩ := zs_26
  refine hA.1 1 cells slots S (lw_Lt t) 907 _ 908 (lw_Lt t) [.ref 1] rfl ?_
  refine lw_ld hA (a := 6 * t) (k := 1) (n := 4) (pc5 := 913) hs (by omega) hL rfl rfl ?_
  refine lw_ld hA (a := 6 * t) (k := 2) (n := 4) (pc5 := 919) hs (by omega) hL rfl rfl ?_
  refine lw_call hA (i := 120) (j := 22) (M' := mt_22) [.inl (xs (6 * t + 2)).toInt, .inl (xs (6 * t + 1)).toInt] [] rfl rfl rfl rfl zs_1 rfl (by decide) (Nat.le_of_ble_eq_true rfl) hz (c_showLaw (by decide) hi hg (hX _) (hX _)) ?_
  rintro r1 S1 H1 hz1 hk1 ⟨⟨q1, rfl⟩, hi1, hg1, hs1, ht1⟩
  have hv1 : S1.1 = lwc L xs := hk1.1.trans hs
  refine hA.1 1 cells slots S1 (lw_Lt t) 923 _ 924 (lw_Lt t) [] rfl ?_
  refine hA.1 1 cells slots S1 (lw_Lt t) 924 _ 925 (lw_Lt t) [.ref 1826] rfl ?_
  refine lw_ld hA (a := 6 * t) (k := 1) (n := 4) (pc5 := 930) hv1 (by omega) hL rfl rfl ?_
  refine lw_ld hA (a := 6 * t) (k := 2) (n := 4) (pc5 := 936) hv1 (by omega) hL rfl rfl ?_
  refine lw_call hA (i := 123) (j := 272) (M' := mt_272) [.inl (xs (6 * t + 2)).toInt, .inl (xs (6 * t + 1)).toInt] [] rfl rfl rfl rfl z26 rfl (by decide) (Nat.le_of_ble_eq_true rfl) hz1 (r_showLaw (by decide) hi1 hg1 (hX _) (hX _)) ?_
  rintro r2 S2 H2 hz2 hk2 ⟨⟨q2, rfl⟩, hi2, hg2, hs2, ht2⟩
  refine hA.1 1 cells slots S2 (lw_Lt t) 940 _ 941 (lw_Lt t) [] rfl ?_
  refine hA.1 1 cells slots S2 (lw_Lt t) 941 _ 969 (lw_Lt t) [] rfl ?_
  exact kk cells slots S2 H2 (by omega) (by omega) (LI_keep hI hk1 hk2 hz2 hi2 hg2 (by omega))
set_option maxRecDepth 100000 in
set_option maxHeartbeats 4000000 in
theorem lt_22 {C N : Nat} {A : lwT} (hA : lwA C N A) {cells slots : Nat} {S : am_S} {H : hp} {xs : Nat → Int32} {L t : Nat} (hL : L ≤ 3072) (ht : 6 * t + 6 ≤ L) (hI : LI xs L S H) (kk : lwK A xs L t cells slots) : A cells slots S (lw_Lt t) 944 [] := by
  obtain ⟨hz, hi, hg, hq, hs, -, -⟩ := id hI
  have hX : ∀ j, -2147483648 ≤ (xs j).toInt ∧ (xs j).toInt ≤ 2147483647 := fun j => z_int _
  obtain ⟨d26, z26⟩ := zs_26
  refine hA.1 1 cells slots S (lw_Lt t) 944 _ 945 (lw_Lt t) [.ref 1] rfl ?_
  refine lw_ld hA (a := 6 * t) (k := 1) (n := 4) (pc5 := 950) hs (by omega) hL rfl rfl ?_
  refine lw_call hA (i := 124) (j := 23) (M' := mt_23) [.inl (xs (6 * t + 1)).toInt] [] rfl rfl rfl rfl zs_1 rfl (by decide) (Nat.le_of_ble_eq_true rfl) hz (c_printed (by decide) hi hg (hX _)) ?_
  rintro r1 S1 H1 hz1 hk1 ⟨⟨q1, rfl⟩, hi1, hg1, hs1, ht1⟩
  have hv1 : S1.1 = lwc L xs := hk1.1.trans hs
  refine hA.1 1 cells slots S1 (lw_Lt t) 954 _ 955 (lw_Lt t) [] rfl ?_
  refine hA.1 1 cells slots S1 (lw_Lt t) 955 _ 956 (lw_Lt t) [.ref 1826] rfl ?_
  refine lw_ld hA (a := 6 * t) (k := 1) (n := 4) (pc5 := 961) hv1 (by omega) hL rfl rfl ?_
  refine lw_call hA (i := 127) (j := 207) (M' := mt_207) [.inl (xs (6 * t + 1)).toInt] [] rfl rfl rfl rfl z26 rfl (by decide) (Nat.le_of_ble_eq_true rfl) hz1 (r_printed (by decide) hi1 hg1 (hX _)) ?_
  rintro r2 S2 H2 hz2 hk2 ⟨⟨q2, rfl⟩, hi2, hg2, hs2, ht2⟩
  refine hA.1 1 cells slots S2 (lw_Lt t) 965 _ 966 (lw_Lt t) [] rfl ?_
  refine hA.1 1 cells slots S2 (lw_Lt t) 966 _ 969 (lw_Lt t) [] rfl ?_
  exact kk cells slots S2 H2 (by omega) (by omega) (LI_keep hI hk1 hk2 hz2 hi2 hg2 (by omega))
