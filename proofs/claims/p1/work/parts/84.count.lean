/-! the law on fresh objects and a script of six ints: from each case to its end -/
set_option maxRecDepth 100000 in
set_option maxHeartbeats 4000000 in
theorem lc_4 (S : am_S) (y0 y1 y2 y3 y4 y5 : Int32) (g0_0 : am_nth S 0 = some (6, some (.inl (.int, 6, .int 0, [(0, .int y0), (1, .int y1), (2, .int y2), (3, .int y3), (4, .int y4), (5, .int y5)])))) (g0_1 : am_nth S 1 = some (9, some (.inr (0, [.ref 2, .ref 7, .ref 361, .ref 363, .ref 366, .ref 372, .ref 406, .ref 1824, .int 0])))) (g0_7 : am_nth S 7 = some (7, some (.inr (2, [.ref 8, .ref 13, .ref 18, .ref 23, .ref 24, .int 0, .int 0])))) (g0_8 : am_nth S 8 = some (5, some (.inr (3, [.ref 9, .ref 10, .ref 11, .ref 12, .int 0])))) (g0_13 : am_nth S 13 = some (5, some (.inr (3, [.ref 14, .ref 15, .ref 16, .ref 17, .int 0])))) (g0_18 : am_nth S 18 = some (5, some (.inr (3, [.ref 19, .ref 20, .ref 21, .ref 22, .int 0])))) (g0_406 : am_nth S 406 = some (19, some (.inr (10, [.ref 7, .ref 366, .ref 407, .ref 878, .ref 1349, .ref 1350, .ref 1350, .ref 1350, .long 0, .long 0, .ref 409, .ref 1352, .ref 1354, .int 0, .int 0, .long 0, .int 0, .int 0, .int 0])))) (g0_407 : am_nth S 407 = some (9, some (.inr (11, [.ref 408, .ref 409, .int 0, .int 0, .int 0, .int 0, .int 0, .long 0, .long 0])))) (g0_1826 : am_nth S 1826 = some (115, some (.inr (13, [.int 0, .int 0, .ref 1827, .int 0, .ref 1828, .ref 1829, .ref 1830, .ref 1831, .int 0, .ref 1832, .ref 1833, .ref 1834, .ref 1835, .int 0, .ref 1836, .ref 1837, .ref 1838, .ref 1839, .ref 1840, .int 0, .ref 1841, .ref 1842, .ref 1843, .ref 1844, .ref 1845, .ref 1846, .ref 1847, .ref 1848, .int 0, .int 0, .int 0, .int 0, .int 0, .long 0, .int 0, .int 0, .int 0, .ref 1849, .ref 1850, .int 0, .int 0, .int 0, .ref 1851, .int 0, .int 0, .ref 1852, .ref 1853, .int 0, .ref 1854, .ref 1855, .int 0, .int 0, .ref 1856, .int 0, .ref 1857, .int 0, .int 0, .int 0, .ref 1858, .int 0, .ref 1859, .ref 1860, .ref 1861, .ref 1862, .ref 1863, .ref 1864, .ref 1865, .int (-1), .ref 1866, .ref 1867, .ref 1868, .ref 1869, .int 0, .ref 1870, .int (-1), .int 0, .int 0, .int 0, .ref 1871, .ref 1872, .ref 1873, .ref 1874, .ref 1875, .ref 1876, .ref 1877, .ref 1878, .ref 1879, .ref 1880, .ref 1881, .int 0, .ref 1882, .ref 1883, .ref 1884, .int 0, .ref 1885, .int 0, .ref 1886, .int (-1), .ref 1887, .int 0, .ref 1888, .int 0, .ref 1889, .ref 1890, .ref 1891, .ref 1892, .ref 1893, .ref 1894, .ref 1895, .ref 1896, .ref 1897, .ref 1898, .int 0, .int 0, .int 0])))) : am_G at_P at_cl at_ty 12 mt_law 314 [(4, .int 0), (3, .ref 1899), (2, .ref 1826), (1, .ref 1), (0, .ref 0)] [] S (fun r _ c n => r = some (.int 1) ∧ c = 0 ∧ n = 0) := by
  have hs0 : am_same [] S S := am_same_rf _ _
  refine G_ps 5 (pc' := 320) (l' := [(4, .int 0), (3, .ref 1899), (2, .ref 1826), (1, .ref 1), (0, .ref 0)]) (st' := [.int 1, .ref 0, .ref 1]) rfl ?_
  refine G_ild (i := 1) rfl g0_0 (by decide) ?_
  show am_G at_P at_cl at_ty _ mt_law 321 [(4, .int 0), (3, .ref 1899), (2, .ref 1826), (1, .ref 1), (0, .ref 0)] [.int y1, .ref 1] _ _
  refine G_cv (i := 47) (j := 5) (b := 1) (M' := mt_5) (xs := [.int y1]) (rest := []) rfl rfl rfl rfl g0_1 (Nat.le_of_ble_eq_true rfl) (Nat.le_of_ble_eq_true rfl) ?_ (fun _ _ _ _ h9 => h9)
  show am_G at_P at_cl at_ty _ mt_5 0 [(0, .ref 1), (1, .int y1)] [] _ _
  refine G_ps 1 (pc' := 1) (l' := [(0, .ref 1), (1, .int y1)]) (st' := [.ref 1]) rfl ?_
  refine G_get (i := 60) (ci := 0) (k := 6) (v := .ref 406) rfl rfl g0_1 rfl ?_
  show am_G at_P at_cl at_ty _ mt_5 4 [(0, .ref 1), (1, .int y1)] [.ref 406] _ _
  refine G_get (i := 96) (ci := 10) (k := 2) (v := .ref 407) rfl rfl g0_406 rfl ?_
  show am_G at_P at_cl at_ty _ mt_5 7 [(0, .ref 1), (1, .int y1)] [.ref 407] _ _
  refine G_ps 2 (pc' := 9) (l' := [(2, .ref 407), (0, .ref 1), (1, .int y1)]) (st' := [.int y1]) rfl ?_
  by_cases hr1 : y1.toInt < 0 ∨ 7 < y1.toInt
  · refine G_swo (t := 136) rfl hr1 rfl ?_
    refine G_ps 1 (pc' := 138) (l' := [(2, .ref 407), (0, .ref 1), (1, .int y1)]) (st' := [.int (-102)]) rfl ?_
    refine G_ret rfl rfl rfl ?_
    show am_G at_P at_cl at_ty _ mt_law 324 [(4, .int 0), (3, .ref 1899), (2, .ref 1826), (1, .ref 1), (0, .ref 0)] [.int (-102)] _ _
    refine G_ps 5 (pc' := 330) (l' := [(4, .int 0), (3, .ref 1899), (2, .ref 1826), (1, .ref 1), (0, .ref 0)]) (st' := [.int 1, .ref 0, .ref 1826, .int (-102)]) rfl ?_
    refine G_ild (i := 1) rfl g0_0 (by decide) ?_
    show am_G at_P at_cl at_ty _ mt_law 331 [(4, .int 0), (3, .ref 1899), (2, .ref 1826), (1, .ref 1), (0, .ref 0)] [.int y1, .ref 1826, .int (-102)] _ _
    refine G_cv (i := 51) (j := 194) (b := 1826) (M' := mt_194) (xs := [.int y1]) (rest := [.int (-102)]) rfl rfl rfl rfl g0_1826 (Nat.le_of_ble_eq_true rfl) (Nat.le_of_ble_eq_true rfl) ?_ (fun _ _ _ _ h9 => h9)
    show am_G at_P at_cl at_ty _ mt_194 0 [(0, .ref 1826), (1, .int y1)] [] _ _
    refine G_ps 1 (pc' := 1) (l' := [(0, .ref 1826), (1, .int y1)]) (st' := [.int y1]) rfl ?_
    refine G_swo (t := 101) rfl hr1 rfl ?_
    refine G_ps 1 (pc' := 103) (l' := [(0, .ref 1826), (1, .int y1)]) (st' := [.int (-102)]) rfl ?_
    refine G_ret rfl rfl rfl ?_
    show am_G at_P at_cl at_ty _ mt_law 334 [(4, .int 0), (3, .ref 1899), (2, .ref 1826), (1, .ref 1), (0, .ref 0)] [.int (-102), .int (-102)] _ _
    refine G_ps 5 (pc' := 26) (l' := [(4, .int 6), (3, .ref 1899), (2, .ref 1826), (1, .ref 1), (0, .ref 0)]) (st' := [.ref 0, .int 6]) rfl ?_
    refine G_alen rfl g0_0 ?_
    show am_G at_P at_cl at_ty _ mt_law 27 [(4, .int 6), (3, .ref 1899), (2, .ref 1826), (1, .ref 1), (0, .ref 0)] [.int 6, .int 6] _ _
    refine G_ps 4 (pc' := 1004) (l' := [(4, .int 6), (3, .ref 1899), (2, .ref 1826), (1, .ref 1), (0, .ref 0)]) (st' := [.int 1]) rfl ?_
    refine G_ret rfl rfl rfl ?_
    exact ⟨rfl, by simp, by simp⟩
  · obtain ⟨k9, hk9, e9⟩ := am_sm 7 (by decide) hr1
    subst e9
    rcases (show k9 = 0 ∨ k9 = 1 ∨ k9 = 2 ∨ k9 = 3 ∨ k9 = 4 ∨ k9 = 5 ∨ k9 = 6 ∨ k9 = 7 by omega) with rfl | rfl | rfl | rfl | rfl | rfl | rfl | rfl
    · show am_G at_P at_cl at_ty _ mt_5 9 [(2, .ref 407), (0, .ref 1), (1, .int 0)] [.int 0] _ _
      refine G_ps 2 (pc' := 57) (l' := [(2, .ref 407), (0, .ref 1), (1, .int 0)]) (st' := [.ref 1]) rfl ?_
      refine G_get (i := 19) (ci := 0) (k := 1) (v := .ref 7) rfl rfl g0_1 rfl ?_
      show am_G at_P at_cl at_ty _ mt_5 60 [(2, .ref 407), (0, .ref 1), (1, .int 0)] [.ref 7] _ _
      refine G_get (i := 108) (ci := 2) (k := 0) (v := .ref 8) rfl rfl g0_7 rfl ?_
      show am_G at_P at_cl at_ty _ mt_5 63 [(2, .ref 407), (0, .ref 1), (1, .int 0)] [.ref 8] _ _
      refine G_get (i := 112) (ci := 3) (k := 4) (v := .int 0) rfl rfl g0_8 rfl ?_
      show am_G at_P at_cl at_ty _ mt_5 66 [(2, .ref 407), (0, .ref 1), (1, .int 0)] [.int 0] _ _
      refine G_ret rfl rfl rfl ?_
      show am_G at_P at_cl at_ty _ mt_law 324 [(4, .int 0), (3, .ref 1899), (2, .ref 1826), (1, .ref 1), (0, .ref 0)] [.int 0] _ _
      refine G_ps 5 (pc' := 330) (l' := [(4, .int 0), (3, .ref 1899), (2, .ref 1826), (1, .ref 1), (0, .ref 0)]) (st' := [.int 1, .ref 0, .ref 1826, .int 0]) rfl ?_
      refine G_ild (i := 1) rfl g0_0 (by decide) ?_
      show am_G at_P at_cl at_ty _ mt_law 331 [(4, .int 0), (3, .ref 1899), (2, .ref 1826), (1, .ref 1), (0, .ref 0)] [.int 0, .ref 1826, .int 0] _ _
      refine G_cv (i := 51) (j := 194) (b := 1826) (M' := mt_194) (xs := [.int 0]) (rest := [.int 0]) rfl rfl rfl rfl g0_1826 (Nat.le_of_ble_eq_true rfl) (Nat.le_of_ble_eq_true rfl) ?_ (fun _ _ _ _ h9 => h9)
      show am_G at_P at_cl at_ty _ mt_194 0 [(0, .ref 1826), (1, .int 0)] [] _ _
      refine G_ps 3 (pc' := 49) (l' := [(0, .ref 1826), (1, .int 0)]) (st' := [.ref 1826]) rfl ?_
      refine G_get (i := 306) (ci := 13) (k := 1) (v := .int 0) rfl rfl g0_1826 rfl ?_
      show am_G at_P at_cl at_ty _ mt_194 52 [(0, .ref 1826), (1, .int 0)] [.int 0] _ _
      refine G_ret rfl rfl rfl ?_
      show am_G at_P at_cl at_ty _ mt_law 334 [(4, .int 0), (3, .ref 1899), (2, .ref 1826), (1, .ref 1), (0, .ref 0)] [.int 0, .int 0] _ _
      refine G_ps 5 (pc' := 26) (l' := [(4, .int 6), (3, .ref 1899), (2, .ref 1826), (1, .ref 1), (0, .ref 0)]) (st' := [.ref 0, .int 6]) rfl ?_
      refine G_alen rfl g0_0 ?_
      show am_G at_P at_cl at_ty _ mt_law 27 [(4, .int 6), (3, .ref 1899), (2, .ref 1826), (1, .ref 1), (0, .ref 0)] [.int 6, .int 6] _ _
      refine G_ps 4 (pc' := 1004) (l' := [(4, .int 6), (3, .ref 1899), (2, .ref 1826), (1, .ref 1), (0, .ref 0)]) (st' := [.int 1]) rfl ?_
      refine G_ret rfl rfl rfl ?_
      exact ⟨rfl, by simp, by simp⟩
    · show am_G at_P at_cl at_ty _ mt_5 9 [(2, .ref 407), (0, .ref 1), (1, .int 1)] [.int 1] _ _
      refine G_ps 2 (pc' := 68) (l' := [(2, .ref 407), (0, .ref 1), (1, .int 1)]) (st' := [.ref 1]) rfl ?_
      refine G_get (i := 19) (ci := 0) (k := 1) (v := .ref 7) rfl rfl g0_1 rfl ?_
      show am_G at_P at_cl at_ty _ mt_5 71 [(2, .ref 407), (0, .ref 1), (1, .int 1)] [.ref 7] _ _
      refine G_get (i := 117) (ci := 2) (k := 1) (v := .ref 13) rfl rfl g0_7 rfl ?_
      show am_G at_P at_cl at_ty _ mt_5 74 [(2, .ref 407), (0, .ref 1), (1, .int 1)] [.ref 13] _ _
      refine G_get (i := 112) (ci := 3) (k := 4) (v := .int 0) rfl rfl g0_13 rfl ?_
      show am_G at_P at_cl at_ty _ mt_5 77 [(2, .ref 407), (0, .ref 1), (1, .int 1)] [.int 0] _ _
      refine G_ret rfl rfl rfl ?_
      show am_G at_P at_cl at_ty _ mt_law 324 [(4, .int 0), (3, .ref 1899), (2, .ref 1826), (1, .ref 1), (0, .ref 0)] [.int 0] _ _
      refine G_ps 5 (pc' := 330) (l' := [(4, .int 0), (3, .ref 1899), (2, .ref 1826), (1, .ref 1), (0, .ref 0)]) (st' := [.int 1, .ref 0, .ref 1826, .int 0]) rfl ?_
      refine G_ild (i := 1) rfl g0_0 (by decide) ?_
      show am_G at_P at_cl at_ty _ mt_law 331 [(4, .int 0), (3, .ref 1899), (2, .ref 1826), (1, .ref 1), (0, .ref 0)] [.int 1, .ref 1826, .int 0] _ _
      refine G_cv (i := 51) (j := 194) (b := 1826) (M' := mt_194) (xs := [.int 1]) (rest := [.int 0]) rfl rfl rfl rfl g0_1826 (Nat.le_of_ble_eq_true rfl) (Nat.le_of_ble_eq_true rfl) ?_ (fun _ _ _ _ h9 => h9)
      show am_G at_P at_cl at_ty _ mt_194 0 [(0, .ref 1826), (1, .int 1)] [] _ _
      refine G_ps 3 (pc' := 54) (l' := [(0, .ref 1826), (1, .int 1)]) (st' := [.ref 1826]) rfl ?_
      refine G_get (i := 319) (ci := 13) (k := 3) (v := .int 0) rfl rfl g0_1826 rfl ?_
      show am_G at_P at_cl at_ty _ mt_194 57 [(0, .ref 1826), (1, .int 1)] [.int 0] _ _
      refine G_ret rfl rfl rfl ?_
      show am_G at_P at_cl at_ty _ mt_law 334 [(4, .int 0), (3, .ref 1899), (2, .ref 1826), (1, .ref 1), (0, .ref 0)] [.int 0, .int 0] _ _
      refine G_ps 5 (pc' := 26) (l' := [(4, .int 6), (3, .ref 1899), (2, .ref 1826), (1, .ref 1), (0, .ref 0)]) (st' := [.ref 0, .int 6]) rfl ?_
      refine G_alen rfl g0_0 ?_
      show am_G at_P at_cl at_ty _ mt_law 27 [(4, .int 6), (3, .ref 1899), (2, .ref 1826), (1, .ref 1), (0, .ref 0)] [.int 6, .int 6] _ _
      refine G_ps 4 (pc' := 1004) (l' := [(4, .int 6), (3, .ref 1899), (2, .ref 1826), (1, .ref 1), (0, .ref 0)]) (st' := [.int 1]) rfl ?_
      refine G_ret rfl rfl rfl ?_
      exact ⟨rfl, by simp, by simp⟩
    · show am_G at_P at_cl at_ty _ mt_5 9 [(2, .ref 407), (0, .ref 1), (1, .int 2)] [.int 2] _ _
      refine G_ps 2 (pc' := 79) (l' := [(2, .ref 407), (0, .ref 1), (1, .int 2)]) (st' := [.ref 1]) rfl ?_
      refine G_get (i := 19) (ci := 0) (k := 1) (v := .ref 7) rfl rfl g0_1 rfl ?_
      show am_G at_P at_cl at_ty _ mt_5 82 [(2, .ref 407), (0, .ref 1), (1, .int 2)] [.ref 7] _ _
      refine G_get (i := 120) (ci := 2) (k := 2) (v := .ref 18) rfl rfl g0_7 rfl ?_
      show am_G at_P at_cl at_ty _ mt_5 85 [(2, .ref 407), (0, .ref 1), (1, .int 2)] [.ref 18] _ _
      refine G_get (i := 112) (ci := 3) (k := 4) (v := .int 0) rfl rfl g0_18 rfl ?_
      show am_G at_P at_cl at_ty _ mt_5 88 [(2, .ref 407), (0, .ref 1), (1, .int 2)] [.int 0] _ _
      refine G_ret rfl rfl rfl ?_
      show am_G at_P at_cl at_ty _ mt_law 324 [(4, .int 0), (3, .ref 1899), (2, .ref 1826), (1, .ref 1), (0, .ref 0)] [.int 0] _ _
      refine G_ps 5 (pc' := 330) (l' := [(4, .int 0), (3, .ref 1899), (2, .ref 1826), (1, .ref 1), (0, .ref 0)]) (st' := [.int 1, .ref 0, .ref 1826, .int 0]) rfl ?_
      refine G_ild (i := 1) rfl g0_0 (by decide) ?_
      show am_G at_P at_cl at_ty _ mt_law 331 [(4, .int 0), (3, .ref 1899), (2, .ref 1826), (1, .ref 1), (0, .ref 0)] [.int 2, .ref 1826, .int 0] _ _
      refine G_cv (i := 51) (j := 194) (b := 1826) (M' := mt_194) (xs := [.int 2]) (rest := [.int 0]) rfl rfl rfl rfl g0_1826 (Nat.le_of_ble_eq_true rfl) (Nat.le_of_ble_eq_true rfl) ?_ (fun _ _ _ _ h9 => h9)
      show am_G at_P at_cl at_ty _ mt_194 0 [(0, .ref 1826), (1, .int 2)] [] _ _
      refine G_ps 3 (pc' := 59) (l' := [(0, .ref 1826), (1, .int 2)]) (st' := [.ref 1826]) rfl ?_
      refine G_get (i := 325) (ci := 13) (k := 8) (v := .int 0) rfl rfl g0_1826 rfl ?_
      show am_G at_P at_cl at_ty _ mt_194 62 [(0, .ref 1826), (1, .int 2)] [.int 0] _ _
      refine G_ret rfl rfl rfl ?_
      show am_G at_P at_cl at_ty _ mt_law 334 [(4, .int 0), (3, .ref 1899), (2, .ref 1826), (1, .ref 1), (0, .ref 0)] [.int 0, .int 0] _ _
      refine G_ps 5 (pc' := 26) (l' := [(4, .int 6), (3, .ref 1899), (2, .ref 1826), (1, .ref 1), (0, .ref 0)]) (st' := [.ref 0, .int 6]) rfl ?_
      refine G_alen rfl g0_0 ?_
      show am_G at_P at_cl at_ty _ mt_law 27 [(4, .int 6), (3, .ref 1899), (2, .ref 1826), (1, .ref 1), (0, .ref 0)] [.int 6, .int 6] _ _
      refine G_ps 4 (pc' := 1004) (l' := [(4, .int 6), (3, .ref 1899), (2, .ref 1826), (1, .ref 1), (0, .ref 0)]) (st' := [.int 1]) rfl ?_
      refine G_ret rfl rfl rfl ?_
      exact ⟨rfl, by simp, by simp⟩
    · show am_G at_P at_cl at_ty _ mt_5 9 [(2, .ref 407), (0, .ref 1), (1, .int 3)] [.int 3] _ _
      refine G_ps 2 (pc' := 90) (l' := [(2, .ref 407), (0, .ref 1), (1, .int 3)]) (st' := [.ref 1]) rfl ?_
      refine G_get (i := 19) (ci := 0) (k := 1) (v := .ref 7) rfl rfl g0_1 rfl ?_
      show am_G at_P at_cl at_ty _ mt_5 93 [(2, .ref 407), (0, .ref 1), (1, .int 3)] [.ref 7] _ _
      refine G_get (i := 123) (ci := 2) (k := 5) (v := .int 0) rfl rfl g0_7 rfl ?_
      show am_G at_P at_cl at_ty _ mt_5 96 [(2, .ref 407), (0, .ref 1), (1, .int 3)] [.int 0] _ _
      refine G_ret rfl rfl rfl ?_
      show am_G at_P at_cl at_ty _ mt_law 324 [(4, .int 0), (3, .ref 1899), (2, .ref 1826), (1, .ref 1), (0, .ref 0)] [.int 0] _ _
      refine G_ps 5 (pc' := 330) (l' := [(4, .int 0), (3, .ref 1899), (2, .ref 1826), (1, .ref 1), (0, .ref 0)]) (st' := [.int 1, .ref 0, .ref 1826, .int 0]) rfl ?_
      refine G_ild (i := 1) rfl g0_0 (by decide) ?_
      show am_G at_P at_cl at_ty _ mt_law 331 [(4, .int 0), (3, .ref 1899), (2, .ref 1826), (1, .ref 1), (0, .ref 0)] [.int 3, .ref 1826, .int 0] _ _
      refine G_cv (i := 51) (j := 194) (b := 1826) (M' := mt_194) (xs := [.int 3]) (rest := [.int 0]) rfl rfl rfl rfl g0_1826 (Nat.le_of_ble_eq_true rfl) (Nat.le_of_ble_eq_true rfl) ?_ (fun _ _ _ _ h9 => h9)
      show am_G at_P at_cl at_ty _ mt_194 0 [(0, .ref 1826), (1, .int 3)] [] _ _
      refine G_ps 3 (pc' := 64) (l' := [(0, .ref 1826), (1, .int 3)]) (st' := [.ref 1826]) rfl ?_
      refine G_get (i := 376) (ci := 13) (k := 13) (v := .int 0) rfl rfl g0_1826 rfl ?_
      show am_G at_P at_cl at_ty _ mt_194 67 [(0, .ref 1826), (1, .int 3)] [.int 0] _ _
      refine G_ret rfl rfl rfl ?_
      show am_G at_P at_cl at_ty _ mt_law 334 [(4, .int 0), (3, .ref 1899), (2, .ref 1826), (1, .ref 1), (0, .ref 0)] [.int 0, .int 0] _ _
      refine G_ps 5 (pc' := 26) (l' := [(4, .int 6), (3, .ref 1899), (2, .ref 1826), (1, .ref 1), (0, .ref 0)]) (st' := [.ref 0, .int 6]) rfl ?_
      refine G_alen rfl g0_0 ?_
      show am_G at_P at_cl at_ty _ mt_law 27 [(4, .int 6), (3, .ref 1899), (2, .ref 1826), (1, .ref 1), (0, .ref 0)] [.int 6, .int 6] _ _
      refine G_ps 4 (pc' := 1004) (l' := [(4, .int 6), (3, .ref 1899), (2, .ref 1826), (1, .ref 1), (0, .ref 0)]) (st' := [.int 1]) rfl ?_
      refine G_ret rfl rfl rfl ?_
      exact ⟨rfl, by simp, by simp⟩
    · show am_G at_P at_cl at_ty _ mt_5 9 [(2, .ref 407), (0, .ref 1), (1, .int 4)] [.int 4] _ _
      refine G_ps 2 (pc' := 98) (l' := [(2, .ref 407), (0, .ref 1), (1, .int 4)]) (st' := [.ref 1]) rfl ?_
      refine G_get (i := 19) (ci := 0) (k := 1) (v := .ref 7) rfl rfl g0_1 rfl ?_
      show am_G at_P at_cl at_ty _ mt_5 101 [(2, .ref 407), (0, .ref 1), (1, .int 4)] [.ref 7] _ _
      refine G_get (i := 126) (ci := 2) (k := 6) (v := .int 0) rfl rfl g0_7 rfl ?_
      show am_G at_P at_cl at_ty _ mt_5 104 [(2, .ref 407), (0, .ref 1), (1, .int 4)] [.int 0] _ _
      refine G_ret rfl rfl rfl ?_
      show am_G at_P at_cl at_ty _ mt_law 324 [(4, .int 0), (3, .ref 1899), (2, .ref 1826), (1, .ref 1), (0, .ref 0)] [.int 0] _ _
      refine G_ps 5 (pc' := 330) (l' := [(4, .int 0), (3, .ref 1899), (2, .ref 1826), (1, .ref 1), (0, .ref 0)]) (st' := [.int 1, .ref 0, .ref 1826, .int 0]) rfl ?_
      refine G_ild (i := 1) rfl g0_0 (by decide) ?_
      show am_G at_P at_cl at_ty _ mt_law 331 [(4, .int 0), (3, .ref 1899), (2, .ref 1826), (1, .ref 1), (0, .ref 0)] [.int 4, .ref 1826, .int 0] _ _
      refine G_cv (i := 51) (j := 194) (b := 1826) (M' := mt_194) (xs := [.int 4]) (rest := [.int 0]) rfl rfl rfl rfl g0_1826 (Nat.le_of_ble_eq_true rfl) (Nat.le_of_ble_eq_true rfl) ?_ (fun _ _ _ _ h9 => h9)
      show am_G at_P at_cl at_ty _ mt_194 0 [(0, .ref 1826), (1, .int 4)] [] _ _
      refine G_ps 3 (pc' := 69) (l' := [(0, .ref 1826), (1, .int 4)]) (st' := [.ref 1826]) rfl ?_
      refine G_get (i := 387) (ci := 13) (k := 19) (v := .int 0) rfl rfl g0_1826 rfl ?_
      show am_G at_P at_cl at_ty _ mt_194 72 [(0, .ref 1826), (1, .int 4)] [.int 0] _ _
      refine G_ret rfl rfl rfl ?_
      show am_G at_P at_cl at_ty _ mt_law 334 [(4, .int 0), (3, .ref 1899), (2, .ref 1826), (1, .ref 1), (0, .ref 0)] [.int 0, .int 0] _ _
      refine G_ps 5 (pc' := 26) (l' := [(4, .int 6), (3, .ref 1899), (2, .ref 1826), (1, .ref 1), (0, .ref 0)]) (st' := [.ref 0, .int 6]) rfl ?_
      refine G_alen rfl g0_0 ?_
      show am_G at_P at_cl at_ty _ mt_law 27 [(4, .int 6), (3, .ref 1899), (2, .ref 1826), (1, .ref 1), (0, .ref 0)] [.int 6, .int 6] _ _
      refine G_ps 4 (pc' := 1004) (l' := [(4, .int 6), (3, .ref 1899), (2, .ref 1826), (1, .ref 1), (0, .ref 0)]) (st' := [.int 1]) rfl ?_
      refine G_ret rfl rfl rfl ?_
      exact ⟨rfl, by simp, by simp⟩
    · show am_G at_P at_cl at_ty _ mt_5 9 [(2, .ref 407), (0, .ref 1), (1, .int 5)] [.int 5] _ _
      refine G_ps 2 (pc' := 106) (l' := [(2, .ref 407), (0, .ref 1), (1, .int 5)]) (st' := [.ref 407]) rfl ?_
      refine G_get (i := 129) (ci := 11) (k := 2) (v := .int 0) rfl rfl g0_407 rfl ?_
      show am_G at_P at_cl at_ty _ mt_5 109 [(2, .ref 407), (0, .ref 1), (1, .int 5)] [.int 0] _ _
      refine G_ret rfl rfl rfl ?_
      show am_G at_P at_cl at_ty _ mt_law 324 [(4, .int 0), (3, .ref 1899), (2, .ref 1826), (1, .ref 1), (0, .ref 0)] [.int 0] _ _
      refine G_ps 5 (pc' := 330) (l' := [(4, .int 0), (3, .ref 1899), (2, .ref 1826), (1, .ref 1), (0, .ref 0)]) (st' := [.int 1, .ref 0, .ref 1826, .int 0]) rfl ?_
      refine G_ild (i := 1) rfl g0_0 (by decide) ?_
      show am_G at_P at_cl at_ty _ mt_law 331 [(4, .int 0), (3, .ref 1899), (2, .ref 1826), (1, .ref 1), (0, .ref 0)] [.int 5, .ref 1826, .int 0] _ _
      refine G_cv (i := 51) (j := 194) (b := 1826) (M' := mt_194) (xs := [.int 5]) (rest := [.int 0]) rfl rfl rfl rfl g0_1826 (Nat.le_of_ble_eq_true rfl) (Nat.le_of_ble_eq_true rfl) ?_ (fun _ _ _ _ h9 => h9)
      show am_G at_P at_cl at_ty _ mt_194 0 [(0, .ref 1826), (1, .int 5)] [] _ _
      refine G_ps 3 (pc' := 74) (l' := [(0, .ref 1826), (1, .int 5)]) (st' := [.ref 1826]) rfl ?_
      refine G_get (i := 414) (ci := 13) (k := 77) (v := .int 0) rfl rfl g0_1826 rfl ?_
      show am_G at_P at_cl at_ty _ mt_194 77 [(0, .ref 1826), (1, .int 5)] [.int 0] _ _
      refine G_ret rfl rfl rfl ?_
      show am_G at_P at_cl at_ty _ mt_law 334 [(4, .int 0), (3, .ref 1899), (2, .ref 1826), (1, .ref 1), (0, .ref 0)] [.int 0, .int 0] _ _
      refine G_ps 5 (pc' := 26) (l' := [(4, .int 6), (3, .ref 1899), (2, .ref 1826), (1, .ref 1), (0, .ref 0)]) (st' := [.ref 0, .int 6]) rfl ?_
      refine G_alen rfl g0_0 ?_
      show am_G at_P at_cl at_ty _ mt_law 27 [(4, .int 6), (3, .ref 1899), (2, .ref 1826), (1, .ref 1), (0, .ref 0)] [.int 6, .int 6] _ _
      refine G_ps 4 (pc' := 1004) (l' := [(4, .int 6), (3, .ref 1899), (2, .ref 1826), (1, .ref 1), (0, .ref 0)]) (st' := [.int 1]) rfl ?_
      refine G_ret rfl rfl rfl ?_
      exact ⟨rfl, by simp, by simp⟩
    · show am_G at_P at_cl at_ty _ mt_5 9 [(2, .ref 407), (0, .ref 1), (1, .int 6)] [.int 6] _ _
      refine G_ps 2 (pc' := 111) (l' := [(2, .ref 407), (0, .ref 1), (1, .int 6)]) (st' := [.ref 407]) rfl ?_
      refine G_get (i := 132) (ci := 11) (k := 3) (v := .int 0) rfl rfl g0_407 rfl ?_
      show am_G at_P at_cl at_ty _ mt_5 114 [(2, .ref 407), (0, .ref 1), (1, .int 6)] [.int 0] _ _
      refine G_ret rfl rfl rfl ?_
      show am_G at_P at_cl at_ty _ mt_law 324 [(4, .int 0), (3, .ref 1899), (2, .ref 1826), (1, .ref 1), (0, .ref 0)] [.int 0] _ _
      refine G_ps 5 (pc' := 330) (l' := [(4, .int 0), (3, .ref 1899), (2, .ref 1826), (1, .ref 1), (0, .ref 0)]) (st' := [.int 1, .ref 0, .ref 1826, .int 0]) rfl ?_
      refine G_ild (i := 1) rfl g0_0 (by decide) ?_
      show am_G at_P at_cl at_ty _ mt_law 331 [(4, .int 0), (3, .ref 1899), (2, .ref 1826), (1, .ref 1), (0, .ref 0)] [.int 6, .ref 1826, .int 0] _ _
      refine G_cv (i := 51) (j := 194) (b := 1826) (M' := mt_194) (xs := [.int 6]) (rest := [.int 0]) rfl rfl rfl rfl g0_1826 (Nat.le_of_ble_eq_true rfl) (Nat.le_of_ble_eq_true rfl) ?_ (fun _ _ _ _ h9 => h9)
      show am_G at_P at_cl at_ty _ mt_194 0 [(0, .ref 1826), (1, .int 6)] [] _ _
      refine G_ps 3 (pc' := 79) (l' := [(0, .ref 1826), (1, .int 6)]) (st' := [.ref 1826]) rfl ?_
      refine G_get (i := 417) (ci := 13) (k := 76) (v := .int 0) rfl rfl g0_1826 rfl ?_
      show am_G at_P at_cl at_ty _ mt_194 82 [(0, .ref 1826), (1, .int 6)] [.int 0] _ _
      refine G_ret rfl rfl rfl ?_
      show am_G at_P at_cl at_ty _ mt_law 334 [(4, .int 0), (3, .ref 1899), (2, .ref 1826), (1, .ref 1), (0, .ref 0)] [.int 0, .int 0] _ _
      refine G_ps 5 (pc' := 26) (l' := [(4, .int 6), (3, .ref 1899), (2, .ref 1826), (1, .ref 1), (0, .ref 0)]) (st' := [.ref 0, .int 6]) rfl ?_
      refine G_alen rfl g0_0 ?_
      show am_G at_P at_cl at_ty _ mt_law 27 [(4, .int 6), (3, .ref 1899), (2, .ref 1826), (1, .ref 1), (0, .ref 0)] [.int 6, .int 6] _ _
      refine G_ps 4 (pc' := 1004) (l' := [(4, .int 6), (3, .ref 1899), (2, .ref 1826), (1, .ref 1), (0, .ref 0)]) (st' := [.int 1]) rfl ?_
      refine G_ret rfl rfl rfl ?_
      exact ⟨rfl, by simp, by simp⟩
    · show am_G at_P at_cl at_ty _ mt_5 9 [(2, .ref 407), (0, .ref 1), (1, .int 7)] [.int 7] _ _
      refine G_ps 2 (pc' := 116) (l' := [(2, .ref 407), (0, .ref 1), (1, .int 7)]) (st' := [.ref 407]) rfl ?_
      refine G_get (i := 129) (ci := 11) (k := 2) (v := .int 0) rfl rfl g0_407 rfl ?_
      show am_G at_P at_cl at_ty _ mt_5 119 [(2, .ref 407), (0, .ref 1), (1, .int 7)] [.int 0] _ _
      refine G_ps 2 (pc' := 135) (l' := [(2, .ref 407), (0, .ref 1), (1, .int 7)]) (st' := [.int 0]) rfl ?_
      refine G_ret rfl rfl rfl ?_
      show am_G at_P at_cl at_ty _ mt_law 324 [(4, .int 0), (3, .ref 1899), (2, .ref 1826), (1, .ref 1), (0, .ref 0)] [.int 0] _ _
      refine G_ps 5 (pc' := 330) (l' := [(4, .int 0), (3, .ref 1899), (2, .ref 1826), (1, .ref 1), (0, .ref 0)]) (st' := [.int 1, .ref 0, .ref 1826, .int 0]) rfl ?_
      refine G_ild (i := 1) rfl g0_0 (by decide) ?_
      show am_G at_P at_cl at_ty _ mt_law 331 [(4, .int 0), (3, .ref 1899), (2, .ref 1826), (1, .ref 1), (0, .ref 0)] [.int 7, .ref 1826, .int 0] _ _
      refine G_cv (i := 51) (j := 194) (b := 1826) (M' := mt_194) (xs := [.int 7]) (rest := [.int 0]) rfl rfl rfl rfl g0_1826 (Nat.le_of_ble_eq_true rfl) (Nat.le_of_ble_eq_true rfl) ?_ (fun _ _ _ _ h9 => h9)
      show am_G at_P at_cl at_ty _ mt_194 0 [(0, .ref 1826), (1, .int 7)] [] _ _
      refine G_ps 3 (pc' := 84) (l' := [(0, .ref 1826), (1, .int 7)]) (st' := [.ref 1826]) rfl ?_
      refine G_get (i := 414) (ci := 13) (k := 77) (v := .int 0) rfl rfl g0_1826 rfl ?_
      show am_G at_P at_cl at_ty _ mt_194 87 [(0, .ref 1826), (1, .int 7)] [.int 0] _ _
      refine G_ps 2 (pc' := 100) (l' := [(0, .ref 1826), (1, .int 7)]) (st' := [.int 0]) rfl ?_
      refine G_ret rfl rfl rfl ?_
      show am_G at_P at_cl at_ty _ mt_law 334 [(4, .int 0), (3, .ref 1899), (2, .ref 1826), (1, .ref 1), (0, .ref 0)] [.int 0, .int 0] _ _
      refine G_ps 5 (pc' := 26) (l' := [(4, .int 6), (3, .ref 1899), (2, .ref 1826), (1, .ref 1), (0, .ref 0)]) (st' := [.ref 0, .int 6]) rfl ?_
      refine G_alen rfl g0_0 ?_
      show am_G at_P at_cl at_ty _ mt_law 27 [(4, .int 6), (3, .ref 1899), (2, .ref 1826), (1, .ref 1), (0, .ref 0)] [.int 6, .int 6] _ _
      refine G_ps 4 (pc' := 1004) (l' := [(4, .int 6), (3, .ref 1899), (2, .ref 1826), (1, .ref 1), (0, .ref 0)]) (st' := [.int 1]) rfl ?_
      refine G_ret rfl rfl rfl ?_
      exact ⟨rfl, by simp, by simp⟩
