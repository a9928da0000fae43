/-! the law on fresh objects and a script of six ints: from each case to its end -/
set_option maxRecDepth 100000 in
set_option maxHeartbeats 4000000 in
theorem lc_2 (S : am_S) (y0 y1 y2 y3 y4 y5 : Int32) (g0_0 : am_nth S 0 = some (6, some (.inl (.int, 6, .int 0, [(0, .int y0), (1, .int y1), (2, .int y2), (3, .int y3), (4, .int y4), (5, .int y5)])))) (g0_1 : am_nth S 1 = some (9, some (.inr (0, [.ref 2, .ref 7, .ref 361, .ref 363, .ref 366, .ref 372, .ref 406, .ref 1824, .int 0])))) (g0_2 : am_nth S 2 = some (6, some (.inr (1, [.ref 3, .int 0, .ref 4, .ref 5, .ref 6, .int 0])))) (g0_4 : am_nth S 4 = some (1001, some (.inl (.int, 1001, .int 0, [])))) (g0_5 : am_nth S 5 = some (1001, some (.inl (.int, 1001, .int 0, [])))) (g0_6 : am_nth S 6 = some (1001, some (.inl (.long, 1001, .long 0, [])))) (g0_7 : am_nth S 7 = some (7, some (.inr (2, [.ref 8, .ref 13, .ref 18, .ref 23, .ref 24, .int 0, .int 0])))) (g0_8 : am_nth S 8 = some (5, some (.inr (3, [.ref 9, .ref 10, .ref 11, .ref 12, .int 0])))) (g0_13 : am_nth S 13 = some (5, some (.inr (3, [.ref 14, .ref 15, .ref 16, .ref 17, .int 0])))) (g0_18 : am_nth S 18 = some (5, some (.inr (3, [.ref 19, .ref 20, .ref 21, .ref 22, .int 0])))) (g0_361 : am_nth S 361 = some (10, some (.inr (6, [.ref 2, .ref 7, .ref 362, .int 0, .int 0, .int 0, .int 0, .ref 25, .ref 26, .int 0])))) (g0_406 : am_nth S 406 = some (19, some (.inr (10, [.ref 7, .ref 366, .ref 407, .ref 878, .ref 1349, .ref 1350, .ref 1350, .ref 1350, .long 0, .long 0, .ref 409, .ref 1352, .ref 1354, .int 0, .int 0, .long 0, .int 0, .int 0, .int 0])))) (g0_407 : am_nth S 407 = some (9, some (.inr (11, [.ref 408, .ref 409, .int 0, .int 0, .int 0, .int 0, .int 0, .long 0, .long 0])))) (g0_1826 : am_nth S 1826 = some (115, some (.inr (13, [.int 0, .int 0, .ref 1827, .int 0, .ref 1828, .ref 1829, .ref 1830, .ref 1831, .int 0, .ref 1832, .ref 1833, .ref 1834, .ref 1835, .int 0, .ref 1836, .ref 1837, .ref 1838, .ref 1839, .ref 1840, .int 0, .ref 1841, .ref 1842, .ref 1843, .ref 1844, .ref 1845, .ref 1846, .ref 1847, .ref 1848, .int 0, .int 0, .int 0, .int 0, .int 0, .long 0, .int 0, .int 0, .int 0, .ref 1849, .ref 1850, .int 0, .int 0, .int 0, .ref 1851, .int 0, .int 0, .ref 1852, .ref 1853, .int 0, .ref 1854, .ref 1855, .int 0, .int 0, .ref 1856, .int 0, .ref 1857, .int 0, .int 0, .int 0, .ref 1858, .int 0, .ref 1859, .ref 1860, .ref 1861, .ref 1862, .ref 1863, .ref 1864, .ref 1865, .int (-1), .ref 1866, .ref 1867, .ref 1868, .ref 1869, .int 0, .ref 1870, .int (-1), .int 0, .int 0, .int 0, .ref 1871, .ref 1872, .ref 1873, .ref 1874, .ref 1875, .ref 1876, .ref 1877, .ref 1878, .ref 1879, .ref 1880, .ref 1881, .int 0, .ref 1882, .ref 1883, .ref 1884, .int 0, .ref 1885, .int 0, .ref 1886, .int (-1), .ref 1887, .int 0, .ref 1888, .int 0, .ref 1889, .ref 1890, .ref 1891, .ref 1892, .ref 1893, .ref 1894, .ref 1895, .ref 1896, .ref 1897, .ref 1898, .int 0, .int 0, .int 0])))) : am_G at_P at_cl at_ty 12 mt_law 288 [(4, .int 0), (3, .ref 1899), (2, .ref 1826), (1, .ref 1), (0, .ref 0)] [] S (fun r _ c n => r = some (.int 1) ∧ c = 0 ∧ n = 0) := by
  have hs0 : am_same [2, 4, 5, 6, 361, 407, 1826] S S := am_same_rf _ _
  refine G_ps 1 (pc' := 289) (l' := [(4, .int 0), (3, .ref 1899), (2, .ref 1826), (1, .ref 1), (0, .ref 0)]) (st' := [.ref 1]) rfl ?_
  refine G_cv (i := 39) (j := 3) (b := 1) (M' := mt_3) (xs := []) (rest := []) rfl rfl rfl rfl g0_1 (Nat.le_of_ble_eq_true rfl) (Nat.le_of_ble_eq_true rfl) ?_ (fun _ _ _ _ h9 => h9)
  show am_G at_P at_cl at_ty _ mt_3 0 [(0, .ref 1)] [] _ _
  refine G_ps 1 (pc' := 1) (l' := [(0, .ref 1)]) (st' := [.ref 1]) rfl ?_
  refine G_get (i := 28) (ci := 0) (k := 2) (v := .ref 361) rfl rfl g0_1 rfl ?_
  show am_G at_P at_cl at_ty _ mt_3 4 [(0, .ref 1)] [.ref 361] _ _
  refine G_cv (i := 92) (j := 62) (b := 361) (M' := mt_62) (xs := []) (rest := []) rfl rfl rfl rfl g0_361 (Nat.le_of_ble_eq_true rfl) (Nat.le_of_ble_eq_true rfl) ?_ (fun _ _ _ _ h9 => h9)
  show am_G at_P at_cl at_ty _ mt_62 0 [(0, .ref 361)] [] _ _
  refine G_ps 1 (pc' := 1) (l' := [(0, .ref 361)]) (st' := [.ref 361]) rfl ?_
  refine G_get (i := 19) (ci := 6) (k := 1) (v := .ref 7) rfl rfl g0_361 rfl ?_
  show am_G at_P at_cl at_ty _ mt_62 4 [(0, .ref 361)] [.ref 7] _ _
  refine G_get (i := 42) (ci := 2) (k := 0) (v := .ref 8) rfl rfl g0_7 rfl ?_
  show am_G at_P at_cl at_ty _ mt_62 7 [(0, .ref 361)] [.ref 8] _ _
  refine G_get (i := 46) (ci := 3) (k := 4) (v := .int 0) rfl rfl g0_8 rfl ?_
  show am_G at_P at_cl at_ty _ mt_62 10 [(0, .ref 361)] [.int 0] _ _
  refine G_ps 2 (pc' := 12) (l' := [(1, .int 0), (0, .ref 361)]) (st' := [.ref 361]) rfl ?_
  refine G_get (i := 19) (ci := 6) (k := 1) (v := .ref 7) rfl rfl g0_361 rfl ?_
  show am_G at_P at_cl at_ty _ mt_62 15 [(1, .int 0), (0, .ref 361)] [.ref 7] _ _
  refine G_get (i := 52) (ci := 2) (k := 1) (v := .ref 13) rfl rfl g0_7 rfl ?_
  show am_G at_P at_cl at_ty _ mt_62 18 [(1, .int 0), (0, .ref 361)] [.ref 13] _ _
  refine G_get (i := 46) (ci := 3) (k := 4) (v := .int 0) rfl rfl g0_13 rfl ?_
  show am_G at_P at_cl at_ty _ mt_62 21 [(1, .int 0), (0, .ref 361)] [.int 0] _ _
  refine G_ps 2 (pc' := 23) (l' := [(2, .int 0), (1, .int 0), (0, .ref 361)]) (st' := [.ref 361]) rfl ?_
  refine G_get (i := 19) (ci := 6) (k := 1) (v := .ref 7) rfl rfl g0_361 rfl ?_
  show am_G at_P at_cl at_ty _ mt_62 26 [(2, .int 0), (1, .int 0), (0, .ref 361)] [.ref 7] _ _
  refine G_get (i := 55) (ci := 2) (k := 2) (v := .ref 18) rfl rfl g0_7 rfl ?_
  show am_G at_P at_cl at_ty _ mt_62 29 [(2, .int 0), (1, .int 0), (0, .ref 361)] [.ref 18] _ _
  refine G_get (i := 46) (ci := 3) (k := 4) (v := .int 0) rfl rfl g0_18 rfl ?_
  show am_G at_P at_cl at_ty _ mt_62 32 [(2, .int 0), (1, .int 0), (0, .ref 361)] [.int 0] _ _
  refine G_ps 2 (pc' := 34) (l' := [(3, .int 0), (2, .int 0), (1, .int 0), (0, .ref 361)]) (st' := [.ref 361]) rfl ?_
  refine G_get (i := 19) (ci := 6) (k := 1) (v := .ref 7) rfl rfl g0_361 rfl ?_
  show am_G at_P at_cl at_ty _ mt_62 37 [(3, .int 0), (2, .int 0), (1, .int 0), (0, .ref 361)] [.ref 7] _ _
  refine G_get (i := 58) (ci := 2) (k := 5) (v := .int 0) rfl rfl g0_7 rfl ?_
  show am_G at_P at_cl at_ty _ mt_62 40 [(3, .int 0), (2, .int 0), (1, .int 0), (0, .ref 361)] [.int 0] _ _
  refine G_ps 2 (pc' := 43) (l' := [(4, .int 0), (3, .int 0), (2, .int 0), (1, .int 0), (0, .ref 361)]) (st' := [.ref 361]) rfl ?_
  refine G_get (i := 19) (ci := 6) (k := 1) (v := .ref 7) rfl rfl g0_361 rfl ?_
  show am_G at_P at_cl at_ty _ mt_62 46 [(4, .int 0), (3, .int 0), (2, .int 0), (1, .int 0), (0, .ref 361)] [.ref 7] _ _
  refine G_get (i := 61) (ci := 2) (k := 6) (v := .int 0) rfl rfl g0_7 rfl ?_
  show am_G at_P at_cl at_ty _ mt_62 49 [(4, .int 0), (3, .int 0), (2, .int 0), (1, .int 0), (0, .ref 361)] [.int 0] _ _
  refine G_ps 2 (pc' := 52) (l' := [(5, .int 0), (4, .int 0), (3, .int 0), (2, .int 0), (1, .int 0), (0, .ref 361)]) (st' := [.ref 361]) rfl ?_
  refine G_get (i := 15) (ci := 6) (k := 0) (v := .ref 2) rfl rfl g0_361 rfl ?_
  show am_G at_P at_cl at_ty _ mt_62 55 [(5, .int 0), (4, .int 0), (3, .int 0), (2, .int 0), (1, .int 0), (0, .ref 361)] [.ref 2] _ _
  refine G_cv (i := 64) (j := 27) (b := 2) (M' := mt_27) (xs := []) (rest := []) rfl rfl rfl rfl g0_2 (Nat.le_of_ble_eq_true rfl) (Nat.le_of_ble_eq_true rfl) ?_ (fun _ _ _ _ h9 => h9)
  show am_G at_P at_cl at_ty _ mt_27 0 [(0, .ref 2)] [] _ _
  refine G_ps 2 (pc' := 2) (l' := [(0, .ref 2)]) (st' := [.int 0, .ref 2]) rfl ?_
  refine G_put (i := 29) (ci := 1) (k := 5) (v := .int 0) rfl rfl g0_2 rfl rfl ?_
  obtain ⟨S1, eS1⟩ : ∃ T9 : am_S, T9 = am_set S 2 (6, some (.inr (1, [.ref 3, .int 0, .ref 4, .ref 5, .ref 6, .int 0]))) := ⟨_, rfl⟩
  show am_G at_P at_cl at_ty _ mt_27 5 [(0, .ref 2)] [] (am_set S 2 (6, some (.inr (1, [.ref 3, .int 0, .ref 4, .ref 5, .ref 6, .int 0])))) _
  rw [← eS1]
  have hs1 : am_same [2, 4, 5, 6, 361, 407, 1826] S S1 := by rw [eS1]; exact am_same_set hs0 g0_2 (by decide)
  have g1_1 : am_nth S1 1 = some (9, some (.inr (0, [.ref 2, .ref 7, .ref 361, .ref 363, .ref 366, .ref 372, .ref 406, .ref 1824, .int 0]))) := by rw [eS1]; exact am_nth_ne g0_2 (by decide) g0_1
  have g1_2 : am_nth S1 2 = some (6, some (.inr (1, [.ref 3, .int 0, .ref 4, .ref 5, .ref 6, .int 0]))) := by rw [eS1]; exact am_nth_self g0_2
  have g1_4 : am_nth S1 4 = some (1001, some (.inl (.int, 1001, .int 0, []))) := by rw [eS1]; exact am_nth_ne g0_2 (by decide) g0_4
  have g1_5 : am_nth S1 5 = some (1001, some (.inl (.int, 1001, .int 0, []))) := by rw [eS1]; exact am_nth_ne g0_2 (by decide) g0_5
  have g1_6 : am_nth S1 6 = some (1001, some (.inl (.long, 1001, .long 0, []))) := by rw [eS1]; exact am_nth_ne g0_2 (by decide) g0_6
  have g1_7 : am_nth S1 7 = some (7, some (.inr (2, [.ref 8, .ref 13, .ref 18, .ref 23, .ref 24, .int 0, .int 0]))) := by rw [eS1]; exact am_nth_ne g0_2 (by decide) g0_7
  have g1_8 : am_nth S1 8 = some (5, some (.inr (3, [.ref 9, .ref 10, .ref 11, .ref 12, .int 0]))) := by rw [eS1]; exact am_nth_ne g0_2 (by decide) g0_8
  have g1_13 : am_nth S1 13 = some (5, some (.inr (3, [.ref 14, .ref 15, .ref 16, .ref 17, .int 0]))) := by rw [eS1]; exact am_nth_ne g0_2 (by decide) g0_13
  have g1_18 : am_nth S1 18 = some (5, some (.inr (3, [.ref 19, .ref 20, .ref 21, .ref 22, .int 0]))) := by rw [eS1]; exact am_nth_ne g0_2 (by decide) g0_18
  have g1_361 : am_nth S1 361 = some (10, some (.inr (6, [.ref 2, .ref 7, .ref 362, .int 0, .int 0, .int 0, .int 0, .ref 25, .ref 26, .int 0]))) := by rw [eS1]; exact am_nth_ne g0_2 (by decide) g0_361
  have g1_406 : am_nth S1 406 = some (19, some (.inr (10, [.ref 7, .ref 366, .ref 407, .ref 878, .ref 1349, .ref 1350, .ref 1350, .ref 1350, .long 0, .long 0, .ref 409, .ref 1352, .ref 1354, .int 0, .int 0, .long 0, .int 0, .int 0, .int 0]))) := by rw [eS1]; exact am_nth_ne g0_2 (by decide) g0_406
  have g1_407 : am_nth S1 407 = some (9, some (.inr (11, [.ref 408, .ref 409, .int 0, .int 0, .int 0, .int 0, .int 0, .long 0, .long 0]))) := by rw [eS1]; exact am_nth_ne g0_2 (by decide) g0_407
  have g1_1826 : am_nth S1 1826 = some (115, some (.inr (13, [.int 0, .int 0, .ref 1827, .int 0, .ref 1828, .ref 1829, .ref 1830, .ref 1831, .int 0, .ref 1832, .ref 1833, .ref 1834, .ref 1835, .int 0, .ref 1836, .ref 1837, .ref 1838, .ref 1839, .ref 1840, .int 0, .ref 1841, .ref 1842, .ref 1843, .ref 1844, .ref 1845, .ref 1846, .ref 1847, .ref 1848, .int 0, .int 0, .int 0, .int 0, .int 0, .long 0, .int 0, .int 0, .int 0, .ref 1849, .ref 1850, .int 0, .int 0, .int 0, .ref 1851, .int 0, .int 0, .ref 1852, .ref 1853, .int 0, .ref 1854, .ref 1855, .int 0, .int 0, .ref 1856, .int 0, .ref 1857, .int 0, .int 0, .int 0, .ref 1858, .int 0, .ref 1859, .ref 1860, .ref 1861, .ref 1862, .ref 1863, .ref 1864, .ref 1865, .int (-1), .ref 1866, .ref 1867, .ref 1868, .ref 1869, .int 0, .ref 1870, .int (-1), .int 0, .int 0, .int 0, .ref 1871, .ref 1872, .ref 1873, .ref 1874, .ref 1875, .ref 1876, .ref 1877, .ref 1878, .ref 1879, .ref 1880, .ref 1881, .int 0, .ref 1882, .ref 1883, .ref 1884, .int 0, .ref 1885, .int 0, .ref 1886, .int (-1), .ref 1887, .int 0, .ref 1888, .int 0, .ref 1889, .ref 1890, .ref 1891, .ref 1892, .ref 1893, .ref 1894, .ref 1895, .ref 1896, .ref 1897, .ref 1898, .int 0, .int 0, .int 0]))) := by rw [eS1]; exact am_nth_ne g0_2 (by decide) g0_1826
  have g1_0 : am_nth S1 0 = some (6, some (.inl (.int, 6, .int 0, [(0, .int y0), (1, .int y1), (2, .int y2), (3, .int y3), (4, .int y4), (5, .int y5)]))) := by rw [eS1]; exact g0_0
  refine G_ps 8 (pc' := 13) (l' := [(3, .int 0), (2, .int 0), (1, .int 0), (0, .ref 2)]) (st' := [.ref 2, .int 0]) rfl ?_
  refine G_get (i := 25) (ci := 1) (k := 1) (v := .int 0) rfl rfl g1_2 rfl ?_
  show am_G at_P at_cl at_ty _ mt_27 16 [(3, .int 0), (2, .int 0), (1, .int 0), (0, .ref 2)] [.int 0, .int 0] _ _
  refine G_ps 4 (pc' := 145) (l' := [(3, .int 0), (2, .int 0), (1, .int 0), (0, .ref 2)]) (st' := [.ref 2, .int 0, .ref 2]) rfl ?_
  refine G_get (i := 25) (ci := 1) (k := 1) (v := .int 0) rfl rfl g1_2 rfl ?_
  show am_G at_P at_cl at_ty _ mt_27 148 [(3, .int 0), (2, .int 0), (1, .int 0), (0, .ref 2)] [.int 0, .int 0, .ref 2] _ _
  refine G_ps 1 (pc' := 149) (l' := [(3, .int 0), (2, .int 0), (1, .int 0), (0, .ref 2)]) (st' := [.long 0, .int 0, .int 0, .ref 2]) rfl ?_
  refine G_cv (i := 51) (j := 28) (b := 2) (M' := mt_28) (xs := [.long 0, .int 0, .int 0]) (rest := []) rfl rfl rfl rfl g1_2 (Nat.le_of_ble_eq_true rfl) (Nat.le_of_ble_eq_true rfl) ?_ (fun _ _ _ _ h9 => h9)
  show am_G at_P at_cl at_ty _ mt_28 0 [(0, .ref 2), (1, .int 0), (2, .int 0), (3, .long 0)] [] _ _
  refine G_ps 1 (pc' := 1) (l' := [(0, .ref 2), (1, .int 0), (2, .int 0), (3, .long 0)]) (st' := [.ref 2]) rfl ?_
  refine G_get (i := 29) (ci := 1) (k := 5) (v := .int 0) rfl rfl g1_2 rfl ?_
  show am_G at_P at_cl at_ty _ mt_28 4 [(0, .ref 2), (1, .int 0), (2, .int 0), (3, .long 0)] [.int 0] _ _
  refine G_ps 1 (pc' := 5) (l' := [(0, .ref 2), (1, .int 0), (2, .int 0), (3, .long 0)]) (st' := [.ref 2, .int 0]) rfl ?_
  refine G_get (i := 15) (ci := 1) (k := 2) (v := .ref 4) rfl rfl g1_2 rfl ?_
  show am_G at_P at_cl at_ty _ mt_28 8 [(0, .ref 2), (1, .int 0), (2, .int 0), (3, .long 0)] [.ref 4, .int 0] _ _
  refine G_alen rfl g1_4 ?_
  show am_G at_P at_cl at_ty _ mt_28 9 [(0, .ref 2), (1, .int 0), (2, .int 0), (3, .long 0)] [.int 1001, .int 0] _ _
  refine G_ps 2 (pc' := 13) (l' := [(0, .ref 2), (1, .int 0), (2, .int 0), (3, .long 0)]) (st' := [.ref 2]) rfl ?_
  refine G_get (i := 15) (ci := 1) (k := 2) (v := .ref 4) rfl rfl g1_2 rfl ?_
  show am_G at_P at_cl at_ty _ mt_28 16 [(0, .ref 2), (1, .int 0), (2, .int 0), (3, .long 0)] [.ref 4] _ _
  refine G_ps 1 (pc' := 17) (l' := [(0, .ref 2), (1, .int 0), (2, .int 0), (3, .long 0)]) (st' := [.ref 2, .ref 4]) rfl ?_
  refine G_get (i := 29) (ci := 1) (k := 5) (v := .int 0) rfl rfl g1_2 rfl ?_
  show am_G at_P at_cl at_ty _ mt_28 20 [(0, .ref 2), (1, .int 0), (2, .int 0), (3, .long 0)] [.int 0, .ref 4] _ _
  refine G_ps 1 (pc' := 21) (l' := [(0, .ref 2), (1, .int 0), (2, .int 0), (3, .long 0)]) (st' := [.int 0, .int 0, .ref 4]) rfl ?_
  refine G_ist (i := 0) (x := 0) rfl g1_4 (by decide) ?_
  obtain ⟨S2, eS2⟩ : ∃ T9 : am_S, T9 = am_set S1 4 (1001, some (.inl (.int, 1001, .int 0, [(0, .int 0)]))) := ⟨_, rfl⟩
  show am_G at_P at_cl at_ty _ mt_28 22 [(0, .ref 2), (1, .int 0), (2, .int 0), (3, .long 0)] [] (am_set S1 4 (1001, some (.inl (.int, 1001, .int 0, [(0, .int 0)])))) _
  rw [← eS2]
  have hs2 : am_same [2, 4, 5, 6, 361, 407, 1826] S S2 := by rw [eS2]; exact am_same_set hs1 g1_4 (by decide)
  have g2_1 : am_nth S2 1 = some (9, some (.inr (0, [.ref 2, .ref 7, .ref 361, .ref 363, .ref 366, .ref 372, .ref 406, .ref 1824, .int 0]))) := by rw [eS2]; exact am_nth_ne g1_4 (by decide) g1_1
  have g2_2 : am_nth S2 2 = some (6, some (.inr (1, [.ref 3, .int 0, .ref 4, .ref 5, .ref 6, .int 0]))) := by rw [eS2]; exact am_nth_ne g1_4 (by decide) g1_2
  have g2_4 : am_nth S2 4 = some (1001, some (.inl (.int, 1001, .int 0, [(0, .int 0)]))) := by rw [eS2]; exact am_nth_self g1_4
  have g2_5 : am_nth S2 5 = some (1001, some (.inl (.int, 1001, .int 0, []))) := by rw [eS2]; exact am_nth_ne g1_4 (by decide) g1_5
  have g2_6 : am_nth S2 6 = some (1001, some (.inl (.long, 1001, .long 0, []))) := by rw [eS2]; exact am_nth_ne g1_4 (by decide) g1_6
  have g2_7 : am_nth S2 7 = some (7, some (.inr (2, [.ref 8, .ref 13, .ref 18, .ref 23, .ref 24, .int 0, .int 0]))) := by rw [eS2]; exact am_nth_ne g1_4 (by decide) g1_7
  have g2_8 : am_nth S2 8 = some (5, some (.inr (3, [.ref 9, .ref 10, .ref 11, .ref 12, .int 0]))) := by rw [eS2]; exact am_nth_ne g1_4 (by decide) g1_8
  have g2_13 : am_nth S2 13 = some (5, some (.inr (3, [.ref 14, .ref 15, .ref 16, .ref 17, .int 0]))) := by rw [eS2]; exact am_nth_ne g1_4 (by decide) g1_13
  have g2_18 : am_nth S2 18 = some (5, some (.inr (3, [.ref 19, .ref 20, .ref 21, .ref 22, .int 0]))) := by rw [eS2]; exact am_nth_ne g1_4 (by decide) g1_18
  have g2_361 : am_nth S2 361 = some (10, some (.inr (6, [.ref 2, .ref 7, .ref 362, .int 0, .int 0, .int 0, .int 0, .ref 25, .ref 26, .int 0]))) := by rw [eS2]; exact am_nth_ne g1_4 (by decide) g1_361
  have g2_406 : am_nth S2 406 = some (19, some (.inr (10, [.ref 7, .ref 366, .ref 407, .ref 878, .ref 1349, .ref 1350, .ref 1350, .ref 1350, .long 0, .long 0, .ref 409, .ref 1352, .ref 1354, .int 0, .int 0, .long 0, .int 0, .int 0, .int 0]))) := by rw [eS2]; exact am_nth_ne g1_4 (by decide) g1_406
  have g2_407 : am_nth S2 407 = some (9, some (.inr (11, [.ref 408, .ref 409, .int 0, .int 0, .int 0, .int 0, .int 0, .long 0, .long 0]))) := by rw [eS2]; exact am_nth_ne g1_4 (by decide) g1_407
  have g2_1826 : am_nth S2 1826 = some (115, some (.inr (13, [.int 0, .int 0, .ref 1827, .int 0, .ref 1828, .ref 1829, .ref 1830, .ref 1831, .int 0, .ref 1832, .ref 1833, .ref 1834, .ref 1835, .int 0, .ref 1836, .ref 1837, .ref 1838, .ref 1839, .ref 1840, .int 0, .ref 1841, .ref 1842, .ref 1843, .ref 1844, .ref 1845, .ref 1846, .ref 1847, .ref 1848, .int 0, .int 0, .int 0, .int 0, .int 0, .long 0, .int 0, .int 0, .int 0, .ref 1849, .ref 1850, .int 0, .int 0, .int 0, .ref 1851, .int 0, .int 0, .ref 1852, .ref 1853, .int 0, .ref 1854, .ref 1855, .int 0, .int 0, .ref 1856, .int 0, .ref 1857, .int 0, .int 0, .int 0, .ref 1858, .int 0, .ref 1859, .ref 1860, .ref 1861, .ref 1862, .ref 1863, .ref 1864, .ref 1865, .int (-1), .ref 1866, .ref 1867, .ref 1868, .ref 1869, .int 0, .ref 1870, .int (-1), .int 0, .int 0, .int 0, .ref 1871, .ref 1872, .ref 1873, .ref 1874, .ref 1875, .ref 1876, .ref 1877, .ref 1878, .ref 1879, .ref 1880, .ref 1881, .int 0, .ref 1882, .ref 1883, .ref 1884, .int 0, .ref 1885, .int 0, .ref 1886, .int (-1), .ref 1887, .int 0, .ref 1888, .int 0, .ref 1889, .ref 1890, .ref 1891, .ref 1892, .ref 1893, .ref 1894, .ref 1895, .ref 1896, .ref 1897, .ref 1898, .int 0, .int 0, .int 0]))) := by rw [eS2]; exact am_nth_ne g1_4 (by decide) g1_1826
  have g2_0 : am_nth S2 0 = some (6, some (.inl (.int, 6, .int 0, [(0, .int y0), (1, .int y1), (2, .int y2), (3, .int y3), (4, .int y4), (5, .int y5)]))) := by rw [eS2]; exact g1_0
  refine G_ps 1 (pc' := 23) (l' := [(0, .ref 2), (1, .int 0), (2, .int 0), (3, .long 0)]) (st' := [.ref 2]) rfl ?_
  refine G_get (i := 18) (ci := 1) (k := 3) (v := .ref 5) rfl rfl g2_2 rfl ?_
  show am_G at_P at_cl at_ty _ mt_28 26 [(0, .ref 2), (1, .int 0), (2, .int 0), (3, .long 0)] [.ref 5] _ _
  refine G_ps 1 (pc' := 27) (l' := [(0, .ref 2), (1, .int 0), (2, .int 0), (3, .long 0)]) (st' := [.ref 2, .ref 5]) rfl ?_
  refine G_get (i := 29) (ci := 1) (k := 5) (v := .int 0) rfl rfl g2_2 rfl ?_
  show am_G at_P at_cl at_ty _ mt_28 30 [(0, .ref 2), (1, .int 0), (2, .int 0), (3, .long 0)] [.int 0, .ref 5] _ _
  refine G_ps 1 (pc' := 31) (l' := [(0, .ref 2), (1, .int 0), (2, .int 0), (3, .long 0)]) (st' := [.int 0, .int 0, .ref 5]) rfl ?_
  refine G_ist (i := 0) (x := 0) rfl g2_5 (by decide) ?_
  obtain ⟨S3, eS3⟩ : ∃ T9 : am_S, T9 = am_set S2 5 (1001, some (.inl (.int, 1001, .int 0, [(0, .int 0)]))) := ⟨_, rfl⟩
  show am_G at_P at_cl at_ty _ mt_28 32 [(0, .ref 2), (1, .int 0), (2, .int 0), (3, .long 0)] [] (am_set S2 5 (1001, some (.inl (.int, 1001, .int 0, [(0, .int 0)])))) _
  rw [← eS3]
  have hs3 : am_same [2, 4, 5, 6, 361, 407, 1826] S S3 := by rw [eS3]; exact am_same_set hs2 g2_5 (by decide)
  have g3_1 : am_nth S3 1 = some (9, some (.inr (0, [.ref 2, .ref 7, .ref 361, .ref 363, .ref 366, .ref 372, .ref 406, .ref 1824, .int 0]))) := by rw [eS3]; exact am_nth_ne g2_5 (by decide) g2_1
  have g3_2 : am_nth S3 2 = some (6, some (.inr (1, [.ref 3, .int 0, .ref 4, .ref 5, .ref 6, .int 0]))) := by rw [eS3]; exact am_nth_ne g2_5 (by decide) g2_2
  have g3_4 : am_nth S3 4 = some (1001, some (.inl (.int, 1001, .int 0, [(0, .int 0)]))) := by rw [eS3]; exact am_nth_ne g2_5 (by decide) g2_4
  have g3_5 : am_nth S3 5 = some (1001, some (.inl (.int, 1001, .int 0, [(0, .int 0)]))) := by rw [eS3]; exact am_nth_self g2_5
  have g3_6 : am_nth S3 6 = some (1001, some (.inl (.long, 1001, .long 0, []))) := by rw [eS3]; exact am_nth_ne g2_5 (by decide) g2_6
  have g3_7 : am_nth S3 7 = some (7, some (.inr (2, [.ref 8, .ref 13, .ref 18, .ref 23, .ref 24, .int 0, .int 0]))) := by rw [eS3]; exact am_nth_ne g2_5 (by decide) g2_7
  have g3_8 : am_nth S3 8 = some (5, some (.inr (3, [.ref 9, .ref 10, .ref 11, .ref 12, .int 0]))) := by rw [eS3]; exact am_nth_ne g2_5 (by decide) g2_8
  have g3_13 : am_nth S3 13 = some (5, some (.inr (3, [.ref 14, .ref 15, .ref 16, .ref 17, .int 0]))) := by rw [eS3]; exact am_nth_ne g2_5 (by decide) g2_13
  have g3_18 : am_nth S3 18 = some (5, some (.inr (3, [.ref 19, .ref 20, .ref 21, .ref 22, .int 0]))) := by rw [eS3]; exact am_nth_ne g2_5 (by decide) g2_18
  have g3_361 : am_nth S3 361 = some (10, some (.inr (6, [.ref 2, .ref 7, .ref 362, .int 0, .int 0, .int 0, .int 0, .ref 25, .ref 26, .int 0]))) := by rw [eS3]; exact am_nth_ne g2_5 (by decide) g2_361
  have g3_406 : am_nth S3 406 = some (19, some (.inr (10, [.ref 7, .ref 366, .ref 407, .ref 878, .ref 1349, .ref 1350, .ref 1350, .ref 1350, .long 0, .long 0, .ref 409, .ref 1352, .ref 1354, .int 0, .int 0, .long 0, .int 0, .int 0, .int 0]))) := by rw [eS3]; exact am_nth_ne g2_5 (by decide) g2_406
  have g3_407 : am_nth S3 407 = some (9, some (.inr (11, [.ref 408, .ref 409, .int 0, .int 0, .int 0, .int 0, .int 0, .long 0, .long 0]))) := by rw [eS3]; exact am_nth_ne g2_5 (by decide) g2_407
  have g3_1826 : am_nth S3 1826 = some (115, some (.inr (13, [.int 0, .int 0, .ref 1827, .int 0, .ref 1828, .ref 1829, .ref 1830, .ref 1831, .int 0, .ref 1832, .ref 1833, .ref 1834, .ref 1835, .int 0, .ref 1836, .ref 1837, .ref 1838, .ref 1839, .ref 1840, .int 0, .ref 1841, .ref 1842, .ref 1843, .ref 1844, .ref 1845, .ref 1846, .ref 1847, .ref 1848, .int 0, .int 0, .int 0, .int 0, .int 0, .long 0, .int 0, .int 0, .int 0, .ref 1849, .ref 1850, .int 0, .int 0, .int 0, .ref 1851, .int 0, .int 0, .ref 1852, .ref 1853, .int 0, .ref 1854, .ref 1855, .int 0, .int 0, .ref 1856, .int 0, .ref 1857, .int 0, .int 0, .int 0, .ref 1858, .int 0, .ref 1859, .ref 1860, .ref 1861, .ref 1862, .ref 1863, .ref 1864, .ref 1865, .int (-1), .ref 1866, .ref 1867, .ref 1868, .ref 1869, .int 0, .ref 1870, .int (-1), .int 0, .int 0, .int 0, .ref 1871, .ref 1872, .ref 1873, .ref 1874, .ref 1875, .ref 1876, .ref 1877, .ref 1878, .ref 1879, .ref 1880, .ref 1881, .int 0, .ref 1882, .ref 1883, .ref 1884, .int 0, .ref 1885, .int 0, .ref 1886, .int (-1), .ref 1887, .int 0, .ref 1888, .int 0, .ref 1889, .ref 1890, .ref 1891, .ref 1892, .ref 1893, .ref 1894, .ref 1895, .ref 1896, .ref 1897, .ref 1898, .int 0, .int 0, .int 0]))) := by rw [eS3]; exact am_nth_ne g2_5 (by decide) g2_1826
  have g3_0 : am_nth S3 0 = some (6, some (.inl (.int, 6, .int 0, [(0, .int y0), (1, .int y1), (2, .int y2), (3, .int y3), (4, .int y4), (5, .int y5)]))) := by rw [eS3]; exact g2_0
  refine G_ps 1 (pc' := 33) (l' := [(0, .ref 2), (1, .int 0), (2, .int 0), (3, .long 0)]) (st' := [.ref 2]) rfl ?_
  refine G_get (i := 21) (ci := 1) (k := 4) (v := .ref 6) rfl rfl g3_2 rfl ?_
  show am_G at_P at_cl at_ty _ mt_28 36 [(0, .ref 2), (1, .int 0), (2, .int 0), (3, .long 0)] [.ref 6] _ _
  refine G_ps 1 (pc' := 37) (l' := [(0, .ref 2), (1, .int 0), (2, .int 0), (3, .long 0)]) (st' := [.ref 2, .ref 6]) rfl ?_
  refine G_get (i := 29) (ci := 1) (k := 5) (v := .int 0) rfl rfl g3_2 rfl ?_
  show am_G at_P at_cl at_ty _ mt_28 40 [(0, .ref 2), (1, .int 0), (2, .int 0), (3, .long 0)] [.int 0, .ref 6] _ _
  refine G_ps 1 (pc' := 41) (l' := [(0, .ref 2), (1, .int 0), (2, .int 0), (3, .long 0)]) (st' := [.long 0, .int 0, .ref 6]) rfl ?_
  refine G_lst (i := 0) (x := 0) rfl g3_6 (by decide) ?_
  obtain ⟨S4, eS4⟩ : ∃ T9 : am_S, T9 = am_set S3 6 (1001, some (.inl (.long, 1001, .long 0, [(0, .long 0)]))) := ⟨_, rfl⟩
  show am_G at_P at_cl at_ty _ mt_28 42 [(0, .ref 2), (1, .int 0), (2, .int 0), (3, .long 0)] [] (am_set S3 6 (1001, some (.inl (.long, 1001, .long 0, [(0, .long 0)])))) _
  rw [← eS4]
  have hs4 : am_same [2, 4, 5, 6, 361, 407, 1826] S S4 := by rw [eS4]; exact am_same_set hs3 g3_6 (by decide)
  have g4_1 : am_nth S4 1 = some (9, some (.inr (0, [.ref 2, .ref 7, .ref 361, .ref 363, .ref 366, .ref 372, .ref 406, .ref 1824, .int 0]))) := by rw [eS4]; exact am_nth_ne g3_6 (by decide) g3_1
  have g4_2 : am_nth S4 2 = some (6, some (.inr (1, [.ref 3, .int 0, .ref 4, .ref 5, .ref 6, .int 0]))) := by rw [eS4]; exact am_nth_ne g3_6 (by decide) g3_2
  have g4_4 : am_nth S4 4 = some (1001, some (.inl (.int, 1001, .int 0, [(0, .int 0)]))) := by rw [eS4]; exact am_nth_ne g3_6 (by decide) g3_4
  have g4_5 : am_nth S4 5 = some (1001, some (.inl (.int, 1001, .int 0, [(0, .int 0)]))) := by rw [eS4]; exact am_nth_ne g3_6 (by decide) g3_5
  have g4_6 : am_nth S4 6 = some (1001, some (.inl (.long, 1001, .long 0, [(0, .long 0)]))) := by rw [eS4]; exact am_nth_self g3_6
  have g4_7 : am_nth S4 7 = some (7, some (.inr (2, [.ref 8, .ref 13, .ref 18, .ref 23, .ref 24, .int 0, .int 0]))) := by rw [eS4]; exact am_nth_ne g3_6 (by decide) g3_7
  have g4_8 : am_nth S4 8 = some (5, some (.inr (3, [.ref 9, .ref 10, .ref 11, .ref 12, .int 0]))) := by rw [eS4]; exact am_nth_ne g3_6 (by decide) g3_8
  have g4_13 : am_nth S4 13 = some (5, some (.inr (3, [.ref 14, .ref 15, .ref 16, .ref 17, .int 0]))) := by rw [eS4]; exact am_nth_ne g3_6 (by decide) g3_13
  have g4_18 : am_nth S4 18 = some (5, some (.inr (3, [.ref 19, .ref 20, .ref 21, .ref 22, .int 0]))) := by rw [eS4]; exact am_nth_ne g3_6 (by decide) g3_18
  have g4_361 : am_nth S4 361 = some (10, some (.inr (6, [.ref 2, .ref 7, .ref 362, .int 0, .int 0, .int 0, .int 0, .ref 25, .ref 26, .int 0]))) := by rw [eS4]; exact am_nth_ne g3_6 (by decide) g3_361
  have g4_406 : am_nth S4 406 = some (19, some (.inr (10, [.ref 7, .ref 366, .ref 407, .ref 878, .ref 1349, .ref 1350, .ref 1350, .ref 1350, .long 0, .long 0, .ref 409, .ref 1352, .ref 1354, .int 0, .int 0, .long 0, .int 0, .int 0, .int 0]))) := by rw [eS4]; exact am_nth_ne g3_6 (by decide) g3_406
  have g4_407 : am_nth S4 407 = some (9, some (.inr (11, [.ref 408, .ref 409, .int 0, .int 0, .int 0, .int 0, .int 0, .long 0, .long 0]))) := by rw [eS4]; exact am_nth_ne g3_6 (by decide) g3_407
  have g4_1826 : am_nth S4 1826 = some (115, some (.inr (13, [.int 0, .int 0, .ref 1827, .int 0, .ref 1828, .ref 1829, .ref 1830, .ref 1831, .int 0, .ref 1832, .ref 1833, .ref 1834, .ref 1835, .int 0, .ref 1836, .ref 1837, .ref 1838, .ref 1839, .ref 1840, .int 0, .ref 1841, .ref 1842, .ref 1843, .ref 1844, .ref 1845, .ref 1846, .ref 1847, .ref 1848, .int 0, .int 0, .int 0, .int 0, .int 0, .long 0, .int 0, .int 0, .int 0, .ref 1849, .ref 1850, .int 0, .int 0, .int 0, .ref 1851, .int 0, .int 0, .ref 1852, .ref 1853, .int 0, .ref 1854, .ref 1855, .int 0, .int 0, .ref 1856, .int 0, .ref 1857, .int 0, .int 0, .int 0, .ref 1858, .int 0, .ref 1859, .ref 1860, .ref 1861, .ref 1862, .ref 1863, .ref 1864, .ref 1865, .int (-1), .ref 1866, .ref 1867, .ref 1868, .ref 1869, .int 0, .ref 1870, .int (-1), .int 0, .int 0, .int 0, .ref 1871, .ref 1872, .ref 1873, .ref 1874, .ref 1875, .ref 1876, .ref 1877, .ref 1878, .ref 1879, .ref 1880, .ref 1881, .int 0, .ref 1882, .ref 1883, .ref 1884, .int 0, .ref 1885, .int 0, .ref 1886, .int (-1), .ref 1887, .int 0, .ref 1888, .int 0, .ref 1889, .ref 1890, .ref 1891, .ref 1892, .ref 1893, .ref 1894, .ref 1895, .ref 1896, .ref 1897, .ref 1898, .int 0, .int 0, .int 0]))) := by rw [eS4]; exact am_nth_ne g3_6 (by decide) g3_1826
  have g4_0 : am_nth S4 0 = some (6, some (.inl (.int, 6, .int 0, [(0, .int y0), (1, .int y1), (2, .int y2), (3, .int y3), (4, .int y4), (5, .int y5)]))) := by rw [eS4]; exact g3_0
  refine G_ps 2 (pc' := 44) (l' := [(0, .ref 2), (1, .int 0), (2, .int 0), (3, .long 0)]) (st' := [.ref 2, .ref 2]) rfl ?_
  refine G_get (i := 29) (ci := 1) (k := 5) (v := .int 0) rfl rfl g4_2 rfl ?_
  show am_G at_P at_cl at_ty _ mt_28 47 [(0, .ref 2), (1, .int 0), (2, .int 0), (3, .long 0)] [.int 0, .ref 2] _ _
  refine G_ps 2 (pc' := 49) (l' := [(0, .ref 2), (1, .int 0), (2, .int 0), (3, .long 0)]) (st' := [.int 1, .ref 2]) rfl ?_
  refine G_put (i := 29) (ci := 1) (k := 5) (v := .int 1) rfl rfl g4_2 rfl rfl ?_
  obtain ⟨S5, eS5⟩ : ∃ T9 : am_S, T9 = am_set S4 2 (6, some (.inr (1, [.ref 3, .int 0, .ref 4, .ref 5, .ref 6, .int 1]))) := ⟨_, rfl⟩
  show am_G at_P at_cl at_ty _ mt_28 52 [(0, .ref 2), (1, .int 0), (2, .int 0), (3, .long 0)] [] (am_set S4 2 (6, some (.inr (1, [.ref 3, .int 0, .ref 4, .ref 5, .ref 6, .int 1])))) _
  rw [← eS5]
  have hs5 : am_same [2, 4, 5, 6, 361, 407, 1826] S S5 := by rw [eS5]; exact am_same_set hs4 g4_2 (by decide)
  have g5_1 : am_nth S5 1 = some (9, some (.inr (0, [.ref 2, .ref 7, .ref 361, .ref 363, .ref 366, .ref 372, .ref 406, .ref 1824, .int 0]))) := by rw [eS5]; exact am_nth_ne g4_2 (by decide) g4_1
  have g5_2 : am_nth S5 2 = some (6, some (.inr (1, [.ref 3, .int 0, .ref 4, .ref 5, .ref 6, .int 1]))) := by rw [eS5]; exact am_nth_self g4_2
  have g5_4 : am_nth S5 4 = some (1001, some (.inl (.int, 1001, .int 0, [(0, .int 0)]))) := by rw [eS5]; exact am_nth_ne g4_2 (by decide) g4_4
  have g5_5 : am_nth S5 5 = some (1001, some (.inl (.int, 1001, .int 0, [(0, .int 0)]))) := by rw [eS5]; exact am_nth_ne g4_2 (by decide) g4_5
  have g5_6 : am_nth S5 6 = some (1001, some (.inl (.long, 1001, .long 0, [(0, .long 0)]))) := by rw [eS5]; exact am_nth_ne g4_2 (by decide) g4_6
  have g5_7 : am_nth S5 7 = some (7, some (.inr (2, [.ref 8, .ref 13, .ref 18, .ref 23, .ref 24, .int 0, .int 0]))) := by rw [eS5]; exact am_nth_ne g4_2 (by decide) g4_7
  have g5_8 : am_nth S5 8 = some (5, some (.inr (3, [.ref 9, .ref 10, .ref 11, .ref 12, .int 0]))) := by rw [eS5]; exact am_nth_ne g4_2 (by decide) g4_8
  have g5_13 : am_nth S5 13 = some (5, some (.inr (3, [.ref 14, .ref 15, .ref 16, .ref 17, .int 0]))) := by rw [eS5]; exact am_nth_ne g4_2 (by decide) g4_13
  have g5_18 : am_nth S5 18 = some (5, some (.inr (3, [.ref 19, .ref 20, .ref 21, .ref 22, .int 0]))) := by rw [eS5]; exact am_nth_ne g4_2 (by decide) g4_18
  have g5_361 : am_nth S5 361 = some (10, some (.inr (6, [.ref 2, .ref 7, .ref 362, .int 0, .int 0, .int 0, .int 0, .ref 25, .ref 26, .int 0]))) := by rw [eS5]; exact am_nth_ne g4_2 (by decide) g4_361
  have g5_406 : am_nth S5 406 = some (19, some (.inr (10, [.ref 7, .ref 366, .ref 407, .ref 878, .ref 1349, .ref 1350, .ref 1350, .ref 1350, .long 0, .long 0, .ref 409, .ref 1352, .ref 1354, .int 0, .int 0, .long 0, .int 0, .int 0, .int 0]))) := by rw [eS5]; exact am_nth_ne g4_2 (by decide) g4_406
  have g5_407 : am_nth S5 407 = some (9, some (.inr (11, [.ref 408, .ref 409, .int 0, .int 0, .int 0, .int 0, .int 0, .long 0, .long 0]))) := by rw [eS5]; exact am_nth_ne g4_2 (by decide) g4_407
  have g5_1826 : am_nth S5 1826 = some (115, some (.inr (13, [.int 0, .int 0, .ref 1827, .int 0, .ref 1828, .ref 1829, .ref 1830, .ref 1831, .int 0, .ref 1832, .ref 1833, .ref 1834, .ref 1835, .int 0, .ref 1836, .ref 1837, .ref 1838, .ref 1839, .ref 1840, .int 0, .ref 1841, .ref 1842, .ref 1843, .ref 1844, .ref 1845, .ref 1846, .ref 1847, .ref 1848, .int 0, .int 0, .int 0, .int 0, .int 0, .long 0, .int 0, .int 0, .int 0, .ref 1849, .ref 1850, .int 0, .int 0, .int 0, .ref 1851, .int 0, .int 0, .ref 1852, .ref 1853, .int 0, .ref 1854, .ref 1855, .int 0, .int 0, .ref 1856, .int 0, .ref 1857, .int 0, .int 0, .int 0, .ref 1858, .int 0, .ref 1859, .ref 1860, .ref 1861, .ref 1862, .ref 1863, .ref 1864, .ref 1865, .int (-1), .ref 1866, .ref 1867, .ref 1868, .ref 1869, .int 0, .ref 1870, .int (-1), .int 0, .int 0, .int 0, .ref 1871, .ref 1872, .ref 1873, .ref 1874, .ref 1875, .ref 1876, .ref 1877, .ref 1878, .ref 1879, .ref 1880, .ref 1881, .int 0, .ref 1882, .ref 1883, .ref 1884, .int 0, .ref 1885, .int 0, .ref 1886, .int (-1), .ref 1887, .int 0, .ref 1888, .int 0, .ref 1889, .ref 1890, .ref 1891, .ref 1892, .ref 1893, .ref 1894, .ref 1895, .ref 1896, .ref 1897, .ref 1898, .int 0, .int 0, .int 0]))) := by rw [eS5]; exact am_nth_ne g4_2 (by decide) g4_1826
  have g5_0 : am_nth S5 0 = some (6, some (.inl (.int, 6, .int 0, [(0, .int y0), (1, .int y1), (2, .int y2), (3, .int y3), (4, .int y4), (5, .int y5)]))) := by rw [eS5]; exact g4_0
  refine G_ret rfl rfl rfl ?_
  show am_G at_P at_cl at_ty _ mt_27 152 [(3, .int 0), (2, .int 0), (1, .int 0), (0, .ref 2)] [] _ _
  refine G_ret rfl rfl rfl ?_
  show am_G at_P at_cl at_ty _ mt_62 58 [(5, .int 0), (4, .int 0), (3, .int 0), (2, .int 0), (1, .int 0), (0, .ref 361)] [] _ _
  refine G_ps 2 (pc' := 60) (l' := [(5, .int 0), (4, .int 0), (3, .int 0), (2, .int 0), (1, .int 0), (0, .ref 361)]) (st' := [.int 0, .ref 361]) rfl ?_
  refine G_put (i := 69) (ci := 6) (k := 3) (v := .int 0) rfl rfl g5_361 rfl rfl ?_
  obtain ⟨S6, eS6⟩ : ∃ T9 : am_S, T9 = am_set S5 361 (10, some (.inr (6, [.ref 2, .ref 7, .ref 362, .int 0, .int 0, .int 0, .int 0, .ref 25, .ref 26, .int 0]))) := ⟨_, rfl⟩
  show am_G at_P at_cl at_ty _ mt_62 63 [(5, .int 0), (4, .int 0), (3, .int 0), (2, .int 0), (1, .int 0), (0, .ref 361)] [] (am_set S5 361 (10, some (.inr (6, [.ref 2, .ref 7, .ref 362, .int 0, .int 0, .int 0, .int 0, .ref 25, .ref 26, .int 0])))) _
  rw [← eS6]
  have hs6 : am_same [2, 4, 5, 6, 361, 407, 1826] S S6 := by rw [eS6]; exact am_same_set hs5 g5_361 (by decide)
  have g6_1 : am_nth S6 1 = some (9, some (.inr (0, [.ref 2, .ref 7, .ref 361, .ref 363, .ref 366, .ref 372, .ref 406, .ref 1824, .int 0]))) := by rw [eS6]; exact am_nth_ne g5_361 (by decide) g5_1
  have g6_2 : am_nth S6 2 = some (6, some (.inr (1, [.ref 3, .int 0, .ref 4, .ref 5, .ref 6, .int 1]))) := by rw [eS6]; exact am_nth_ne g5_361 (by decide) g5_2
  have g6_4 : am_nth S6 4 = some (1001, some (.inl (.int, 1001, .int 0, [(0, .int 0)]))) := by rw [eS6]; exact am_nth_ne g5_361 (by decide) g5_4
  have g6_5 : am_nth S6 5 = some (1001, some (.inl (.int, 1001, .int 0, [(0, .int 0)]))) := by rw [eS6]; exact am_nth_ne g5_361 (by decide) g5_5
  have g6_6 : am_nth S6 6 = some (1001, some (.inl (.long, 1001, .long 0, [(0, .long 0)]))) := by rw [eS6]; exact am_nth_ne g5_361 (by decide) g5_6
  have g6_7 : am_nth S6 7 = some (7, some (.inr (2, [.ref 8, .ref 13, .ref 18, .ref 23, .ref 24, .int 0, .int 0]))) := by rw [eS6]; exact am_nth_ne g5_361 (by decide) g5_7
  have g6_8 : am_nth S6 8 = some (5, some (.inr (3, [.ref 9, .ref 10, .ref 11, .ref 12, .int 0]))) := by rw [eS6]; exact am_nth_ne g5_361 (by decide) g5_8
  have g6_13 : am_nth S6 13 = some (5, some (.inr (3, [.ref 14, .ref 15, .ref 16, .ref 17, .int 0]))) := by rw [eS6]; exact am_nth_ne g5_361 (by decide) g5_13
  have g6_18 : am_nth S6 18 = some (5, some (.inr (3, [.ref 19, .ref 20, .ref 21, .ref 22, .int 0]))) := by rw [eS6]; exact am_nth_ne g5_361 (by decide) g5_18
  have g6_361 : am_nth S6 361 = some (10, some (.inr (6, [.ref 2, .ref 7, .ref 362, .int 0, .int 0, .int 0, .int 0, .ref 25, .ref 26, .int 0]))) := by rw [eS6]; exact am_nth_self g5_361
  have g6_406 : am_nth S6 406 = some (19, some (.inr (10, [.ref 7, .ref 366, .ref 407, .ref 878, .ref 1349, .ref 1350, .ref 1350, .ref 1350, .long 0, .long 0, .ref 409, .ref 1352, .ref 1354, .int 0, .int 0, .long 0, .int 0, .int 0, .int 0]))) := by rw [eS6]; exact am_nth_ne g5_361 (by decide) g5_406
  have g6_407 : am_nth S6 407 = some (9, some (.inr (11, [.ref 408, .ref 409, .int 0, .int 0, .int 0, .int 0, .int 0, .long 0, .long 0]))) := by rw [eS6]; exact am_nth_ne g5_361 (by decide) g5_407
  have g6_1826 : am_nth S6 1826 = some (115, some (.inr (13, [.int 0, .int 0, .ref 1827, .int 0, .ref 1828, .ref 1829, .ref 1830, .ref 1831, .int 0, .ref 1832, .ref 1833, .ref 1834, .ref 1835, .int 0, .ref 1836, .ref 1837, .ref 1838, .ref 1839, .ref 1840, .int 0, .ref 1841, .ref 1842, .ref 1843, .ref 1844, .ref 1845, .ref 1846, .ref 1847, .ref 1848, .int 0, .int 0, .int 0, .int 0, .int 0, .long 0, .int 0, .int 0, .int 0, .ref 1849, .ref 1850, .int 0, .int 0, .int 0, .ref 1851, .int 0, .int 0, .ref 1852, .ref 1853, .int 0, .ref 1854, .ref 1855, .int 0, .int 0, .ref 1856, .int 0, .ref 1857, .int 0, .int 0, .int 0, .ref 1858, .int 0, .ref 1859, .ref 1860, .ref 1861, .ref 1862, .ref 1863, .ref 1864, .ref 1865, .int (-1), .ref 1866, .ref 1867, .ref 1868, .ref 1869, .int 0, .ref 1870, .int (-1), .int 0, .int 0, .int 0, .ref 1871, .ref 1872, .ref 1873, .ref 1874, .ref 1875, .ref 1876, .ref 1877, .ref 1878, .ref 1879, .ref 1880, .ref 1881, .int 0, .ref 1882, .ref 1883, .ref 1884, .int 0, .ref 1885, .int 0, .ref 1886, .int (-1), .ref 1887, .int 0, .ref 1888, .int 0, .ref 1889, .ref 1890, .ref 1891, .ref 1892, .ref 1893, .ref 1894, .ref 1895, .ref 1896, .ref 1897, .ref 1898, .int 0, .int 0, .int 0]))) := by rw [eS6]; exact am_nth_ne g5_361 (by decide) g5_1826
  have g6_0 : am_nth S6 0 = some (6, some (.inl (.int, 6, .int 0, [(0, .int y0), (1, .int y1), (2, .int y2), (3, .int y3), (4, .int y4), (5, .int y5)]))) := by rw [eS6]; exact g5_0
  refine G_ps 10 (pc' := 83) (l' := [(7, .int 1), (6, .int 0), (5, .int 0), (4, .int 0), (3, .int 0), (2, .int 0), (1, .int 0), (0, .ref 361)]) (st' := [.ref 361]) rfl ?_
  refine G_cv (i := 72) (j := 83) (b := 361) (M' := mt_83) (xs := []) (rest := []) rfl rfl rfl rfl g6_361 (Nat.le_of_ble_eq_true rfl) (Nat.le_of_ble_eq_true rfl) ?_ (fun _ _ _ _ h9 => h9)
  show am_G at_P at_cl at_ty _ mt_83 0 [(0, .ref 361)] [] _ _
  refine G_ps 1 (pc' := 1) (l' := [(0, .ref 361)]) (st' := [.ref 361]) rfl ?_
  refine G_get (i := 69) (ci := 6) (k := 3) (v := .int 0) rfl rfl g6_361 rfl ?_
  show am_G at_P at_cl at_ty _ mt_83 4 [(0, .ref 361)] [.int 0] _ _
  refine G_ps 2 (pc' := 8) (l' := [(0, .ref 361)]) (st' := [.ref 361]) rfl ?_
  refine G_get (i := 69) (ci := 6) (k := 3) (v := .int 0) rfl rfl g6_361 rfl ?_
  show am_G at_P at_cl at_ty _ mt_83 11 [(0, .ref 361)] [.int 0] _ _
  refine G_ps 1 (pc' := 12) (l' := [(0, .ref 361)]) (st' := [.ref 361, .int 0]) rfl ?_
  refine G_get (i := 15) (ci := 6) (k := 0) (v := .ref 2) rfl rfl g6_361 rfl ?_
  show am_G at_P at_cl at_ty _ mt_83 15 [(0, .ref 361)] [.ref 2, .int 0] _ _
  refine G_get (i := 232) (ci := 1) (k := 5) (v := .int 1) rfl rfl g6_2 rfl ?_
  show am_G at_P at_cl at_ty _ mt_83 18 [(0, .ref 361)] [.int 1, .int 0] _ _
  refine G_ps 2 (pc' := 22) (l' := [(0, .ref 361)]) (st' := [.ref 361]) rfl ?_
  refine G_get (i := 15) (ci := 6) (k := 0) (v := .ref 2) rfl rfl g6_361 rfl ?_
  show am_G at_P at_cl at_ty _ mt_83 25 [(0, .ref 361)] [.ref 2] _ _
  refine G_get (i := 235) (ci := 1) (k := 2) (v := .ref 4) rfl rfl g6_2 rfl ?_
  show am_G at_P at_cl at_ty _ mt_83 28 [(0, .ref 361)] [.ref 4] _ _
  refine G_ps 1 (pc' := 29) (l' := [(0, .ref 361)]) (st' := [.ref 361, .ref 4]) rfl ?_
  refine G_get (i := 69) (ci := 6) (k := 3) (v := .int 0) rfl rfl g6_361 rfl ?_
  show am_G at_P at_cl at_ty _ mt_83 32 [(0, .ref 361)] [.int 0, .ref 4] _ _
  refine G_ild (i := 0) rfl g6_4 (by decide) ?_
  show am_G at_P at_cl at_ty _ mt_83 33 [(0, .ref 361)] [.int 0] _ _
  refine G_ps 1 (pc' := 37) (l' := [(0, .ref 361)]) (st' := [.int 0]) rfl ?_
  refine G_ret rfl rfl rfl ?_
  show am_G at_P at_cl at_ty _ mt_62 86 [(7, .int 1), (6, .int 0), (5, .int 0), (4, .int 0), (3, .int 0), (2, .int 0), (1, .int 0), (0, .ref 361)] [.int 0] _ _
  refine G_ps 4 (pc' := 292) (l' := [(7, .int 1), (6, .int 0), (5, .int 0), (4, .int 0), (3, .int 0), (2, .int 0), (1, .int 0), (0, .ref 361)]) (st' := [.ref 361]) rfl ?_
  refine G_get (i := 19) (ci := 6) (k := 1) (v := .ref 7) rfl rfl g6_361 rfl ?_
  show am_G at_P at_cl at_ty _ mt_62 295 [(7, .int 1), (6, .int 0), (5, .int 0), (4, .int 0), (3, .int 0), (2, .int 0), (1, .int 0), (0, .ref 361)] [.ref 7] _ _
  refine G_get (i := 58) (ci := 2) (k := 5) (v := .int 0) rfl rfl g6_7 rfl ?_
  show am_G at_P at_cl at_ty _ mt_62 298 [(7, .int 1), (6, .int 0), (5, .int 0), (4, .int 0), (3, .int 0), (2, .int 0), (1, .int 0), (0, .ref 361)] [.int 0] _ _
  refine G_ps 3 (pc' := 312) (l' := [(7, .int 1), (6, .int 0), (5, .int 0), (4, .int 0), (3, .int 0), (2, .int 0), (1, .int 0), (0, .ref 361)]) (st' := [.int 0]) rfl ?_
  refine G_ret rfl rfl rfl ?_
  show am_G at_P at_cl at_ty _ mt_3 7 [(0, .ref 1)] [.int 0] _ _
  refine G_ps 2 (pc' := 9) (l' := [(1, .int 0), (0, .ref 1)]) (st' := [.ref 1]) rfl ?_
  refine G_get (i := 10) (ci := 0) (k := 0) (v := .ref 2) rfl rfl g6_1 rfl ?_
  show am_G at_P at_cl at_ty _ mt_3 12 [(1, .int 0), (0, .ref 1)] [.ref 2] _ _
  refine G_ps 1 (pc' := 13) (l' := [(1, .int 0), (0, .ref 1)]) (st' := [.int 0, .ref 2]) rfl ?_
  refine G_put (i := 73) (ci := 1) (k := 1) (v := .int 0) rfl rfl g6_2 rfl rfl ?_
  obtain ⟨S7, eS7⟩ : ∃ T9 : am_S, T9 = am_set S6 2 (6, some (.inr (1, [.ref 3, .int 0, .ref 4, .ref 5, .ref 6, .int 1]))) := ⟨_, rfl⟩
  show am_G at_P at_cl at_ty _ mt_3 16 [(1, .int 0), (0, .ref 1)] [] (am_set S6 2 (6, some (.inr (1, [.ref 3, .int 0, .ref 4, .ref 5, .ref 6, .int 1])))) _
  rw [← eS7]
  have hs7 : am_same [2, 4, 5, 6, 361, 407, 1826] S S7 := by rw [eS7]; exact am_same_set hs6 g6_2 (by decide)
  have g7_1 : am_nth S7 1 = some (9, some (.inr (0, [.ref 2, .ref 7, .ref 361, .ref 363, .ref 366, .ref 372, .ref 406, .ref 1824, .int 0]))) := by rw [eS7]; exact am_nth_ne g6_2 (by decide) g6_1
  have g7_2 : am_nth S7 2 = some (6, some (.inr (1, [.ref 3, .int 0, .ref 4, .ref 5, .ref 6, .int 1]))) := by rw [eS7]; exact am_nth_self g6_2
  have g7_4 : am_nth S7 4 = some (1001, some (.inl (.int, 1001, .int 0, [(0, .int 0)]))) := by rw [eS7]; exact am_nth_ne g6_2 (by decide) g6_4
  have g7_5 : am_nth S7 5 = some (1001, some (.inl (.int, 1001, .int 0, [(0, .int 0)]))) := by rw [eS7]; exact am_nth_ne g6_2 (by decide) g6_5
  have g7_6 : am_nth S7 6 = some (1001, some (.inl (.long, 1001, .long 0, [(0, .long 0)]))) := by rw [eS7]; exact am_nth_ne g6_2 (by decide) g6_6
  have g7_7 : am_nth S7 7 = some (7, some (.inr (2, [.ref 8, .ref 13, .ref 18, .ref 23, .ref 24, .int 0, .int 0]))) := by rw [eS7]; exact am_nth_ne g6_2 (by decide) g6_7
  have g7_8 : am_nth S7 8 = some (5, some (.inr (3, [.ref 9, .ref 10, .ref 11, .ref 12, .int 0]))) := by rw [eS7]; exact am_nth_ne g6_2 (by decide) g6_8
  have g7_13 : am_nth S7 13 = some (5, some (.inr (3, [.ref 14, .ref 15, .ref 16, .ref 17, .int 0]))) := by rw [eS7]; exact am_nth_ne g6_2 (by decide) g6_13
  have g7_18 : am_nth S7 18 = some (5, some (.inr (3, [.ref 19, .ref 20, .ref 21, .ref 22, .int 0]))) := by rw [eS7]; exact am_nth_ne g6_2 (by decide) g6_18
  have g7_361 : am_nth S7 361 = some (10, some (.inr (6, [.ref 2, .ref 7, .ref 362, .int 0, .int 0, .int 0, .int 0, .ref 25, .ref 26, .int 0]))) := by rw [eS7]; exact am_nth_ne g6_2 (by decide) g6_361
  have g7_406 : am_nth S7 406 = some (19, some (.inr (10, [.ref 7, .ref 366, .ref 407, .ref 878, .ref 1349, .ref 1350, .ref 1350, .ref 1350, .long 0, .long 0, .ref 409, .ref 1352, .ref 1354, .int 0, .int 0, .long 0, .int 0, .int 0, .int 0]))) := by rw [eS7]; exact am_nth_ne g6_2 (by decide) g6_406
  have g7_407 : am_nth S7 407 = some (9, some (.inr (11, [.ref 408, .ref 409, .int 0, .int 0, .int 0, .int 0, .int 0, .long 0, .long 0]))) := by rw [eS7]; exact am_nth_ne g6_2 (by decide) g6_407
  have g7_1826 : am_nth S7 1826 = some (115, some (.inr (13, [.int 0, .int 0, .ref 1827, .int 0, .ref 1828, .ref 1829, .ref 1830, .ref 1831, .int 0, .ref 1832, .ref 1833, .ref 1834, .ref 1835, .int 0, .ref 1836, .ref 1837, .ref 1838, .ref 1839, .ref 1840, .int 0, .ref 1841, .ref 1842, .ref 1843, .ref 1844, .ref 1845, .ref 1846, .ref 1847, .ref 1848, .int 0, .int 0, .int 0, .int 0, .int 0, .long 0, .int 0, .int 0, .int 0, .ref 1849, .ref 1850, .int 0, .int 0, .int 0, .ref 1851, .int 0, .int 0, .ref 1852, .ref 1853, .int 0, .ref 1854, .ref 1855, .int 0, .int 0, .ref 1856, .int 0, .ref 1857, .int 0, .int 0, .int 0, .ref 1858, .int 0, .ref 1859, .ref 1860, .ref 1861, .ref 1862, .ref 1863, .ref 1864, .ref 1865, .int (-1), .ref 1866, .ref 1867, .ref 1868, .ref 1869, .int 0, .ref 1870, .int (-1), .int 0, .int 0, .int 0, .ref 1871, .ref 1872, .ref 1873, .ref 1874, .ref 1875, .ref 1876, .ref 1877, .ref 1878, .ref 1879, .ref 1880, .ref 1881, .int 0, .ref 1882, .ref 1883, .ref 1884, .int 0, .ref 1885, .int 0, .ref 1886, .int (-1), .ref 1887, .int 0, .ref 1888, .int 0, .ref 1889, .ref 1890, .ref 1891, .ref 1892, .ref 1893, .ref 1894, .ref 1895, .ref 1896, .ref 1897, .ref 1898, .int 0, .int 0, .int 0]))) := by rw [eS7]; exact am_nth_ne g6_2 (by decide) g6_1826
  have g7_0 : am_nth S7 0 = some (6, some (.inl (.int, 6, .int 0, [(0, .int y0), (1, .int y1), (2, .int y2), (3, .int y3), (4, .int y4), (5, .int y5)]))) := by rw [eS7]; exact g6_0
  refine G_ps 3 (pc' := 21) (l' := [(1, .int 0), (0, .ref 1)]) (st' := [.ref 1]) rfl ?_
  refine G_get (i := 60) (ci := 0) (k := 6) (v := .ref 406) rfl rfl g7_1 rfl ?_
  show am_G at_P at_cl at_ty _ mt_3 24 [(1, .int 0), (0, .ref 1)] [.ref 406] _ _
  refine G_get (i := 96) (ci := 10) (k := 2) (v := .ref 407) rfl rfl g7_406 rfl ?_
  show am_G at_P at_cl at_ty _ mt_3 27 [(1, .int 0), (0, .ref 1)] [.ref 407] _ _
  refine G_cv (i := 100) (j := 144) (b := 407) (M' := mt_144) (xs := []) (rest := []) rfl rfl rfl rfl g7_407 (Nat.le_of_ble_eq_true rfl) (Nat.le_of_ble_eq_true rfl) ?_ (fun _ _ _ _ h9 => h9)
  show am_G at_P at_cl at_ty _ mt_144 0 [(0, .ref 407)] [] _ _
  refine G_ps 2 (pc' := 2) (l' := [(0, .ref 407)]) (st' := [.int 0, .ref 407]) rfl ?_
  refine G_put (i := 22) (ci := 11) (k := 2) (v := .int 0) rfl rfl g7_407 rfl rfl ?_
  obtain ⟨S8, eS8⟩ : ∃ T9 : am_S, T9 = am_set S7 407 (9, some (.inr (11, [.ref 408, .ref 409, .int 0, .int 0, .int 0, .int 0, .int 0, .long 0, .long 0]))) := ⟨_, rfl⟩
  show am_G at_P at_cl at_ty _ mt_144 5 [(0, .ref 407)] [] (am_set S7 407 (9, some (.inr (11, [.ref 408, .ref 409, .int 0, .int 0, .int 0, .int 0, .int 0, .long 0, .long 0])))) _
  rw [← eS8]
  have hs8 : am_same [2, 4, 5, 6, 361, 407, 1826] S S8 := by rw [eS8]; exact am_same_set hs7 g7_407 (by decide)
  have g8_1 : am_nth S8 1 = some (9, some (.inr (0, [.ref 2, .ref 7, .ref 361, .ref 363, .ref 366, .ref 372, .ref 406, .ref 1824, .int 0]))) := by rw [eS8]; exact am_nth_ne g7_407 (by decide) g7_1
  have g8_2 : am_nth S8 2 = some (6, some (.inr (1, [.ref 3, .int 0, .ref 4, .ref 5, .ref 6, .int 1]))) := by rw [eS8]; exact am_nth_ne g7_407 (by decide) g7_2
  have g8_4 : am_nth S8 4 = some (1001, some (.inl (.int, 1001, .int 0, [(0, .int 0)]))) := by rw [eS8]; exact am_nth_ne g7_407 (by decide) g7_4
  have g8_5 : am_nth S8 5 = some (1001, some (.inl (.int, 1001, .int 0, [(0, .int 0)]))) := by rw [eS8]; exact am_nth_ne g7_407 (by decide) g7_5
  have g8_6 : am_nth S8 6 = some (1001, some (.inl (.long, 1001, .long 0, [(0, .long 0)]))) := by rw [eS8]; exact am_nth_ne g7_407 (by decide) g7_6
  have g8_7 : am_nth S8 7 = some (7, some (.inr (2, [.ref 8, .ref 13, .ref 18, .ref 23, .ref 24, .int 0, .int 0]))) := by rw [eS8]; exact am_nth_ne g7_407 (by decide) g7_7
  have g8_8 : am_nth S8 8 = some (5, some (.inr (3, [.ref 9, .ref 10, .ref 11, .ref 12, .int 0]))) := by rw [eS8]; exact am_nth_ne g7_407 (by decide) g7_8
  have g8_13 : am_nth S8 13 = some (5, some (.inr (3, [.ref 14, .ref 15, .ref 16, .ref 17, .int 0]))) := by rw [eS8]; exact am_nth_ne g7_407 (by decide) g7_13
  have g8_18 : am_nth S8 18 = some (5, some (.inr (3, [.ref 19, .ref 20, .ref 21, .ref 22, .int 0]))) := by rw [eS8]; exact am_nth_ne g7_407 (by decide) g7_18
  have g8_361 : am_nth S8 361 = some (10, some (.inr (6, [.ref 2, .ref 7, .ref 362, .int 0, .int 0, .int 0, .int 0, .ref 25, .ref 26, .int 0]))) := by rw [eS8]; exact am_nth_ne g7_407 (by decide) g7_361
  have g8_406 : am_nth S8 406 = some (19, some (.inr (10, [.ref 7, .ref 366, .ref 407, .ref 878, .ref 1349, .ref 1350, .ref 1350, .ref 1350, .long 0, .long 0, .ref 409, .ref 1352, .ref 1354, .int 0, .int 0, .long 0, .int 0, .int 0, .int 0]))) := by rw [eS8]; exact am_nth_ne g7_407 (by decide) g7_406
  have g8_407 : am_nth S8 407 = some (9, some (.inr (11, [.ref 408, .ref 409, .int 0, .int 0, .int 0, .int 0, .int 0, .long 0, .long 0]))) := by rw [eS8]; exact am_nth_self g7_407
  have g8_1826 : am_nth S8 1826 = some (115, some (.inr (13, [.int 0, .int 0, .ref 1827, .int 0, .ref 1828, .ref 1829, .ref 1830, .ref 1831, .int 0, .ref 1832, .ref 1833, .ref 1834, .ref 1835, .int 0, .ref 1836, .ref 1837, .ref 1838, .ref 1839, .ref 1840, .int 0, .ref 1841, .ref 1842, .ref 1843, .ref 1844, .ref 1845, .ref 1846, .ref 1847, .ref 1848, .int 0, .int 0, .int 0, .int 0, .int 0, .long 0, .int 0, .int 0, .int 0, .ref 1849, .ref 1850, .int 0, .int 0, .int 0, .ref 1851, .int 0, .int 0, .ref 1852, .ref 1853, .int 0, .ref 1854, .ref 1855, .int 0, .int 0, .ref 1856, .int 0, .ref 1857, .int 0, .int 0, .int 0, .ref 1858, .int 0, .ref 1859, .ref 1860, .ref 1861, .ref 1862, .ref 1863, .ref 1864, .ref 1865, .int (-1), .ref 1866, .ref 1867, .ref 1868, .ref 1869, .int 0, .ref 1870, .int (-1), .int 0, .int 0, .int 0, .ref 1871, .ref 1872, .ref 1873, .ref 1874, .ref 1875, .ref 1876, .ref 1877, .ref 1878, .ref 1879, .ref 1880, .ref 1881, .int 0, .ref 1882, .ref 1883, .ref 1884, .int 0, .ref 1885, .int 0, .ref 1886, .int (-1), .ref 1887, .int 0, .ref 1888, .int 0, .ref 1889, .ref 1890, .ref 1891, .ref 1892, .ref 1893, .ref 1894, .ref 1895, .ref 1896, .ref 1897, .ref 1898, .int 0, .int 0, .int 0]))) := by rw [eS8]; exact am_nth_ne g7_407 (by decide) g7_1826
  have g8_0 : am_nth S8 0 = some (6, some (.inl (.int, 6, .int 0, [(0, .int y0), (1, .int y1), (2, .int y2), (3, .int y3), (4, .int y4), (5, .int y5)]))) := by rw [eS8]; exact g7_0
  refine G_ps 2 (pc' := 7) (l' := [(0, .ref 407)]) (st' := [.int 0, .ref 407]) rfl ?_
  refine G_put (i := 26) (ci := 11) (k := 3) (v := .int 0) rfl rfl g8_407 rfl rfl ?_
  obtain ⟨S9, eS9⟩ : ∃ T9 : am_S, T9 = am_set S8 407 (9, some (.inr (11, [.ref 408, .ref 409, .int 0, .int 0, .int 0, .int 0, .int 0, .long 0, .long 0]))) := ⟨_, rfl⟩
  show am_G at_P at_cl at_ty _ mt_144 10 [(0, .ref 407)] [] (am_set S8 407 (9, some (.inr (11, [.ref 408, .ref 409, .int 0, .int 0, .int 0, .int 0, .int 0, .long 0, .long 0])))) _
  rw [← eS9]
  have hs9 : am_same [2, 4, 5, 6, 361, 407, 1826] S S9 := by rw [eS9]; exact am_same_set hs8 g8_407 (by decide)
  have g9_1 : am_nth S9 1 = some (9, some (.inr (0, [.ref 2, .ref 7, .ref 361, .ref 363, .ref 366, .ref 372, .ref 406, .ref 1824, .int 0]))) := by rw [eS9]; exact am_nth_ne g8_407 (by decide) g8_1
  have g9_2 : am_nth S9 2 = some (6, some (.inr (1, [.ref 3, .int 0, .ref 4, .ref 5, .ref 6, .int 1]))) := by rw [eS9]; exact am_nth_ne g8_407 (by decide) g8_2
  have g9_4 : am_nth S9 4 = some (1001, some (.inl (.int, 1001, .int 0, [(0, .int 0)]))) := by rw [eS9]; exact am_nth_ne g8_407 (by decide) g8_4
  have g9_5 : am_nth S9 5 = some (1001, some (.inl (.int, 1001, .int 0, [(0, .int 0)]))) := by rw [eS9]; exact am_nth_ne g8_407 (by decide) g8_5
  have g9_6 : am_nth S9 6 = some (1001, some (.inl (.long, 1001, .long 0, [(0, .long 0)]))) := by rw [eS9]; exact am_nth_ne g8_407 (by decide) g8_6
  have g9_7 : am_nth S9 7 = some (7, some (.inr (2, [.ref 8, .ref 13, .ref 18, .ref 23, .ref 24, .int 0, .int 0]))) := by rw [eS9]; exact am_nth_ne g8_407 (by decide) g8_7
  have g9_8 : am_nth S9 8 = some (5, some (.inr (3, [.ref 9, .ref 10, .ref 11, .ref 12, .int 0]))) := by rw [eS9]; exact am_nth_ne g8_407 (by decide) g8_8
  have g9_13 : am_nth S9 13 = some (5, some (.inr (3, [.ref 14, .ref 15, .ref 16, .ref 17, .int 0]))) := by rw [eS9]; exact am_nth_ne g8_407 (by decide) g8_13
  have g9_18 : am_nth S9 18 = some (5, some (.inr (3, [.ref 19, .ref 20, .ref 21, .ref 22, .int 0]))) := by rw [eS9]; exact am_nth_ne g8_407 (by decide) g8_18
  have g9_361 : am_nth S9 361 = some (10, some (.inr (6, [.ref 2, .ref 7, .ref 362, .int 0, .int 0, .int 0, .int 0, .ref 25, .ref 26, .int 0]))) := by rw [eS9]; exact am_nth_ne g8_407 (by decide) g8_361
  have g9_406 : am_nth S9 406 = some (19, some (.inr (10, [.ref 7, .ref 366, .ref 407, .ref 878, .ref 1349, .ref 1350, .ref 1350, .ref 1350, .long 0, .long 0, .ref 409, .ref 1352, .ref 1354, .int 0, .int 0, .long 0, .int 0, .int 0, .int 0]))) := by rw [eS9]; exact am_nth_ne g8_407 (by decide) g8_406
  have g9_407 : am_nth S9 407 = some (9, some (.inr (11, [.ref 408, .ref 409, .int 0, .int 0, .int 0, .int 0, .int 0, .long 0, .long 0]))) := by rw [eS9]; exact am_nth_self g8_407
  have g9_1826 : am_nth S9 1826 = some (115, some (.inr (13, [.int 0, .int 0, .ref 1827, .int 0, .ref 1828, .ref 1829, .ref 1830, .ref 1831, .int 0, .ref 1832, .ref 1833, .ref 1834, .ref 1835, .int 0, .ref 1836, .ref 1837, .ref 1838, .ref 1839, .ref 1840, .int 0, .ref 1841, .ref 1842, .ref 1843, .ref 1844, .ref 1845, .ref 1846, .ref 1847, .ref 1848, .int 0, .int 0, .int 0, .int 0, .int 0, .long 0, .int 0, .int 0, .int 0, .ref 1849, .ref 1850, .int 0, .int 0, .int 0, .ref 1851, .int 0, .int 0, .ref 1852, .ref 1853, .int 0, .ref 1854, .ref 1855, .int 0, .int 0, .ref 1856, .int 0, .ref 1857, .int 0, .int 0, .int 0, .ref 1858, .int 0, .ref 1859, .ref 1860, .ref 1861, .ref 1862, .ref 1863, .ref 1864, .ref 1865, .int (-1), .ref 1866, .ref 1867, .ref 1868, .ref 1869, .int 0, .ref 1870, .int (-1), .int 0, .int 0, .int 0, .ref 1871, .ref 1872, .ref 1873, .ref 1874, .ref 1875, .ref 1876, .ref 1877, .ref 1878, .ref 1879, .ref 1880, .ref 1881, .int 0, .ref 1882, .ref 1883, .ref 1884, .int 0, .ref 1885, .int 0, .ref 1886, .int (-1), .ref 1887, .int 0, .ref 1888, .int 0, .ref 1889, .ref 1890, .ref 1891, .ref 1892, .ref 1893, .ref 1894, .ref 1895, .ref 1896, .ref 1897, .ref 1898, .int 0, .int 0, .int 0]))) := by rw [eS9]; exact am_nth_ne g8_407 (by decide) g8_1826
  have g9_0 : am_nth S9 0 = some (6, some (.inl (.int, 6, .int 0, [(0, .int y0), (1, .int y1), (2, .int y2), (3, .int y3), (4, .int y4), (5, .int y5)]))) := by rw [eS9]; exact g8_0
  refine G_ret rfl rfl rfl ?_
  show am_G at_P at_cl at_ty _ mt_3 30 [(1, .int 0), (0, .ref 1)] [] _ _
  refine G_ps 1 (pc' := 31) (l' := [(1, .int 0), (0, .ref 1)]) (st' := [.int 0]) rfl ?_
  refine G_ret rfl rfl rfl ?_
  show am_G at_P at_cl at_ty _ mt_law 292 [(4, .int 0), (3, .ref 1899), (2, .ref 1826), (1, .ref 1), (0, .ref 0)] [.int 0] _ _
  refine G_ps 1 (pc' := 293) (l' := [(4, .int 0), (3, .ref 1899), (2, .ref 1826), (1, .ref 1), (0, .ref 0)]) (st' := [.ref 1826, .int 0]) rfl ?_
  refine G_cv (i := 42) (j := 192) (b := 1826) (M' := mt_192) (xs := []) (rest := [.int 0]) rfl rfl rfl rfl g9_1826 (Nat.le_of_ble_eq_true rfl) (Nat.le_of_ble_eq_true rfl) ?_ (fun _ _ _ _ h9 => h9)
  show am_G at_P at_cl at_ty _ mt_192 0 [(0, .ref 1826)] [] _ _
  refine G_ps 1 (pc' := 1) (l' := [(0, .ref 1826)]) (st' := [.ref 1826]) rfl ?_
  refine G_get (i := 306) (ci := 13) (k := 1) (v := .int 0) rfl rfl g9_1826 rfl ?_
  show am_G at_P at_cl at_ty _ mt_192 4 [(0, .ref 1826)] [.int 0] _ _
  refine G_ps 2 (pc' := 6) (l' := [(1, .int 0), (0, .ref 1826)]) (st' := [.ref 1826]) rfl ?_
  refine G_get (i := 319) (ci := 13) (k := 3) (v := .int 0) rfl rfl g9_1826 rfl ?_
  show am_G at_P at_cl at_ty _ mt_192 9 [(1, .int 0), (0, .ref 1826)] [.int 0] _ _
  refine G_ps 2 (pc' := 11) (l' := [(2, .int 0), (1, .int 0), (0, .ref 1826)]) (st' := [.ref 1826]) rfl ?_
  refine G_get (i := 325) (ci := 13) (k := 8) (v := .int 0) rfl rfl g9_1826 rfl ?_
  show am_G at_P at_cl at_ty _ mt_192 14 [(2, .int 0), (1, .int 0), (0, .ref 1826)] [.int 0] _ _
  refine G_ps 2 (pc' := 16) (l' := [(3, .int 0), (2, .int 0), (1, .int 0), (0, .ref 1826)]) (st' := [.ref 1826]) rfl ?_
  refine G_get (i := 376) (ci := 13) (k := 13) (v := .int 0) rfl rfl g9_1826 rfl ?_
  show am_G at_P at_cl at_ty _ mt_192 19 [(3, .int 0), (2, .int 0), (1, .int 0), (0, .ref 1826)] [.int 0] _ _
  refine G_ps 2 (pc' := 22) (l' := [(4, .int 0), (3, .int 0), (2, .int 0), (1, .int 0), (0, .ref 1826)]) (st' := [.ref 1826]) rfl ?_
  refine G_get (i := 387) (ci := 13) (k := 19) (v := .int 0) rfl rfl g9_1826 rfl ?_
  show am_G at_P at_cl at_ty _ mt_192 25 [(4, .int 0), (3, .int 0), (2, .int 0), (1, .int 0), (0, .ref 1826)] [.int 0] _ _
  refine G_ps 4 (pc' := 31) (l' := [(6, .int 0), (5, .int 0), (4, .int 0), (3, .int 0), (2, .int 0), (1, .int 0), (0, .ref 1826)]) (st' := [.ref 1826]) rfl ?_
  refine G_cv (i := 396) (j := 191) (b := 1826) (M' := mt_191) (xs := []) (rest := []) rfl rfl rfl rfl g9_1826 (Nat.le_of_ble_eq_true rfl) (Nat.le_of_ble_eq_true rfl) ?_ (fun _ _ _ _ h9 => h9)
  show am_G at_P at_cl at_ty _ mt_191 0 [(0, .ref 1826)] [] _ _
  refine G_ps 2 (pc' := 2) (l' := [(0, .ref 1826)]) (st' := [.ref 1826, .ref 1826]) rfl ?_
  refine G_get (i := 393) (ci := 13) (k := 28) (v := .int 0) rfl rfl g9_1826 rfl ?_
  show am_G at_P at_cl at_ty _ mt_191 5 [(0, .ref 1826)] [.int 0, .ref 1826] _ _
  refine G_put (i := 264) (ci := 13) (k := 29) (v := .int 0) rfl rfl g9_1826 rfl rfl ?_
  obtain ⟨S10, eS10⟩ : ∃ T9 : am_S, T9 = am_set S9 1826 (115, some (.inr (13, [.int 0, .int 0, .ref 1827, .int 0, .ref 1828, .ref 1829, .ref 1830, .ref 1831, .int 0, .ref 1832, .ref 1833, .ref 1834, .ref 1835, .int 0, .ref 1836, .ref 1837, .ref 1838, .ref 1839, .ref 1840, .int 0, .ref 1841, .ref 1842, .ref 1843, .ref 1844, .ref 1845, .ref 1846, .ref 1847, .ref 1848, .int 0, .int 0, .int 0, .int 0, .int 0, .long 0, .int 0, .int 0, .int 0, .ref 1849, .ref 1850, .int 0, .int 0, .int 0, .ref 1851, .int 0, .int 0, .ref 1852, .ref 1853, .int 0, .ref 1854, .ref 1855, .int 0, .int 0, .ref 1856, .int 0, .ref 1857, .int 0, .int 0, .int 0, .ref 1858, .int 0, .ref 1859, .ref 1860, .ref 1861, .ref 1862, .ref 1863, .ref 1864, .ref 1865, .int (-1), .ref 1866, .ref 1867, .ref 1868, .ref 1869, .int 0, .ref 1870, .int (-1), .int 0, .int 0, .int 0, .ref 1871, .ref 1872, .ref 1873, .ref 1874, .ref 1875, .ref 1876, .ref 1877, .ref 1878, .ref 1879, .ref 1880, .ref 1881, .int 0, .ref 1882, .ref 1883, .ref 1884, .int 0, .ref 1885, .int 0, .ref 1886, .int (-1), .ref 1887, .int 0, .ref 1888, .int 0, .ref 1889, .ref 1890, .ref 1891, .ref 1892, .ref 1893, .ref 1894, .ref 1895, .ref 1896, .ref 1897, .ref 1898, .int 0, .int 0, .int 0]))) := ⟨_, rfl⟩
  show am_G at_P at_cl at_ty _ mt_191 8 [(0, .ref 1826)] [] (am_set S9 1826 (115, some (.inr (13, [.int 0, .int 0, .ref 1827, .int 0, .ref 1828, .ref 1829, .ref 1830, .ref 1831, .int 0, .ref 1832, .ref 1833, .ref 1834, .ref 1835, .int 0, .ref 1836, .ref 1837, .ref 1838, .ref 1839, .ref 1840, .int 0, .ref 1841, .ref 1842, .ref 1843, .ref 1844, .ref 1845, .ref 1846, .ref 1847, .ref 1848, .int 0, .int 0, .int 0, .int 0, .int 0, .long 0, .int 0, .int 0, .int 0, .ref 1849, .ref 1850, .int 0, .int 0, .int 0, .ref 1851, .int 0, .int 0, .ref 1852, .ref 1853, .int 0, .ref 1854, .ref 1855, .int 0, .int 0, .ref 1856, .int 0, .ref 1857, .int 0, .int 0, .int 0, .ref 1858, .int 0, .ref 1859, .ref 1860, .ref 1861, .ref 1862, .ref 1863, .ref 1864, .ref 1865, .int (-1), .ref 1866, .ref 1867, .ref 1868, .ref 1869, .int 0, .ref 1870, .int (-1), .int 0, .int 0, .int 0, .ref 1871, .ref 1872, .ref 1873, .ref 1874, .ref 1875, .ref 1876, .ref 1877, .ref 1878, .ref 1879, .ref 1880, .ref 1881, .int 0, .ref 1882, .ref 1883, .ref 1884, .int 0, .ref 1885, .int 0, .ref 1886, .int (-1), .ref 1887, .int 0, .ref 1888, .int 0, .ref 1889, .ref 1890, .ref 1891, .ref 1892, .ref 1893, .ref 1894, .ref 1895, .ref 1896, .ref 1897, .ref 1898, .int 0, .int 0, .int 0])))) _
  rw [← eS10]
  have hs10 : am_same [2, 4, 5, 6, 361, 407, 1826] S S10 := by rw [eS10]; exact am_same_set hs9 g9_1826 (by decide)
  have g10_1 : am_nth S10 1 = some (9, some (.inr (0, [.ref 2, .ref 7, .ref 361, .ref 363, .ref 366, .ref 372, .ref 406, .ref 1824, .int 0]))) := by rw [eS10]; exact am_nth_ne g9_1826 (by decide) g9_1
  have g10_2 : am_nth S10 2 = some (6, some (.inr (1, [.ref 3, .int 0, .ref 4, .ref 5, .ref 6, .int 1]))) := by rw [eS10]; exact am_nth_ne g9_1826 (by decide) g9_2
  have g10_4 : am_nth S10 4 = some (1001, some (.inl (.int, 1001, .int 0, [(0, .int 0)]))) := by rw [eS10]; exact am_nth_ne g9_1826 (by decide) g9_4
  have g10_5 : am_nth S10 5 = some (1001, some (.inl (.int, 1001, .int 0, [(0, .int 0)]))) := by rw [eS10]; exact am_nth_ne g9_1826 (by decide) g9_5
  have g10_6 : am_nth S10 6 = some (1001, some (.inl (.long, 1001, .long 0, [(0, .long 0)]))) := by rw [eS10]; exact am_nth_ne g9_1826 (by decide) g9_6
  have g10_7 : am_nth S10 7 = some (7, some (.inr (2, [.ref 8, .ref 13, .ref 18, .ref 23, .ref 24, .int 0, .int 0]))) := by rw [eS10]; exact am_nth_ne g9_1826 (by decide) g9_7
  have g10_8 : am_nth S10 8 = some (5, some (.inr (3, [.ref 9, .ref 10, .ref 11, .ref 12, .int 0]))) := by rw [eS10]; exact am_nth_ne g9_1826 (by decide) g9_8
  have g10_13 : am_nth S10 13 = some (5, some (.inr (3, [.ref 14, .ref 15, .ref 16, .ref 17, .int 0]))) := by rw [eS10]; exact am_nth_ne g9_1826 (by decide) g9_13
  have g10_18 : am_nth S10 18 = some (5, some (.inr (3, [.ref 19, .ref 20, .ref 21, .ref 22, .int 0]))) := by rw [eS10]; exact am_nth_ne g9_1826 (by decide) g9_18
  have g10_361 : am_nth S10 361 = some (10, some (.inr (6, [.ref 2, .ref 7, .ref 362, .int 0, .int 0, .int 0, .int 0, .ref 25, .ref 26, .int 0]))) := by rw [eS10]; exact am_nth_ne g9_1826 (by decide) g9_361
  have g10_406 : am_nth S10 406 = some (19, some (.inr (10, [.ref 7, .ref 366, .ref 407, .ref 878, .ref 1349, .ref 1350, .ref 1350, .ref 1350, .long 0, .long 0, .ref 409, .ref 1352, .ref 1354, .int 0, .int 0, .long 0, .int 0, .int 0, .int 0]))) := by rw [eS10]; exact am_nth_ne g9_1826 (by decide) g9_406
  have g10_407 : am_nth S10 407 = some (9, some (.inr (11, [.ref 408, .ref 409, .int 0, .int 0, .int 0, .int 0, .int 0, .long 0, .long 0]))) := by rw [eS10]; exact am_nth_ne g9_1826 (by decide) g9_407
  have g10_1826 : am_nth S10 1826 = some (115, some (.inr (13, [.int 0, .int 0, .ref 1827, .int 0, .ref 1828, .ref 1829, .ref 1830, .ref 1831, .int 0, .ref 1832, .ref 1833, .ref 1834, .ref 1835, .int 0, .ref 1836, .ref 1837, .ref 1838, .ref 1839, .ref 1840, .int 0, .ref 1841, .ref 1842, .ref 1843, .ref 1844, .ref 1845, .ref 1846, .ref 1847, .ref 1848, .int 0, .int 0, .int 0, .int 0, .int 0, .long 0, .int 0, .int 0, .int 0, .ref 1849, .ref 1850, .int 0, .int 0, .int 0, .ref 1851, .int 0, .int 0, .ref 1852, .ref 1853, .int 0, .ref 1854, .ref 1855, .int 0, .int 0, .ref 1856, .int 0, .ref 1857, .int 0, .int 0, .int 0, .ref 1858, .int 0, .ref 1859, .ref 1860, .ref 1861, .ref 1862, .ref 1863, .ref 1864, .ref 1865, .int (-1), .ref 1866, .ref 1867, .ref 1868, .ref 1869, .int 0, .ref 1870, .int (-1), .int 0, .int 0, .int 0, .ref 1871, .ref 1872, .ref 1873, .ref 1874, .ref 1875, .ref 1876, .ref 1877, .ref 1878, .ref 1879, .ref 1880, .ref 1881, .int 0, .ref 1882, .ref 1883, .ref 1884, .int 0, .ref 1885, .int 0, .ref 1886, .int (-1), .ref 1887, .int 0, .ref 1888, .int 0, .ref 1889, .ref 1890, .ref 1891, .ref 1892, .ref 1893, .ref 1894, .ref 1895, .ref 1896, .ref 1897, .ref 1898, .int 0, .int 0, .int 0]))) := by rw [eS10]; exact am_nth_self g9_1826
  have g10_0 : am_nth S10 0 = some (6, some (.inl (.int, 6, .int 0, [(0, .int y0), (1, .int y1), (2, .int y2), (3, .int y3), (4, .int y4), (5, .int y5)]))) := by rw [eS10]; exact g9_0
  refine G_ps 2 (pc' := 10) (l' := [(0, .ref 1826)]) (st' := [.int 0, .ref 1826]) rfl ?_
  refine G_put (i := 393) (ci := 13) (k := 28) (v := .int 0) rfl rfl g10_1826 rfl rfl ?_
  obtain ⟨S11, eS11⟩ : ∃ T9 : am_S, T9 = am_set S10 1826 (115, some (.inr (13, [.int 0, .int 0, .ref 1827, .int 0, .ref 1828, .ref 1829, .ref 1830, .ref 1831, .int 0, .ref 1832, .ref 1833, .ref 1834, .ref 1835, .int 0, .ref 1836, .ref 1837, .ref 1838, .ref 1839, .ref 1840, .int 0, .ref 1841, .ref 1842, .ref 1843, .ref 1844, .ref 1845, .ref 1846, .ref 1847, .ref 1848, .int 0, .int 0, .int 0, .int 0, .int 0, .long 0, .int 0, .int 0, .int 0, .ref 1849, .ref 1850, .int 0, .int 0, .int 0, .ref 1851, .int 0, .int 0, .ref 1852, .ref 1853, .int 0, .ref 1854, .ref 1855, .int 0, .int 0, .ref 1856, .int 0, .ref 1857, .int 0, .int 0, .int 0, .ref 1858, .int 0, .ref 1859, .ref 1860, .ref 1861, .ref 1862, .ref 1863, .ref 1864, .ref 1865, .int (-1), .ref 1866, .ref 1867, .ref 1868, .ref 1869, .int 0, .ref 1870, .int (-1), .int 0, .int 0, .int 0, .ref 1871, .ref 1872, .ref 1873, .ref 1874, .ref 1875, .ref 1876, .ref 1877, .ref 1878, .ref 1879, .ref 1880, .ref 1881, .int 0, .ref 1882, .ref 1883, .ref 1884, .int 0, .ref 1885, .int 0, .ref 1886, .int (-1), .ref 1887, .int 0, .ref 1888, .int 0, .ref 1889, .ref 1890, .ref 1891, .ref 1892, .ref 1893, .ref 1894, .ref 1895, .ref 1896, .ref 1897, .ref 1898, .int 0, .int 0, .int 0]))) := ⟨_, rfl⟩
  show am_G at_P at_cl at_ty _ mt_191 13 [(0, .ref 1826)] [] (am_set S10 1826 (115, some (.inr (13, [.int 0, .int 0, .ref 1827, .int 0, .ref 1828, .ref 1829, .ref 1830, .ref 1831, .int 0, .ref 1832, .ref 1833, .ref 1834, .ref 1835, .int 0, .ref 1836, .ref 1837, .ref 1838, .ref 1839, .ref 1840, .int 0, .ref 1841, .ref 1842, .ref 1843, .ref 1844, .ref 1845, .ref 1846, .ref 1847, .ref 1848, .int 0, .int 0, .int 0, .int 0, .int 0, .long 0, .int 0, .int 0, .int 0, .ref 1849, .ref 1850, .int 0, .int 0, .int 0, .ref 1851, .int 0, .int 0, .ref 1852, .ref 1853, .int 0, .ref 1854, .ref 1855, .int 0, .int 0, .ref 1856, .int 0, .ref 1857, .int 0, .int 0, .int 0, .ref 1858, .int 0, .ref 1859, .ref 1860, .ref 1861, .ref 1862, .ref 1863, .ref 1864, .ref 1865, .int (-1), .ref 1866, .ref 1867, .ref 1868, .ref 1869, .int 0, .ref 1870, .int (-1), .int 0, .int 0, .int 0, .ref 1871, .ref 1872, .ref 1873, .ref 1874, .ref 1875, .ref 1876, .ref 1877, .ref 1878, .ref 1879, .ref 1880, .ref 1881, .int 0, .ref 1882, .ref 1883, .ref 1884, .int 0, .ref 1885, .int 0, .ref 1886, .int (-1), .ref 1887, .int 0, .ref 1888, .int 0, .ref 1889, .ref 1890, .ref 1891, .ref 1892, .ref 1893, .ref 1894, .ref 1895, .ref 1896, .ref 1897, .ref 1898, .int 0, .int 0, .int 0])))) _
  rw [← eS11]
  have hs11 : am_same [2, 4, 5, 6, 361, 407, 1826] S S11 := by rw [eS11]; exact am_same_set hs10 g10_1826 (by decide)
  have g11_1 : am_nth S11 1 = some (9, some (.inr (0, [.ref 2, .ref 7, .ref 361, .ref 363, .ref 366, .ref 372, .ref 406, .ref 1824, .int 0]))) := by rw [eS11]; exact am_nth_ne g10_1826 (by decide) g10_1
  have g11_2 : am_nth S11 2 = some (6, some (.inr (1, [.ref 3, .int 0, .ref 4, .ref 5, .ref 6, .int 1]))) := by rw [eS11]; exact am_nth_ne g10_1826 (by decide) g10_2
  have g11_4 : am_nth S11 4 = some (1001, some (.inl (.int, 1001, .int 0, [(0, .int 0)]))) := by rw [eS11]; exact am_nth_ne g10_1826 (by decide) g10_4
  have g11_5 : am_nth S11 5 = some (1001, some (.inl (.int, 1001, .int 0, [(0, .int 0)]))) := by rw [eS11]; exact am_nth_ne g10_1826 (by decide) g10_5
  have g11_6 : am_nth S11 6 = some (1001, some (.inl (.long, 1001, .long 0, [(0, .long 0)]))) := by rw [eS11]; exact am_nth_ne g10_1826 (by decide) g10_6
  have g11_7 : am_nth S11 7 = some (7, some (.inr (2, [.ref 8, .ref 13, .ref 18, .ref 23, .ref 24, .int 0, .int 0]))) := by rw [eS11]; exact am_nth_ne g10_1826 (by decide) g10_7
  have g11_8 : am_nth S11 8 = some (5, some (.inr (3, [.ref 9, .ref 10, .ref 11, .ref 12, .int 0]))) := by rw [eS11]; exact am_nth_ne g10_1826 (by decide) g10_8
  have g11_13 : am_nth S11 13 = some (5, some (.inr (3, [.ref 14, .ref 15, .ref 16, .ref 17, .int 0]))) := by rw [eS11]; exact am_nth_ne g10_1826 (by decide) g10_13
  have g11_18 : am_nth S11 18 = some (5, some (.inr (3, [.ref 19, .ref 20, .ref 21, .ref 22, .int 0]))) := by rw [eS11]; exact am_nth_ne g10_1826 (by decide) g10_18
  have g11_361 : am_nth S11 361 = some (10, some (.inr (6, [.ref 2, .ref 7, .ref 362, .int 0, .int 0, .int 0, .int 0, .ref 25, .ref 26, .int 0]))) := by rw [eS11]; exact am_nth_ne g10_1826 (by decide) g10_361
  have g11_406 : am_nth S11 406 = some (19, some (.inr (10, [.ref 7, .ref 366, .ref 407, .ref 878, .ref 1349, .ref 1350, .ref 1350, .ref 1350, .long 0, .long 0, .ref 409, .ref 1352, .ref 1354, .int 0, .int 0, .long 0, .int 0, .int 0, .int 0]))) := by rw [eS11]; exact am_nth_ne g10_1826 (by decide) g10_406
  have g11_407 : am_nth S11 407 = some (9, some (.inr (11, [.ref 408, .ref 409, .int 0, .int 0, .int 0, .int 0, .int 0, .long 0, .long 0]))) := by rw [eS11]; exact am_nth_ne g10_1826 (by decide) g10_407
  have g11_1826 : am_nth S11 1826 = some (115, some (.inr (13, [.int 0, .int 0, .ref 1827, .int 0, .ref 1828, .ref 1829, .ref 1830, .ref 1831, .int 0, .ref 1832, .ref 1833, .ref 1834, .ref 1835, .int 0, .ref 1836, .ref 1837, .ref 1838, .ref 1839, .ref 1840, .int 0, .ref 1841, .ref 1842, .ref 1843, .ref 1844, .ref 1845, .ref 1846, .ref 1847, .ref 1848, .int 0, .int 0, .int 0, .int 0, .int 0, .long 0, .int 0, .int 0, .int 0, .ref 1849, .ref 1850, .int 0, .int 0, .int 0, .ref 1851, .int 0, .int 0, .ref 1852, .ref 1853, .int 0, .ref 1854, .ref 1855, .int 0, .int 0, .ref 1856, .int 0, .ref 1857, .int 0, .int 0, .int 0, .ref 1858, .int 0, .ref 1859, .ref 1860, .ref 1861, .ref 1862, .ref 1863, .ref 1864, .ref 1865, .int (-1), .ref 1866, .ref 1867, .ref 1868, .ref 1869, .int 0, .ref 1870, .int (-1), .int 0, .int 0, .int 0, .ref 1871, .ref 1872, .ref 1873, .ref 1874, .ref 1875, .ref 1876, .ref 1877, .ref 1878, .ref 1879, .ref 1880, .ref 1881, .int 0, .ref 1882, .ref 1883, .ref 1884, .int 0, .ref 1885, .int 0, .ref 1886, .int (-1), .ref 1887, .int 0, .ref 1888, .int 0, .ref 1889, .ref 1890, .ref 1891, .ref 1892, .ref 1893, .ref 1894, .ref 1895, .ref 1896, .ref 1897, .ref 1898, .int 0, .int 0, .int 0]))) := by rw [eS11]; exact am_nth_self g10_1826
  have g11_0 : am_nth S11 0 = some (6, some (.inl (.int, 6, .int 0, [(0, .int y0), (1, .int y1), (2, .int y2), (3, .int y3), (4, .int y4), (5, .int y5)]))) := by rw [eS11]; exact g10_0
  refine G_ps 2 (pc' := 15) (l' := [(0, .ref 1826)]) (st' := [.int 0, .ref 1826]) rfl ?_
  refine G_put (i := 261) (ci := 13) (k := 30) (v := .int 0) rfl rfl g11_1826 rfl rfl ?_
  obtain ⟨S12, eS12⟩ : ∃ T9 : am_S, T9 = am_set S11 1826 (115, some (.inr (13, [.int 0, .int 0, .ref 1827, .int 0, .ref 1828, .ref 1829, .ref 1830, .ref 1831, .int 0, .ref 1832, .ref 1833, .ref 1834, .ref 1835, .int 0, .ref 1836, .ref 1837, .ref 1838, .ref 1839, .ref 1840, .int 0, .ref 1841, .ref 1842, .ref 1843, .ref 1844, .ref 1845, .ref 1846, .ref 1847, .ref 1848, .int 0, .int 0, .int 0, .int 0, .int 0, .long 0, .int 0, .int 0, .int 0, .ref 1849, .ref 1850, .int 0, .int 0, .int 0, .ref 1851, .int 0, .int 0, .ref 1852, .ref 1853, .int 0, .ref 1854, .ref 1855, .int 0, .int 0, .ref 1856, .int 0, .ref 1857, .int 0, .int 0, .int 0, .ref 1858, .int 0, .ref 1859, .ref 1860, .ref 1861, .ref 1862, .ref 1863, .ref 1864, .ref 1865, .int (-1), .ref 1866, .ref 1867, .ref 1868, .ref 1869, .int 0, .ref 1870, .int (-1), .int 0, .int 0, .int 0, .ref 1871, .ref 1872, .ref 1873, .ref 1874, .ref 1875, .ref 1876, .ref 1877, .ref 1878, .ref 1879, .ref 1880, .ref 1881, .int 0, .ref 1882, .ref 1883, .ref 1884, .int 0, .ref 1885, .int 0, .ref 1886, .int (-1), .ref 1887, .int 0, .ref 1888, .int 0, .ref 1889, .ref 1890, .ref 1891, .ref 1892, .ref 1893, .ref 1894, .ref 1895, .ref 1896, .ref 1897, .ref 1898, .int 0, .int 0, .int 0]))) := ⟨_, rfl⟩
  show am_G at_P at_cl at_ty _ mt_191 18 [(0, .ref 1826)] [] (am_set S11 1826 (115, some (.inr (13, [.int 0, .int 0, .ref 1827, .int 0, .ref 1828, .ref 1829, .ref 1830, .ref 1831, .int 0, .ref 1832, .ref 1833, .ref 1834, .ref 1835, .int 0, .ref 1836, .ref 1837, .ref 1838, .ref 1839, .ref 1840, .int 0, .ref 1841, .ref 1842, .ref 1843, .ref 1844, .ref 1845, .ref 1846, .ref 1847, .ref 1848, .int 0, .int 0, .int 0, .int 0, .int 0, .long 0, .int 0, .int 0, .int 0, .ref 1849, .ref 1850, .int 0, .int 0, .int 0, .ref 1851, .int 0, .int 0, .ref 1852, .ref 1853, .int 0, .ref 1854, .ref 1855, .int 0, .int 0, .ref 1856, .int 0, .ref 1857, .int 0, .int 0, .int 0, .ref 1858, .int 0, .ref 1859, .ref 1860, .ref 1861, .ref 1862, .ref 1863, .ref 1864, .ref 1865, .int (-1), .ref 1866, .ref 1867, .ref 1868, .ref 1869, .int 0, .ref 1870, .int (-1), .int 0, .int 0, .int 0, .ref 1871, .ref 1872, .ref 1873, .ref 1874, .ref 1875, .ref 1876, .ref 1877, .ref 1878, .ref 1879, .ref 1880, .ref 1881, .int 0, .ref 1882, .ref 1883, .ref 1884, .int 0, .ref 1885, .int 0, .ref 1886, .int (-1), .ref 1887, .int 0, .ref 1888, .int 0, .ref 1889, .ref 1890, .ref 1891, .ref 1892, .ref 1893, .ref 1894, .ref 1895, .ref 1896, .ref 1897, .ref 1898, .int 0, .int 0, .int 0])))) _
  rw [← eS12]
  have hs12 : am_same [2, 4, 5, 6, 361, 407, 1826] S S12 := by rw [eS12]; exact am_same_set hs11 g11_1826 (by decide)
  have g12_1 : am_nth S12 1 = some (9, some (.inr (0, [.ref 2, .ref 7, .ref 361, .ref 363, .ref 366, .ref 372, .ref 406, .ref 1824, .int 0]))) := by rw [eS12]; exact am_nth_ne g11_1826 (by decide) g11_1
  have g12_2 : am_nth S12 2 = some (6, some (.inr (1, [.ref 3, .int 0, .ref 4, .ref 5, .ref 6, .int 1]))) := by rw [eS12]; exact am_nth_ne g11_1826 (by decide) g11_2
  have g12_4 : am_nth S12 4 = some (1001, some (.inl (.int, 1001, .int 0, [(0, .int 0)]))) := by rw [eS12]; exact am_nth_ne g11_1826 (by decide) g11_4
  have g12_5 : am_nth S12 5 = some (1001, some (.inl (.int, 1001, .int 0, [(0, .int 0)]))) := by rw [eS12]; exact am_nth_ne g11_1826 (by decide) g11_5
  have g12_6 : am_nth S12 6 = some (1001, some (.inl (.long, 1001, .long 0, [(0, .long 0)]))) := by rw [eS12]; exact am_nth_ne g11_1826 (by decide) g11_6
  have g12_7 : am_nth S12 7 = some (7, some (.inr (2, [.ref 8, .ref 13, .ref 18, .ref 23, .ref 24, .int 0, .int 0]))) := by rw [eS12]; exact am_nth_ne g11_1826 (by decide) g11_7
  have g12_8 : am_nth S12 8 = some (5, some (.inr (3, [.ref 9, .ref 10, .ref 11, .ref 12, .int 0]))) := by rw [eS12]; exact am_nth_ne g11_1826 (by decide) g11_8
  have g12_13 : am_nth S12 13 = some (5, some (.inr (3, [.ref 14, .ref 15, .ref 16, .ref 17, .int 0]))) := by rw [eS12]; exact am_nth_ne g11_1826 (by decide) g11_13
  have g12_18 : am_nth S12 18 = some (5, some (.inr (3, [.ref 19, .ref 20, .ref 21, .ref 22, .int 0]))) := by rw [eS12]; exact am_nth_ne g11_1826 (by decide) g11_18
  have g12_361 : am_nth S12 361 = some (10, some (.inr (6, [.ref 2, .ref 7, .ref 362, .int 0, .int 0, .int 0, .int 0, .ref 25, .ref 26, .int 0]))) := by rw [eS12]; exact am_nth_ne g11_1826 (by decide) g11_361
  have g12_406 : am_nth S12 406 = some (19, some (.inr (10, [.ref 7, .ref 366, .ref 407, .ref 878, .ref 1349, .ref 1350, .ref 1350, .ref 1350, .long 0, .long 0, .ref 409, .ref 1352, .ref 1354, .int 0, .int 0, .long 0, .int 0, .int 0, .int 0]))) := by rw [eS12]; exact am_nth_ne g11_1826 (by decide) g11_406
  have g12_407 : am_nth S12 407 = some (9, some (.inr (11, [.ref 408, .ref 409, .int 0, .int 0, .int 0, .int 0, .int 0, .long 0, .long 0]))) := by rw [eS12]; exact am_nth_ne g11_1826 (by decide) g11_407
  have g12_1826 : am_nth S12 1826 = some (115, some (.inr (13, [.int 0, .int 0, .ref 1827, .int 0, .ref 1828, .ref 1829, .ref 1830, .ref 1831, .int 0, .ref 1832, .ref 1833, .ref 1834, .ref 1835, .int 0, .ref 1836, .ref 1837, .ref 1838, .ref 1839, .ref 1840, .int 0, .ref 1841, .ref 1842, .ref 1843, .ref 1844, .ref 1845, .ref 1846, .ref 1847, .ref 1848, .int 0, .int 0, .int 0, .int 0, .int 0, .long 0, .int 0, .int 0, .int 0, .ref 1849, .ref 1850, .int 0, .int 0, .int 0, .ref 1851, .int 0, .int 0, .ref 1852, .ref 1853, .int 0, .ref 1854, .ref 1855, .int 0, .int 0, .ref 1856, .int 0, .ref 1857, .int 0, .int 0, .int 0, .ref 1858, .int 0, .ref 1859, .ref 1860, .ref 1861, .ref 1862, .ref 1863, .ref 1864, .ref 1865, .int (-1), .ref 1866, .ref 1867, .ref 1868, .ref 1869, .int 0, .ref 1870, .int (-1), .int 0, .int 0, .int 0, .ref 1871, .ref 1872, .ref 1873, .ref 1874, .ref 1875, .ref 1876, .ref 1877, .ref 1878, .ref 1879, .ref 1880, .ref 1881, .int 0, .ref 1882, .ref 1883, .ref 1884, .int 0, .ref 1885, .int 0, .ref 1886, .int (-1), .ref 1887, .int 0, .ref 1888, .int 0, .ref 1889, .ref 1890, .ref 1891, .ref 1892, .ref 1893, .ref 1894, .ref 1895, .ref 1896, .ref 1897, .ref 1898, .int 0, .int 0, .int 0]))) := by rw [eS12]; exact am_nth_self g11_1826
  have g12_0 : am_nth S12 0 = some (6, some (.inl (.int, 6, .int 0, [(0, .int y0), (1, .int y1), (2, .int y2), (3, .int y3), (4, .int y4), (5, .int y5)]))) := by rw [eS12]; exact g11_0
  refine G_ps 2 (pc' := 20) (l' := [(0, .ref 1826)]) (st' := [.int 0, .ref 1826]) rfl ?_
  refine G_put (i := 248) (ci := 13) (k := 35) (v := .int 0) rfl rfl g12_1826 rfl rfl ?_
  obtain ⟨S13, eS13⟩ : ∃ T9 : am_S, T9 = am_set S12 1826 (115, some (.inr (13, [.int 0, .int 0, .ref 1827, .int 0, .ref 1828, .ref 1829, .ref 1830, .ref 1831, .int 0, .ref 1832, .ref 1833, .ref 1834, .ref 1835, .int 0, .ref 1836, .ref 1837, .ref 1838, .ref 1839, .ref 1840, .int 0, .ref 1841, .ref 1842, .ref 1843, .ref 1844, .ref 1845, .ref 1846, .ref 1847, .ref 1848, .int 0, .int 0, .int 0, .int 0, .int 0, .long 0, .int 0, .int 0, .int 0, .ref 1849, .ref 1850, .int 0, .int 0, .int 0, .ref 1851, .int 0, .int 0, .ref 1852, .ref 1853, .int 0, .ref 1854, .ref 1855, .int 0, .int 0, .ref 1856, .int 0, .ref 1857, .int 0, .int 0, .int 0, .ref 1858, .int 0, .ref 1859, .ref 1860, .ref 1861, .ref 1862, .ref 1863, .ref 1864, .ref 1865, .int (-1), .ref 1866, .ref 1867, .ref 1868, .ref 1869, .int 0, .ref 1870, .int (-1), .int 0, .int 0, .int 0, .ref 1871, .ref 1872, .ref 1873, .ref 1874, .ref 1875, .ref 1876, .ref 1877, .ref 1878, .ref 1879, .ref 1880, .ref 1881, .int 0, .ref 1882, .ref 1883, .ref 1884, .int 0, .ref 1885, .int 0, .ref 1886, .int (-1), .ref 1887, .int 0, .ref 1888, .int 0, .ref 1889, .ref 1890, .ref 1891, .ref 1892, .ref 1893, .ref 1894, .ref 1895, .ref 1896, .ref 1897, .ref 1898, .int 0, .int 0, .int 0]))) := ⟨_, rfl⟩
  show am_G at_P at_cl at_ty _ mt_191 23 [(0, .ref 1826)] [] (am_set S12 1826 (115, some (.inr (13, [.int 0, .int 0, .ref 1827, .int 0, .ref 1828, .ref 1829, .ref 1830, .ref 1831, .int 0, .ref 1832, .ref 1833, .ref 1834, .ref 1835, .int 0, .ref 1836, .ref 1837, .ref 1838, .ref 1839, .ref 1840, .int 0, .ref 1841, .ref 1842, .ref 1843, .ref 1844, .ref 1845, .ref 1846, .ref 1847, .ref 1848, .int 0, .int 0, .int 0, .int 0, .int 0, .long 0, .int 0, .int 0, .int 0, .ref 1849, .ref 1850, .int 0, .int 0, .int 0, .ref 1851, .int 0, .int 0, .ref 1852, .ref 1853, .int 0, .ref 1854, .ref 1855, .int 0, .int 0, .ref 1856, .int 0, .ref 1857, .int 0, .int 0, .int 0, .ref 1858, .int 0, .ref 1859, .ref 1860, .ref 1861, .ref 1862, .ref 1863, .ref 1864, .ref 1865, .int (-1), .ref 1866, .ref 1867, .ref 1868, .ref 1869, .int 0, .ref 1870, .int (-1), .int 0, .int 0, .int 0, .ref 1871, .ref 1872, .ref 1873, .ref 1874, .ref 1875, .ref 1876, .ref 1877, .ref 1878, .ref 1879, .ref 1880, .ref 1881, .int 0, .ref 1882, .ref 1883, .ref 1884, .int 0, .ref 1885, .int 0, .ref 1886, .int (-1), .ref 1887, .int 0, .ref 1888, .int 0, .ref 1889, .ref 1890, .ref 1891, .ref 1892, .ref 1893, .ref 1894, .ref 1895, .ref 1896, .ref 1897, .ref 1898, .int 0, .int 0, .int 0])))) _
  rw [← eS13]
  have hs13 : am_same [2, 4, 5, 6, 361, 407, 1826] S S13 := by rw [eS13]; exact am_same_set hs12 g12_1826 (by decide)
  have g13_1 : am_nth S13 1 = some (9, some (.inr (0, [.ref 2, .ref 7, .ref 361, .ref 363, .ref 366, .ref 372, .ref 406, .ref 1824, .int 0]))) := by rw [eS13]; exact am_nth_ne g12_1826 (by decide) g12_1
  have g13_2 : am_nth S13 2 = some (6, some (.inr (1, [.ref 3, .int 0, .ref 4, .ref 5, .ref 6, .int 1]))) := by rw [eS13]; exact am_nth_ne g12_1826 (by decide) g12_2
  have g13_4 : am_nth S13 4 = some (1001, some (.inl (.int, 1001, .int 0, [(0, .int 0)]))) := by rw [eS13]; exact am_nth_ne g12_1826 (by decide) g12_4
  have g13_5 : am_nth S13 5 = some (1001, some (.inl (.int, 1001, .int 0, [(0, .int 0)]))) := by rw [eS13]; exact am_nth_ne g12_1826 (by decide) g12_5
  have g13_6 : am_nth S13 6 = some (1001, some (.inl (.long, 1001, .long 0, [(0, .long 0)]))) := by rw [eS13]; exact am_nth_ne g12_1826 (by decide) g12_6
  have g13_7 : am_nth S13 7 = some (7, some (.inr (2, [.ref 8, .ref 13, .ref 18, .ref 23, .ref 24, .int 0, .int 0]))) := by rw [eS13]; exact am_nth_ne g12_1826 (by decide) g12_7
  have g13_8 : am_nth S13 8 = some (5, some (.inr (3, [.ref 9, .ref 10, .ref 11, .ref 12, .int 0]))) := by rw [eS13]; exact am_nth_ne g12_1826 (by decide) g12_8
  have g13_13 : am_nth S13 13 = some (5, some (.inr (3, [.ref 14, .ref 15, .ref 16, .ref 17, .int 0]))) := by rw [eS13]; exact am_nth_ne g12_1826 (by decide) g12_13
  have g13_18 : am_nth S13 18 = some (5, some (.inr (3, [.ref 19, .ref 20, .ref 21, .ref 22, .int 0]))) := by rw [eS13]; exact am_nth_ne g12_1826 (by decide) g12_18
  have g13_361 : am_nth S13 361 = some (10, some (.inr (6, [.ref 2, .ref 7, .ref 362, .int 0, .int 0, .int 0, .int 0, .ref 25, .ref 26, .int 0]))) := by rw [eS13]; exact am_nth_ne g12_1826 (by decide) g12_361
  have g13_406 : am_nth S13 406 = some (19, some (.inr (10, [.ref 7, .ref 366, .ref 407, .ref 878, .ref 1349, .ref 1350, .ref 1350, .ref 1350, .long 0, .long 0, .ref 409, .ref 1352, .ref 1354, .int 0, .int 0, .long 0, .int 0, .int 0, .int 0]))) := by rw [eS13]; exact am_nth_ne g12_1826 (by decide) g12_406
  have g13_407 : am_nth S13 407 = some (9, some (.inr (11, [.ref 408, .ref 409, .int 0, .int 0, .int 0, .int 0, .int 0, .long 0, .long 0]))) := by rw [eS13]; exact am_nth_ne g12_1826 (by decide) g12_407
  have g13_1826 : am_nth S13 1826 = some (115, some (.inr (13, [.int 0, .int 0, .ref 1827, .int 0, .ref 1828, .ref 1829, .ref 1830, .ref 1831, .int 0, .ref 1832, .ref 1833, .ref 1834, .ref 1835, .int 0, .ref 1836, .ref 1837, .ref 1838, .ref 1839, .ref 1840, .int 0, .ref 1841, .ref 1842, .ref 1843, .ref 1844, .ref 1845, .ref 1846, .ref 1847, .ref 1848, .int 0, .int 0, .int 0, .int 0, .int 0, .long 0, .int 0, .int 0, .int 0, .ref 1849, .ref 1850, .int 0, .int 0, .int 0, .ref 1851, .int 0, .int 0, .ref 1852, .ref 1853, .int 0, .ref 1854, .ref 1855, .int 0, .int 0, .ref 1856, .int 0, .ref 1857, .int 0, .int 0, .int 0, .ref 1858, .int 0, .ref 1859, .ref 1860, .ref 1861, .ref 1862, .ref 1863, .ref 1864, .ref 1865, .int (-1), .ref 1866, .ref 1867, .ref 1868, .ref 1869, .int 0, .ref 1870, .int (-1), .int 0, .int 0, .int 0, .ref 1871, .ref 1872, .ref 1873, .ref 1874, .ref 1875, .ref 1876, .ref 1877, .ref 1878, .ref 1879, .ref 1880, .ref 1881, .int 0, .ref 1882, .ref 1883, .ref 1884, .int 0, .ref 1885, .int 0, .ref 1886, .int (-1), .ref 1887, .int 0, .ref 1888, .int 0, .ref 1889, .ref 1890, .ref 1891, .ref 1892, .ref 1893, .ref 1894, .ref 1895, .ref 1896, .ref 1897, .ref 1898, .int 0, .int 0, .int 0]))) := by rw [eS13]; exact am_nth_self g12_1826
  have g13_0 : am_nth S13 0 = some (6, some (.inl (.int, 6, .int 0, [(0, .int y0), (1, .int y1), (2, .int y2), (3, .int y3), (4, .int y4), (5, .int y5)]))) := by rw [eS13]; exact g12_0
  refine G_ps 1 (pc' := 24) (l' := [(0, .ref 1826)]) (st' := [.ref 1826]) rfl ?_
  refine G_cv (i := 297) (j := 165) (b := 1826) (M' := mt_165) (xs := []) (rest := []) rfl rfl rfl rfl g13_1826 (Nat.le_of_ble_eq_true rfl) (Nat.le_of_ble_eq_true rfl) ?_ (fun _ _ _ _ h9 => h9)
  show am_G at_P at_cl at_ty _ mt_165 0 [(0, .ref 1826)] [] _ _
  refine G_ps 1 (pc' := 1) (l' := [(0, .ref 1826)]) (st' := [.ref 1826]) rfl ?_
  refine G_cv (i := 267) (j := 161) (b := 1826) (M' := mt_161) (xs := []) (rest := []) rfl rfl rfl rfl g13_1826 (Nat.le_of_ble_eq_true rfl) (Nat.le_of_ble_eq_true rfl) ?_ (fun _ _ _ _ h9 => h9)
  show am_G at_P at_cl at_ty _ mt_161 0 [(0, .ref 1826)] [] _ _
  refine G_ps 1 (pc' := 1) (l' := [(0, .ref 1826)]) (st' := [.ref 1826]) rfl ?_
  refine G_get (i := 261) (ci := 13) (k := 30) (v := .int 0) rfl rfl g13_1826 rfl ?_
  show am_G at_P at_cl at_ty _ mt_161 4 [(0, .ref 1826)] [.int 0] _ _
  refine G_ps 1 (pc' := 5) (l' := [(0, .ref 1826)]) (st' := [.ref 1826, .int 0]) rfl ?_
  refine G_get (i := 264) (ci := 13) (k := 29) (v := .int 0) rfl rfl g13_1826 rfl ?_
  show am_G at_P at_cl at_ty _ mt_161 8 [(0, .ref 1826)] [.int 0, .int 0] _ _
  refine G_ps 2 (pc' := 28) (l' := [(0, .ref 1826)]) (st' := [.int (-1)]) rfl ?_
  refine G_ret rfl rfl rfl ?_
  show am_G at_P at_cl at_ty _ mt_165 4 [(0, .ref 1826)] [.int (-1)] _ _
  refine G_ps 3 (pc' := 10) (l' := [(0, .ref 1826)]) (st' := [.ref 1826]) rfl ?_
  refine G_cv (i := 267) (j := 161) (b := 1826) (M' := mt_161) (xs := []) (rest := []) rfl rfl rfl rfl g13_1826 (Nat.le_of_ble_eq_true rfl) (Nat.le_of_ble_eq_true rfl) ?_ (fun _ _ _ _ h9 => h9)
  show am_G at_P at_cl at_ty _ mt_161 0 [(0, .ref 1826)] [] _ _
  refine G_ps 1 (pc' := 1) (l' := [(0, .ref 1826)]) (st' := [.ref 1826]) rfl ?_
  refine G_get (i := 261) (ci := 13) (k := 30) (v := .int 0) rfl rfl g13_1826 rfl ?_
  show am_G at_P at_cl at_ty _ mt_161 4 [(0, .ref 1826)] [.int 0] _ _
  refine G_ps 1 (pc' := 5) (l' := [(0, .ref 1826)]) (st' := [.ref 1826, .int 0]) rfl ?_
  refine G_get (i := 264) (ci := 13) (k := 29) (v := .int 0) rfl rfl g13_1826 rfl ?_
  show am_G at_P at_cl at_ty _ mt_161 8 [(0, .ref 1826)] [.int 0, .int 0] _ _
  refine G_ps 2 (pc' := 28) (l' := [(0, .ref 1826)]) (st' := [.int (-1)]) rfl ?_
  refine G_ret rfl rfl rfl ?_
  show am_G at_P at_cl at_ty _ mt_165 13 [(0, .ref 1826)] [.int (-1)] _ _
  refine G_ps 4 (pc' := 33) (l' := [(0, .ref 1826)]) (st' := [.ref 1826, .ref 1826]) rfl ?_
  refine G_get (i := 261) (ci := 13) (k := 30) (v := .int 0) rfl rfl g13_1826 rfl ?_
  show am_G at_P at_cl at_ty _ mt_165 36 [(0, .ref 1826)] [.int 0, .ref 1826] _ _
  refine G_put (i := 251) (ci := 13) (k := 32) (v := .int 0) rfl rfl g13_1826 rfl rfl ?_
  obtain ⟨S14, eS14⟩ : ∃ T9 : am_S, T9 = am_set S13 1826 (115, some (.inr (13, [.int 0, .int 0, .ref 1827, .int 0, .ref 1828, .ref 1829, .ref 1830, .ref 1831, .int 0, .ref 1832, .ref 1833, .ref 1834, .ref 1835, .int 0, .ref 1836, .ref 1837, .ref 1838, .ref 1839, .ref 1840, .int 0, .ref 1841, .ref 1842, .ref 1843, .ref 1844, .ref 1845, .ref 1846, .ref 1847, .ref 1848, .int 0, .int 0, .int 0, .int 0, .int 0, .long 0, .int 0, .int 0, .int 0, .ref 1849, .ref 1850, .int 0, .int 0, .int 0, .ref 1851, .int 0, .int 0, .ref 1852, .ref 1853, .int 0, .ref 1854, .ref 1855, .int 0, .int 0, .ref 1856, .int 0, .ref 1857, .int 0, .int 0, .int 0, .ref 1858, .int 0, .ref 1859, .ref 1860, .ref 1861, .ref 1862, .ref 1863, .ref 1864, .ref 1865, .int (-1), .ref 1866, .ref 1867, .ref 1868, .ref 1869, .int 0, .ref 1870, .int (-1), .int 0, .int 0, .int 0, .ref 1871, .ref 1872, .ref 1873, .ref 1874, .ref 1875, .ref 1876, .ref 1877, .ref 1878, .ref 1879, .ref 1880, .ref 1881, .int 0, .ref 1882, .ref 1883, .ref 1884, .int 0, .ref 1885, .int 0, .ref 1886, .int (-1), .ref 1887, .int 0, .ref 1888, .int 0, .ref 1889, .ref 1890, .ref 1891, .ref 1892, .ref 1893, .ref 1894, .ref 1895, .ref 1896, .ref 1897, .ref 1898, .int 0, .int 0, .int 0]))) := ⟨_, rfl⟩
  show am_G at_P at_cl at_ty _ mt_165 39 [(0, .ref 1826)] [] (am_set S13 1826 (115, some (.inr (13, [.int 0, .int 0, .ref 1827, .int 0, .ref 1828, .ref 1829, .ref 1830, .ref 1831, .int 0, .ref 1832, .ref 1833, .ref 1834, .ref 1835, .int 0, .ref 1836, .ref 1837, .ref 1838, .ref 1839, .ref 1840, .int 0, .ref 1841, .ref 1842, .ref 1843, .ref 1844, .ref 1845, .ref 1846, .ref 1847, .ref 1848, .int 0, .int 0, .int 0, .int 0, .int 0, .long 0, .int 0, .int 0, .int 0, .ref 1849, .ref 1850, .int 0, .int 0, .int 0, .ref 1851, .int 0, .int 0, .ref 1852, .ref 1853, .int 0, .ref 1854, .ref 1855, .int 0, .int 0, .ref 1856, .int 0, .ref 1857, .int 0, .int 0, .int 0, .ref 1858, .int 0, .ref 1859, .ref 1860, .ref 1861, .ref 1862, .ref 1863, .ref 1864, .ref 1865, .int (-1), .ref 1866, .ref 1867, .ref 1868, .ref 1869, .int 0, .ref 1870, .int (-1), .int 0, .int 0, .int 0, .ref 1871, .ref 1872, .ref 1873, .ref 1874, .ref 1875, .ref 1876, .ref 1877, .ref 1878, .ref 1879, .ref 1880, .ref 1881, .int 0, .ref 1882, .ref 1883, .ref 1884, .int 0, .ref 1885, .int 0, .ref 1886, .int (-1), .ref 1887, .int 0, .ref 1888, .int 0, .ref 1889, .ref 1890, .ref 1891, .ref 1892, .ref 1893, .ref 1894, .ref 1895, .ref 1896, .ref 1897, .ref 1898, .int 0, .int 0, .int 0])))) _
  rw [← eS14]
  have hs14 : am_same [2, 4, 5, 6, 361, 407, 1826] S S14 := by rw [eS14]; exact am_same_set hs13 g13_1826 (by decide)
  have g14_1 : am_nth S14 1 = some (9, some (.inr (0, [.ref 2, .ref 7, .ref 361, .ref 363, .ref 366, .ref 372, .ref 406, .ref 1824, .int 0]))) := by rw [eS14]; exact am_nth_ne g13_1826 (by decide) g13_1
  have g14_2 : am_nth S14 2 = some (6, some (.inr (1, [.ref 3, .int 0, .ref 4, .ref 5, .ref 6, .int 1]))) := by rw [eS14]; exact am_nth_ne g13_1826 (by decide) g13_2
  have g14_4 : am_nth S14 4 = some (1001, some (.inl (.int, 1001, .int 0, [(0, .int 0)]))) := by rw [eS14]; exact am_nth_ne g13_1826 (by decide) g13_4
  have g14_5 : am_nth S14 5 = some (1001, some (.inl (.int, 1001, .int 0, [(0, .int 0)]))) := by rw [eS14]; exact am_nth_ne g13_1826 (by decide) g13_5
  have g14_6 : am_nth S14 6 = some (1001, some (.inl (.long, 1001, .long 0, [(0, .long 0)]))) := by rw [eS14]; exact am_nth_ne g13_1826 (by decide) g13_6
  have g14_7 : am_nth S14 7 = some (7, some (.inr (2, [.ref 8, .ref 13, .ref 18, .ref 23, .ref 24, .int 0, .int 0]))) := by rw [eS14]; exact am_nth_ne g13_1826 (by decide) g13_7
  have g14_8 : am_nth S14 8 = some (5, some (.inr (3, [.ref 9, .ref 10, .ref 11, .ref 12, .int 0]))) := by rw [eS14]; exact am_nth_ne g13_1826 (by decide) g13_8
  have g14_13 : am_nth S14 13 = some (5, some (.inr (3, [.ref 14, .ref 15, .ref 16, .ref 17, .int 0]))) := by rw [eS14]; exact am_nth_ne g13_1826 (by decide) g13_13
  have g14_18 : am_nth S14 18 = some (5, some (.inr (3, [.ref 19, .ref 20, .ref 21, .ref 22, .int 0]))) := by rw [eS14]; exact am_nth_ne g13_1826 (by decide) g13_18
  have g14_361 : am_nth S14 361 = some (10, some (.inr (6, [.ref 2, .ref 7, .ref 362, .int 0, .int 0, .int 0, .int 0, .ref 25, .ref 26, .int 0]))) := by rw [eS14]; exact am_nth_ne g13_1826 (by decide) g13_361
  have g14_406 : am_nth S14 406 = some (19, some (.inr (10, [.ref 7, .ref 366, .ref 407, .ref 878, .ref 1349, .ref 1350, .ref 1350, .ref 1350, .long 0, .long 0, .ref 409, .ref 1352, .ref 1354, .int 0, .int 0, .long 0, .int 0, .int 0, .int 0]))) := by rw [eS14]; exact am_nth_ne g13_1826 (by decide) g13_406
  have g14_407 : am_nth S14 407 = some (9, some (.inr (11, [.ref 408, .ref 409, .int 0, .int 0, .int 0, .int 0, .int 0, .long 0, .long 0]))) := by rw [eS14]; exact am_nth_ne g13_1826 (by decide) g13_407
  have g14_1826 : am_nth S14 1826 = some (115, some (.inr (13, [.int 0, .int 0, .ref 1827, .int 0, .ref 1828, .ref 1829, .ref 1830, .ref 1831, .int 0, .ref 1832, .ref 1833, .ref 1834, .ref 1835, .int 0, .ref 1836, .ref 1837, .ref 1838, .ref 1839, .ref 1840, .int 0, .ref 1841, .ref 1842, .ref 1843, .ref 1844, .ref 1845, .ref 1846, .ref 1847, .ref 1848, .int 0, .int 0, .int 0, .int 0, .int 0, .long 0, .int 0, .int 0, .int 0, .ref 1849, .ref 1850, .int 0, .int 0, .int 0, .ref 1851, .int 0, .int 0, .ref 1852, .ref 1853, .int 0, .ref 1854, .ref 1855, .int 0, .int 0, .ref 1856, .int 0, .ref 1857, .int 0, .int 0, .int 0, .ref 1858, .int 0, .ref 1859, .ref 1860, .ref 1861, .ref 1862, .ref 1863, .ref 1864, .ref 1865, .int (-1), .ref 1866, .ref 1867, .ref 1868, .ref 1869, .int 0, .ref 1870, .int (-1), .int 0, .int 0, .int 0, .ref 1871, .ref 1872, .ref 1873, .ref 1874, .ref 1875, .ref 1876, .ref 1877, .ref 1878, .ref 1879, .ref 1880, .ref 1881, .int 0, .ref 1882, .ref 1883, .ref 1884, .int 0, .ref 1885, .int 0, .ref 1886, .int (-1), .ref 1887, .int 0, .ref 1888, .int 0, .ref 1889, .ref 1890, .ref 1891, .ref 1892, .ref 1893, .ref 1894, .ref 1895, .ref 1896, .ref 1897, .ref 1898, .int 0, .int 0, .int 0]))) := by rw [eS14]; exact am_nth_self g13_1826
  have g14_0 : am_nth S14 0 = some (6, some (.inl (.int, 6, .int 0, [(0, .int y0), (1, .int y1), (2, .int y2), (3, .int y3), (4, .int y4), (5, .int y5)]))) := by rw [eS14]; exact g13_0
  refine G_ps 1 (pc' := 40) (l' := [(0, .ref 1826)]) (st' := [.ref 1826]) rfl ?_
  refine G_cv (i := 267) (j := 161) (b := 1826) (M' := mt_161) (xs := []) (rest := []) rfl rfl rfl rfl g14_1826 (Nat.le_of_ble_eq_true rfl) (Nat.le_of_ble_eq_true rfl) ?_ (fun _ _ _ _ h9 => h9)
  show am_G at_P at_cl at_ty _ mt_161 0 [(0, .ref 1826)] [] _ _
  refine G_ps 1 (pc' := 1) (l' := [(0, .ref 1826)]) (st' := [.ref 1826]) rfl ?_
  refine G_get (i := 261) (ci := 13) (k := 30) (v := .int 0) rfl rfl g14_1826 rfl ?_
  show am_G at_P at_cl at_ty _ mt_161 4 [(0, .ref 1826)] [.int 0] _ _
  refine G_ps 1 (pc' := 5) (l' := [(0, .ref 1826)]) (st' := [.ref 1826, .int 0]) rfl ?_
  refine G_get (i := 264) (ci := 13) (k := 29) (v := .int 0) rfl rfl g14_1826 rfl ?_
  show am_G at_P at_cl at_ty _ mt_161 8 [(0, .ref 1826)] [.int 0, .int 0] _ _
  refine G_ps 2 (pc' := 28) (l' := [(0, .ref 1826)]) (st' := [.int (-1)]) rfl ?_
  refine G_ret rfl rfl rfl ?_
  show am_G at_P at_cl at_ty _ mt_165 43 [(0, .ref 1826)] [.int (-1)] _ _
  refine G_ps 6 (pc' := 51) (l' := [(1, .int (-1)), (0, .ref 1826)]) (st' := [.int 0, .ref 1826]) rfl ?_
  refine G_put (i := 271) (ci := 13) (k := 31) (v := .int 0) rfl rfl g14_1826 rfl rfl ?_
  obtain ⟨S15, eS15⟩ : ∃ T9 : am_S, T9 = am_set S14 1826 (115, some (.inr (13, [.int 0, .int 0, .ref 1827, .int 0, .ref 1828, .ref 1829, .ref 1830, .ref 1831, .int 0, .ref 1832, .ref 1833, .ref 1834, .ref 1835, .int 0, .ref 1836, .ref 1837, .ref 1838, .ref 1839, .ref 1840, .int 0, .ref 1841, .ref 1842, .ref 1843, .ref 1844, .ref 1845, .ref 1846, .ref 1847, .ref 1848, .int 0, .int 0, .int 0, .int 0, .int 0, .long 0, .int 0, .int 0, .int 0, .ref 1849, .ref 1850, .int 0, .int 0, .int 0, .ref 1851, .int 0, .int 0, .ref 1852, .ref 1853, .int 0, .ref 1854, .ref 1855, .int 0, .int 0, .ref 1856, .int 0, .ref 1857, .int 0, .int 0, .int 0, .ref 1858, .int 0, .ref 1859, .ref 1860, .ref 1861, .ref 1862, .ref 1863, .ref 1864, .ref 1865, .int (-1), .ref 1866, .ref 1867, .ref 1868, .ref 1869, .int 0, .ref 1870, .int (-1), .int 0, .int 0, .int 0, .ref 1871, .ref 1872, .ref 1873, .ref 1874, .ref 1875, .ref 1876, .ref 1877, .ref 1878, .ref 1879, .ref 1880, .ref 1881, .int 0, .ref 1882, .ref 1883, .ref 1884, .int 0, .ref 1885, .int 0, .ref 1886, .int (-1), .ref 1887, .int 0, .ref 1888, .int 0, .ref 1889, .ref 1890, .ref 1891, .ref 1892, .ref 1893, .ref 1894, .ref 1895, .ref 1896, .ref 1897, .ref 1898, .int 0, .int 0, .int 0]))) := ⟨_, rfl⟩
  show am_G at_P at_cl at_ty _ mt_165 54 [(1, .int (-1)), (0, .ref 1826)] [] (am_set S14 1826 (115, some (.inr (13, [.int 0, .int 0, .ref 1827, .int 0, .ref 1828, .ref 1829, .ref 1830, .ref 1831, .int 0, .ref 1832, .ref 1833, .ref 1834, .ref 1835, .int 0, .ref 1836, .ref 1837, .ref 1838, .ref 1839, .ref 1840, .int 0, .ref 1841, .ref 1842, .ref 1843, .ref 1844, .ref 1845, .ref 1846, .ref 1847, .ref 1848, .int 0, .int 0, .int 0, .int 0, .int 0, .long 0, .int 0, .int 0, .int 0, .ref 1849, .ref 1850, .int 0, .int 0, .int 0, .ref 1851, .int 0, .int 0, .ref 1852, .ref 1853, .int 0, .ref 1854, .ref 1855, .int 0, .int 0, .ref 1856, .int 0, .ref 1857, .int 0, .int 0, .int 0, .ref 1858, .int 0, .ref 1859, .ref 1860, .ref 1861, .ref 1862, .ref 1863, .ref 1864, .ref 1865, .int (-1), .ref 1866, .ref 1867, .ref 1868, .ref 1869, .int 0, .ref 1870, .int (-1), .int 0, .int 0, .int 0, .ref 1871, .ref 1872, .ref 1873, .ref 1874, .ref 1875, .ref 1876, .ref 1877, .ref 1878, .ref 1879, .ref 1880, .ref 1881, .int 0, .ref 1882, .ref 1883, .ref 1884, .int 0, .ref 1885, .int 0, .ref 1886, .int (-1), .ref 1887, .int 0, .ref 1888, .int 0, .ref 1889, .ref 1890, .ref 1891, .ref 1892, .ref 1893, .ref 1894, .ref 1895, .ref 1896, .ref 1897, .ref 1898, .int 0, .int 0, .int 0])))) _
  rw [← eS15]
  have hs15 : am_same [2, 4, 5, 6, 361, 407, 1826] S S15 := by rw [eS15]; exact am_same_set hs14 g14_1826 (by decide)
  have g15_1 : am_nth S15 1 = some (9, some (.inr (0, [.ref 2, .ref 7, .ref 361, .ref 363, .ref 366, .ref 372, .ref 406, .ref 1824, .int 0]))) := by rw [eS15]; exact am_nth_ne g14_1826 (by decide) g14_1
  have g15_2 : am_nth S15 2 = some (6, some (.inr (1, [.ref 3, .int 0, .ref 4, .ref 5, .ref 6, .int 1]))) := by rw [eS15]; exact am_nth_ne g14_1826 (by decide) g14_2
  have g15_4 : am_nth S15 4 = some (1001, some (.inl (.int, 1001, .int 0, [(0, .int 0)]))) := by rw [eS15]; exact am_nth_ne g14_1826 (by decide) g14_4
  have g15_5 : am_nth S15 5 = some (1001, some (.inl (.int, 1001, .int 0, [(0, .int 0)]))) := by rw [eS15]; exact am_nth_ne g14_1826 (by decide) g14_5
  have g15_6 : am_nth S15 6 = some (1001, some (.inl (.long, 1001, .long 0, [(0, .long 0)]))) := by rw [eS15]; exact am_nth_ne g14_1826 (by decide) g14_6
  have g15_7 : am_nth S15 7 = some (7, some (.inr (2, [.ref 8, .ref 13, .ref 18, .ref 23, .ref 24, .int 0, .int 0]))) := by rw [eS15]; exact am_nth_ne g14_1826 (by decide) g14_7
  have g15_8 : am_nth S15 8 = some (5, some (.inr (3, [.ref 9, .ref 10, .ref 11, .ref 12, .int 0]))) := by rw [eS15]; exact am_nth_ne g14_1826 (by decide) g14_8
  have g15_13 : am_nth S15 13 = some (5, some (.inr (3, [.ref 14, .ref 15, .ref 16, .ref 17, .int 0]))) := by rw [eS15]; exact am_nth_ne g14_1826 (by decide) g14_13
  have g15_18 : am_nth S15 18 = some (5, some (.inr (3, [.ref 19, .ref 20, .ref 21, .ref 22, .int 0]))) := by rw [eS15]; exact am_nth_ne g14_1826 (by decide) g14_18
  have g15_361 : am_nth S15 361 = some (10, some (.inr (6, [.ref 2, .ref 7, .ref 362, .int 0, .int 0, .int 0, .int 0, .ref 25, .ref 26, .int 0]))) := by rw [eS15]; exact am_nth_ne g14_1826 (by decide) g14_361
  have g15_406 : am_nth S15 406 = some (19, some (.inr (10, [.ref 7, .ref 366, .ref 407, .ref 878, .ref 1349, .ref 1350, .ref 1350, .ref 1350, .long 0, .long 0, .ref 409, .ref 1352, .ref 1354, .int 0, .int 0, .long 0, .int 0, .int 0, .int 0]))) := by rw [eS15]; exact am_nth_ne g14_1826 (by decide) g14_406
  have g15_407 : am_nth S15 407 = some (9, some (.inr (11, [.ref 408, .ref 409, .int 0, .int 0, .int 0, .int 0, .int 0, .long 0, .long 0]))) := by rw [eS15]; exact am_nth_ne g14_1826 (by decide) g14_407
  have g15_1826 : am_nth S15 1826 = some (115, some (.inr (13, [.int 0, .int 0, .ref 1827, .int 0, .ref 1828, .ref 1829, .ref 1830, .ref 1831, .int 0, .ref 1832, .ref 1833, .ref 1834, .ref 1835, .int 0, .ref 1836, .ref 1837, .ref 1838, .ref 1839, .ref 1840, .int 0, .ref 1841, .ref 1842, .ref 1843, .ref 1844, .ref 1845, .ref 1846, .ref 1847, .ref 1848, .int 0, .int 0, .int 0, .int 0, .int 0, .long 0, .int 0, .int 0, .int 0, .ref 1849, .ref 1850, .int 0, .int 0, .int 0, .ref 1851, .int 0, .int 0, .ref 1852, .ref 1853, .int 0, .ref 1854, .ref 1855, .int 0, .int 0, .ref 1856, .int 0, .ref 1857, .int 0, .int 0, .int 0, .ref 1858, .int 0, .ref 1859, .ref 1860, .ref 1861, .ref 1862, .ref 1863, .ref 1864, .ref 1865, .int (-1), .ref 1866, .ref 1867, .ref 1868, .ref 1869, .int 0, .ref 1870, .int (-1), .int 0, .int 0, .int 0, .ref 1871, .ref 1872, .ref 1873, .ref 1874, .ref 1875, .ref 1876, .ref 1877, .ref 1878, .ref 1879, .ref 1880, .ref 1881, .int 0, .ref 1882, .ref 1883, .ref 1884, .int 0, .ref 1885, .int 0, .ref 1886, .int (-1), .ref 1887, .int 0, .ref 1888, .int 0, .ref 1889, .ref 1890, .ref 1891, .ref 1892, .ref 1893, .ref 1894, .ref 1895, .ref 1896, .ref 1897, .ref 1898, .int 0, .int 0, .int 0]))) := by rw [eS15]; exact am_nth_self g14_1826
  have g15_0 : am_nth S15 0 = some (6, some (.inl (.int, 6, .int 0, [(0, .int y0), (1, .int y1), (2, .int y2), (3, .int y3), (4, .int y4), (5, .int y5)]))) := by rw [eS15]; exact g14_0
  refine G_ret rfl rfl rfl ?_
  show am_G at_P at_cl at_ty _ mt_191 27 [(0, .ref 1826)] [] _ _
  refine G_ret rfl rfl rfl ?_
  show am_G at_P at_cl at_ty _ mt_192 34 [(6, .int 0), (5, .int 0), (4, .int 0), (3, .int 0), (2, .int 0), (1, .int 0), (0, .ref 1826)] [] _ _
  refine G_ps 1 (pc' := 35) (l' := [(6, .int 0), (5, .int 0), (4, .int 0), (3, .int 0), (2, .int 0), (1, .int 0), (0, .ref 1826)]) (st' := [.ref 1826]) rfl ?_
  refine G_cv (i := 293) (j := 158) (b := 1826) (M' := mt_158) (xs := []) (rest := []) rfl rfl rfl rfl g15_1826 (Nat.le_of_ble_eq_true rfl) (Nat.le_of_ble_eq_true rfl) ?_ (fun _ _ _ _ h9 => h9)
  show am_G at_P at_cl at_ty _ mt_158 0 [(0, .ref 1826)] [] _ _
  refine G_ps 1 (pc' := 1) (l' := [(0, .ref 1826)]) (st' := [.ref 1826]) rfl ?_
  refine G_get (i := 248) (ci := 13) (k := 35) (v := .int 0) rfl rfl g15_1826 rfl ?_
  show am_G at_P at_cl at_ty _ mt_158 4 [(0, .ref 1826)] [.int 0] _ _
  refine G_ps 3 (pc' := 12) (l' := [(0, .ref 1826)]) (st' := [.int 1]) rfl ?_
  refine G_ret rfl rfl rfl ?_
  show am_G at_P at_cl at_ty _ mt_192 38 [(6, .int 0), (5, .int 0), (4, .int 0), (3, .int 0), (2, .int 0), (1, .int 0), (0, .ref 1826)] [.int 1] _ _
  refine G_ps 2 (pc' := 42) (l' := [(6, .int 0), (5, .int 0), (4, .int 0), (3, .int 0), (2, .int 0), (1, .int 0), (0, .ref 1826)]) (st' := [.ref 1826]) rfl ?_
  refine G_get (i := 271) (ci := 13) (k := 31) (v := .int 0) rfl rfl g15_1826 rfl ?_
  show am_G at_P at_cl at_ty _ mt_192 45 [(6, .int 0), (5, .int 0), (4, .int 0), (3, .int 0), (2, .int 0), (1, .int 0), (0, .ref 1826)] [.int 0] _ _
  refine G_ps 2 (pc' := 153) (l' := [(6, .int 0), (5, .int 0), (4, .int 0), (3, .int 0), (2, .int 0), (1, .int 0), (0, .ref 1826)]) (st' := [.ref 1826]) rfl ?_
  refine G_cv (i := 293) (j := 158) (b := 1826) (M' := mt_158) (xs := []) (rest := []) rfl rfl rfl rfl g15_1826 (Nat.le_of_ble_eq_true rfl) (Nat.le_of_ble_eq_true rfl) ?_ (fun _ _ _ _ h9 => h9)
  show am_G at_P at_cl at_ty _ mt_158 0 [(0, .ref 1826)] [] _ _
  refine G_ps 1 (pc' := 1) (l' := [(0, .ref 1826)]) (st' := [.ref 1826]) rfl ?_
  refine G_get (i := 248) (ci := 13) (k := 35) (v := .int 0) rfl rfl g15_1826 rfl ?_
  show am_G at_P at_cl at_ty _ mt_158 4 [(0, .ref 1826)] [.int 0] _ _
  refine G_ps 3 (pc' := 12) (l' := [(0, .ref 1826)]) (st' := [.int 1]) rfl ?_
  refine G_ret rfl rfl rfl ?_
  show am_G at_P at_cl at_ty _ mt_192 156 [(6, .int 0), (5, .int 0), (4, .int 0), (3, .int 0), (2, .int 0), (1, .int 0), (0, .ref 1826)] [.int 1] _ _
  refine G_ps 5 (pc' := 209) (l' := [(7, .int 0), (6, .int 0), (5, .int 0), (4, .int 0), (3, .int 0), (2, .int 0), (1, .int 0), (0, .ref 1826)]) (st' := [.ref 1826, .int 0]) rfl ?_
  refine G_get (i := 387) (ci := 13) (k := 19) (v := .int 0) rfl rfl g15_1826 rfl ?_
  show am_G at_P at_cl at_ty _ mt_192 212 [(7, .int 0), (6, .int 0), (5, .int 0), (4, .int 0), (3, .int 0), (2, .int 0), (1, .int 0), (0, .ref 1826)] [.int 0, .int 0] _ _
  refine G_ps 3 (pc' := 240) (l' := [(7, .int 0), (6, .int 0), (5, .int 0), (4, .int 0), (3, .int 0), (2, .int 0), (1, .int 0), (0, .ref 1826)]) (st' := [.int (-1), .ref 1826]) rfl ?_
  refine G_put (i := 150) (ci := 13) (k := 74) (v := .int (-1)) rfl rfl g15_1826 rfl rfl ?_
  obtain ⟨S16, eS16⟩ : ∃ T9 : am_S, T9 = am_set S15 1826 (115, some (.inr (13, [.int 0, .int 0, .ref 1827, .int 0, .ref 1828, .ref 1829, .ref 1830, .ref 1831, .int 0, .ref 1832, .ref 1833, .ref 1834, .ref 1835, .int 0, .ref 1836, .ref 1837, .ref 1838, .ref 1839, .ref 1840, .int 0, .ref 1841, .ref 1842, .ref 1843, .ref 1844, .ref 1845, .ref 1846, .ref 1847, .ref 1848, .int 0, .int 0, .int 0, .int 0, .int 0, .long 0, .int 0, .int 0, .int 0, .ref 1849, .ref 1850, .int 0, .int 0, .int 0, .ref 1851, .int 0, .int 0, .ref 1852, .ref 1853, .int 0, .ref 1854, .ref 1855, .int 0, .int 0, .ref 1856, .int 0, .ref 1857, .int 0, .int 0, .int 0, .ref 1858, .int 0, .ref 1859, .ref 1860, .ref 1861, .ref 1862, .ref 1863, .ref 1864, .ref 1865, .int (-1), .ref 1866, .ref 1867, .ref 1868, .ref 1869, .int 0, .ref 1870, .int (-1), .int 0, .int 0, .int 0, .ref 1871, .ref 1872, .ref 1873, .ref 1874, .ref 1875, .ref 1876, .ref 1877, .ref 1878, .ref 1879, .ref 1880, .ref 1881, .int 0, .ref 1882, .ref 1883, .ref 1884, .int 0, .ref 1885, .int 0, .ref 1886, .int (-1), .ref 1887, .int 0, .ref 1888, .int 0, .ref 1889, .ref 1890, .ref 1891, .ref 1892, .ref 1893, .ref 1894, .ref 1895, .ref 1896, .ref 1897, .ref 1898, .int 0, .int 0, .int 0]))) := ⟨_, rfl⟩
  show am_G at_P at_cl at_ty _ mt_192 243 [(7, .int 0), (6, .int 0), (5, .int 0), (4, .int 0), (3, .int 0), (2, .int 0), (1, .int 0), (0, .ref 1826)] [] (am_set S15 1826 (115, some (.inr (13, [.int 0, .int 0, .ref 1827, .int 0, .ref 1828, .ref 1829, .ref 1830, .ref 1831, .int 0, .ref 1832, .ref 1833, .ref 1834, .ref 1835, .int 0, .ref 1836, .ref 1837, .ref 1838, .ref 1839, .ref 1840, .int 0, .ref 1841, .ref 1842, .ref 1843, .ref 1844, .ref 1845, .ref 1846, .ref 1847, .ref 1848, .int 0, .int 0, .int 0, .int 0, .int 0, .long 0, .int 0, .int 0, .int 0, .ref 1849, .ref 1850, .int 0, .int 0, .int 0, .ref 1851, .int 0, .int 0, .ref 1852, .ref 1853, .int 0, .ref 1854, .ref 1855, .int 0, .int 0, .ref 1856, .int 0, .ref 1857, .int 0, .int 0, .int 0, .ref 1858, .int 0, .ref 1859, .ref 1860, .ref 1861, .ref 1862, .ref 1863, .ref 1864, .ref 1865, .int (-1), .ref 1866, .ref 1867, .ref 1868, .ref 1869, .int 0, .ref 1870, .int (-1), .int 0, .int 0, .int 0, .ref 1871, .ref 1872, .ref 1873, .ref 1874, .ref 1875, .ref 1876, .ref 1877, .ref 1878, .ref 1879, .ref 1880, .ref 1881, .int 0, .ref 1882, .ref 1883, .ref 1884, .int 0, .ref 1885, .int 0, .ref 1886, .int (-1), .ref 1887, .int 0, .ref 1888, .int 0, .ref 1889, .ref 1890, .ref 1891, .ref 1892, .ref 1893, .ref 1894, .ref 1895, .ref 1896, .ref 1897, .ref 1898, .int 0, .int 0, .int 0])))) _
  rw [← eS16]
  have hs16 : am_same [2, 4, 5, 6, 361, 407, 1826] S S16 := by rw [eS16]; exact am_same_set hs15 g15_1826 (by decide)
  have g16_1 : am_nth S16 1 = some (9, some (.inr (0, [.ref 2, .ref 7, .ref 361, .ref 363, .ref 366, .ref 372, .ref 406, .ref 1824, .int 0]))) := by rw [eS16]; exact am_nth_ne g15_1826 (by decide) g15_1
  have g16_2 : am_nth S16 2 = some (6, some (.inr (1, [.ref 3, .int 0, .ref 4, .ref 5, .ref 6, .int 1]))) := by rw [eS16]; exact am_nth_ne g15_1826 (by decide) g15_2
  have g16_4 : am_nth S16 4 = some (1001, some (.inl (.int, 1001, .int 0, [(0, .int 0)]))) := by rw [eS16]; exact am_nth_ne g15_1826 (by decide) g15_4
  have g16_5 : am_nth S16 5 = some (1001, some (.inl (.int, 1001, .int 0, [(0, .int 0)]))) := by rw [eS16]; exact am_nth_ne g15_1826 (by decide) g15_5
  have g16_6 : am_nth S16 6 = some (1001, some (.inl (.long, 1001, .long 0, [(0, .long 0)]))) := by rw [eS16]; exact am_nth_ne g15_1826 (by decide) g15_6
  have g16_7 : am_nth S16 7 = some (7, some (.inr (2, [.ref 8, .ref 13, .ref 18, .ref 23, .ref 24, .int 0, .int 0]))) := by rw [eS16]; exact am_nth_ne g15_1826 (by decide) g15_7
  have g16_8 : am_nth S16 8 = some (5, some (.inr (3, [.ref 9, .ref 10, .ref 11, .ref 12, .int 0]))) := by rw [eS16]; exact am_nth_ne g15_1826 (by decide) g15_8
  have g16_13 : am_nth S16 13 = some (5, some (.inr (3, [.ref 14, .ref 15, .ref 16, .ref 17, .int 0]))) := by rw [eS16]; exact am_nth_ne g15_1826 (by decide) g15_13
  have g16_18 : am_nth S16 18 = some (5, some (.inr (3, [.ref 19, .ref 20, .ref 21, .ref 22, .int 0]))) := by rw [eS16]; exact am_nth_ne g15_1826 (by decide) g15_18
  have g16_361 : am_nth S16 361 = some (10, some (.inr (6, [.ref 2, .ref 7, .ref 362, .int 0, .int 0, .int 0, .int 0, .ref 25, .ref 26, .int 0]))) := by rw [eS16]; exact am_nth_ne g15_1826 (by decide) g15_361
  have g16_406 : am_nth S16 406 = some (19, some (.inr (10, [.ref 7, .ref 366, .ref 407, .ref 878, .ref 1349, .ref 1350, .ref 1350, .ref 1350, .long 0, .long 0, .ref 409, .ref 1352, .ref 1354, .int 0, .int 0, .long 0, .int 0, .int 0, .int 0]))) := by rw [eS16]; exact am_nth_ne g15_1826 (by decide) g15_406
  have g16_407 : am_nth S16 407 = some (9, some (.inr (11, [.ref 408, .ref 409, .int 0, .int 0, .int 0, .int 0, .int 0, .long 0, .long 0]))) := by rw [eS16]; exact am_nth_ne g15_1826 (by decide) g15_407
  have g16_1826 : am_nth S16 1826 = some (115, some (.inr (13, [.int 0, .int 0, .ref 1827, .int 0, .ref 1828, .ref 1829, .ref 1830, .ref 1831, .int 0, .ref 1832, .ref 1833, .ref 1834, .ref 1835, .int 0, .ref 1836, .ref 1837, .ref 1838, .ref 1839, .ref 1840, .int 0, .ref 1841, .ref 1842, .ref 1843, .ref 1844, .ref 1845, .ref 1846, .ref 1847, .ref 1848, .int 0, .int 0, .int 0, .int 0, .int 0, .long 0, .int 0, .int 0, .int 0, .ref 1849, .ref 1850, .int 0, .int 0, .int 0, .ref 1851, .int 0, .int 0, .ref 1852, .ref 1853, .int 0, .ref 1854, .ref 1855, .int 0, .int 0, .ref 1856, .int 0, .ref 1857, .int 0, .int 0, .int 0, .ref 1858, .int 0, .ref 1859, .ref 1860, .ref 1861, .ref 1862, .ref 1863, .ref 1864, .ref 1865, .int (-1), .ref 1866, .ref 1867, .ref 1868, .ref 1869, .int 0, .ref 1870, .int (-1), .int 0, .int 0, .int 0, .ref 1871, .ref 1872, .ref 1873, .ref 1874, .ref 1875, .ref 1876, .ref 1877, .ref 1878, .ref 1879, .ref 1880, .ref 1881, .int 0, .ref 1882, .ref 1883, .ref 1884, .int 0, .ref 1885, .int 0, .ref 1886, .int (-1), .ref 1887, .int 0, .ref 1888, .int 0, .ref 1889, .ref 1890, .ref 1891, .ref 1892, .ref 1893, .ref 1894, .ref 1895, .ref 1896, .ref 1897, .ref 1898, .int 0, .int 0, .int 0]))) := by rw [eS16]; exact am_nth_self g15_1826
  have g16_0 : am_nth S16 0 = some (6, some (.inl (.int, 6, .int 0, [(0, .int y0), (1, .int y1), (2, .int y2), (3, .int y3), (4, .int y4), (5, .int y5)]))) := by rw [eS16]; exact g15_0
  refine G_ps 2 (pc' := 245) (l' := [(7, .int 0), (6, .int 0), (5, .int 0), (4, .int 0), (3, .int 0), (2, .int 0), (1, .int 0), (0, .ref 1826)]) (st' := [.int 0, .ref 1826]) rfl ?_
  refine G_put (i := 414) (ci := 13) (k := 77) (v := .int 0) rfl rfl g16_1826 rfl rfl ?_
  obtain ⟨S17, eS17⟩ : ∃ T9 : am_S, T9 = am_set S16 1826 (115, some (.inr (13, [.int 0, .int 0, .ref 1827, .int 0, .ref 1828, .ref 1829, .ref 1830, .ref 1831, .int 0, .ref 1832, .ref 1833, .ref 1834, .ref 1835, .int 0, .ref 1836, .ref 1837, .ref 1838, .ref 1839, .ref 1840, .int 0, .ref 1841, .ref 1842, .ref 1843, .ref 1844, .ref 1845, .ref 1846, .ref 1847, .ref 1848, .int 0, .int 0, .int 0, .int 0, .int 0, .long 0, .int 0, .int 0, .int 0, .ref 1849, .ref 1850, .int 0, .int 0, .int 0, .ref 1851, .int 0, .int 0, .ref 1852, .ref 1853, .int 0, .ref 1854, .ref 1855, .int 0, .int 0, .ref 1856, .int 0, .ref 1857, .int 0, .int 0, .int 0, .ref 1858, .int 0, .ref 1859, .ref 1860, .ref 1861, .ref 1862, .ref 1863, .ref 1864, .ref 1865, .int (-1), .ref 1866, .ref 1867, .ref 1868, .ref 1869, .int 0, .ref 1870, .int (-1), .int 0, .int 0, .int 0, .ref 1871, .ref 1872, .ref 1873, .ref 1874, .ref 1875, .ref 1876, .ref 1877, .ref 1878, .ref 1879, .ref 1880, .ref 1881, .int 0, .ref 1882, .ref 1883, .ref 1884, .int 0, .ref 1885, .int 0, .ref 1886, .int (-1), .ref 1887, .int 0, .ref 1888, .int 0, .ref 1889, .ref 1890, .ref 1891, .ref 1892, .ref 1893, .ref 1894, .ref 1895, .ref 1896, .ref 1897, .ref 1898, .int 0, .int 0, .int 0]))) := ⟨_, rfl⟩
  show am_G at_P at_cl at_ty _ mt_192 248 [(7, .int 0), (6, .int 0), (5, .int 0), (4, .int 0), (3, .int 0), (2, .int 0), (1, .int 0), (0, .ref 1826)] [] (am_set S16 1826 (115, some (.inr (13, [.int 0, .int 0, .ref 1827, .int 0, .ref 1828, .ref 1829, .ref 1830, .ref 1831, .int 0, .ref 1832, .ref 1833, .ref 1834, .ref 1835, .int 0, .ref 1836, .ref 1837, .ref 1838, .ref 1839, .ref 1840, .int 0, .ref 1841, .ref 1842, .ref 1843, .ref 1844, .ref 1845, .ref 1846, .ref 1847, .ref 1848, .int 0, .int 0, .int 0, .int 0, .int 0, .long 0, .int 0, .int 0, .int 0, .ref 1849, .ref 1850, .int 0, .int 0, .int 0, .ref 1851, .int 0, .int 0, .ref 1852, .ref 1853, .int 0, .ref 1854, .ref 1855, .int 0, .int 0, .ref 1856, .int 0, .ref 1857, .int 0, .int 0, .int 0, .ref 1858, .int 0, .ref 1859, .ref 1860, .ref 1861, .ref 1862, .ref 1863, .ref 1864, .ref 1865, .int (-1), .ref 1866, .ref 1867, .ref 1868, .ref 1869, .int 0, .ref 1870, .int (-1), .int 0, .int 0, .int 0, .ref 1871, .ref 1872, .ref 1873, .ref 1874, .ref 1875, .ref 1876, .ref 1877, .ref 1878, .ref 1879, .ref 1880, .ref 1881, .int 0, .ref 1882, .ref 1883, .ref 1884, .int 0, .ref 1885, .int 0, .ref 1886, .int (-1), .ref 1887, .int 0, .ref 1888, .int 0, .ref 1889, .ref 1890, .ref 1891, .ref 1892, .ref 1893, .ref 1894, .ref 1895, .ref 1896, .ref 1897, .ref 1898, .int 0, .int 0, .int 0])))) _
  rw [← eS17]
  have hs17 : am_same [2, 4, 5, 6, 361, 407, 1826] S S17 := by rw [eS17]; exact am_same_set hs16 g16_1826 (by decide)
  have g17_1 : am_nth S17 1 = some (9, some (.inr (0, [.ref 2, .ref 7, .ref 361, .ref 363, .ref 366, .ref 372, .ref 406, .ref 1824, .int 0]))) := by rw [eS17]; exact am_nth_ne g16_1826 (by decide) g16_1
  have g17_2 : am_nth S17 2 = some (6, some (.inr (1, [.ref 3, .int 0, .ref 4, .ref 5, .ref 6, .int 1]))) := by rw [eS17]; exact am_nth_ne g16_1826 (by decide) g16_2
  have g17_4 : am_nth S17 4 = some (1001, some (.inl (.int, 1001, .int 0, [(0, .int 0)]))) := by rw [eS17]; exact am_nth_ne g16_1826 (by decide) g16_4
  have g17_5 : am_nth S17 5 = some (1001, some (.inl (.int, 1001, .int 0, [(0, .int 0)]))) := by rw [eS17]; exact am_nth_ne g16_1826 (by decide) g16_5
  have g17_6 : am_nth S17 6 = some (1001, some (.inl (.long, 1001, .long 0, [(0, .long 0)]))) := by rw [eS17]; exact am_nth_ne g16_1826 (by decide) g16_6
  have g17_7 : am_nth S17 7 = some (7, some (.inr (2, [.ref 8, .ref 13, .ref 18, .ref 23, .ref 24, .int 0, .int 0]))) := by rw [eS17]; exact am_nth_ne g16_1826 (by decide) g16_7
  have g17_8 : am_nth S17 8 = some (5, some (.inr (3, [.ref 9, .ref 10, .ref 11, .ref 12, .int 0]))) := by rw [eS17]; exact am_nth_ne g16_1826 (by decide) g16_8
  have g17_13 : am_nth S17 13 = some (5, some (.inr (3, [.ref 14, .ref 15, .ref 16, .ref 17, .int 0]))) := by rw [eS17]; exact am_nth_ne g16_1826 (by decide) g16_13
  have g17_18 : am_nth S17 18 = some (5, some (.inr (3, [.ref 19, .ref 20, .ref 21, .ref 22, .int 0]))) := by rw [eS17]; exact am_nth_ne g16_1826 (by decide) g16_18
  have g17_361 : am_nth S17 361 = some (10, some (.inr (6, [.ref 2, .ref 7, .ref 362, .int 0, .int 0, .int 0, .int 0, .ref 25, .ref 26, .int 0]))) := by rw [eS17]; exact am_nth_ne g16_1826 (by decide) g16_361
  have g17_406 : am_nth S17 406 = some (19, some (.inr (10, [.ref 7, .ref 366, .ref 407, .ref 878, .ref 1349, .ref 1350, .ref 1350, .ref 1350, .long 0, .long 0, .ref 409, .ref 1352, .ref 1354, .int 0, .int 0, .long 0, .int 0, .int 0, .int 0]))) := by rw [eS17]; exact am_nth_ne g16_1826 (by decide) g16_406
  have g17_407 : am_nth S17 407 = some (9, some (.inr (11, [.ref 408, .ref 409, .int 0, .int 0, .int 0, .int 0, .int 0, .long 0, .long 0]))) := by rw [eS17]; exact am_nth_ne g16_1826 (by decide) g16_407
  have g17_1826 : am_nth S17 1826 = some (115, some (.inr (13, [.int 0, .int 0, .ref 1827, .int 0, .ref 1828, .ref 1829, .ref 1830, .ref 1831, .int 0, .ref 1832, .ref 1833, .ref 1834, .ref 1835, .int 0, .ref 1836, .ref 1837, .ref 1838, .ref 1839, .ref 1840, .int 0, .ref 1841, .ref 1842, .ref 1843, .ref 1844, .ref 1845, .ref 1846, .ref 1847, .ref 1848, .int 0, .int 0, .int 0, .int 0, .int 0, .long 0, .int 0, .int 0, .int 0, .ref 1849, .ref 1850, .int 0, .int 0, .int 0, .ref 1851, .int 0, .int 0, .ref 1852, .ref 1853, .int 0, .ref 1854, .ref 1855, .int 0, .int 0, .ref 1856, .int 0, .ref 1857, .int 0, .int 0, .int 0, .ref 1858, .int 0, .ref 1859, .ref 1860, .ref 1861, .ref 1862, .ref 1863, .ref 1864, .ref 1865, .int (-1), .ref 1866, .ref 1867, .ref 1868, .ref 1869, .int 0, .ref 1870, .int (-1), .int 0, .int 0, .int 0, .ref 1871, .ref 1872, .ref 1873, .ref 1874, .ref 1875, .ref 1876, .ref 1877, .ref 1878, .ref 1879, .ref 1880, .ref 1881, .int 0, .ref 1882, .ref 1883, .ref 1884, .int 0, .ref 1885, .int 0, .ref 1886, .int (-1), .ref 1887, .int 0, .ref 1888, .int 0, .ref 1889, .ref 1890, .ref 1891, .ref 1892, .ref 1893, .ref 1894, .ref 1895, .ref 1896, .ref 1897, .ref 1898, .int 0, .int 0, .int 0]))) := by rw [eS17]; exact am_nth_self g16_1826
  have g17_0 : am_nth S17 0 = some (6, some (.inl (.int, 6, .int 0, [(0, .int y0), (1, .int y1), (2, .int y2), (3, .int y3), (4, .int y4), (5, .int y5)]))) := by rw [eS17]; exact g16_0
  refine G_ps 2 (pc' := 250) (l' := [(7, .int 0), (6, .int 0), (5, .int 0), (4, .int 0), (3, .int 0), (2, .int 0), (1, .int 0), (0, .ref 1826)]) (st' := [.int 0, .ref 1826]) rfl ?_
  refine G_put (i := 417) (ci := 13) (k := 76) (v := .int 0) rfl rfl g17_1826 rfl rfl ?_
  obtain ⟨S18, eS18⟩ : ∃ T9 : am_S, T9 = am_set S17 1826 (115, some (.inr (13, [.int 0, .int 0, .ref 1827, .int 0, .ref 1828, .ref 1829, .ref 1830, .ref 1831, .int 0, .ref 1832, .ref 1833, .ref 1834, .ref 1835, .int 0, .ref 1836, .ref 1837, .ref 1838, .ref 1839, .ref 1840, .int 0, .ref 1841, .ref 1842, .ref 1843, .ref 1844, .ref 1845, .ref 1846, .ref 1847, .ref 1848, .int 0, .int 0, .int 0, .int 0, .int 0, .long 0, .int 0, .int 0, .int 0, .ref 1849, .ref 1850, .int 0, .int 0, .int 0, .ref 1851, .int 0, .int 0, .ref 1852, .ref 1853, .int 0, .ref 1854, .ref 1855, .int 0, .int 0, .ref 1856, .int 0, .ref 1857, .int 0, .int 0, .int 0, .ref 1858, .int 0, .ref 1859, .ref 1860, .ref 1861, .ref 1862, .ref 1863, .ref 1864, .ref 1865, .int (-1), .ref 1866, .ref 1867, .ref 1868, .ref 1869, .int 0, .ref 1870, .int (-1), .int 0, .int 0, .int 0, .ref 1871, .ref 1872, .ref 1873, .ref 1874, .ref 1875, .ref 1876, .ref 1877, .ref 1878, .ref 1879, .ref 1880, .ref 1881, .int 0, .ref 1882, .ref 1883, .ref 1884, .int 0, .ref 1885, .int 0, .ref 1886, .int (-1), .ref 1887, .int 0, .ref 1888, .int 0, .ref 1889, .ref 1890, .ref 1891, .ref 1892, .ref 1893, .ref 1894, .ref 1895, .ref 1896, .ref 1897, .ref 1898, .int 0, .int 0, .int 0]))) := ⟨_, rfl⟩
  show am_G at_P at_cl at_ty _ mt_192 253 [(7, .int 0), (6, .int 0), (5, .int 0), (4, .int 0), (3, .int 0), (2, .int 0), (1, .int 0), (0, .ref 1826)] [] (am_set S17 1826 (115, some (.inr (13, [.int 0, .int 0, .ref 1827, .int 0, .ref 1828, .ref 1829, .ref 1830, .ref 1831, .int 0, .ref 1832, .ref 1833, .ref 1834, .ref 1835, .int 0, .ref 1836, .ref 1837, .ref 1838, .ref 1839, .ref 1840, .int 0, .ref 1841, .ref 1842, .ref 1843, .ref 1844, .ref 1845, .ref 1846, .ref 1847, .ref 1848, .int 0, .int 0, .int 0, .int 0, .int 0, .long 0, .int 0, .int 0, .int 0, .ref 1849, .ref 1850, .int 0, .int 0, .int 0, .ref 1851, .int 0, .int 0, .ref 1852, .ref 1853, .int 0, .ref 1854, .ref 1855, .int 0, .int 0, .ref 1856, .int 0, .ref 1857, .int 0, .int 0, .int 0, .ref 1858, .int 0, .ref 1859, .ref 1860, .ref 1861, .ref 1862, .ref 1863, .ref 1864, .ref 1865, .int (-1), .ref 1866, .ref 1867, .ref 1868, .ref 1869, .int 0, .ref 1870, .int (-1), .int 0, .int 0, .int 0, .ref 1871, .ref 1872, .ref 1873, .ref 1874, .ref 1875, .ref 1876, .ref 1877, .ref 1878, .ref 1879, .ref 1880, .ref 1881, .int 0, .ref 1882, .ref 1883, .ref 1884, .int 0, .ref 1885, .int 0, .ref 1886, .int (-1), .ref 1887, .int 0, .ref 1888, .int 0, .ref 1889, .ref 1890, .ref 1891, .ref 1892, .ref 1893, .ref 1894, .ref 1895, .ref 1896, .ref 1897, .ref 1898, .int 0, .int 0, .int 0])))) _
  rw [← eS18]
  have hs18 : am_same [2, 4, 5, 6, 361, 407, 1826] S S18 := by rw [eS18]; exact am_same_set hs17 g17_1826 (by decide)
  have g18_1 : am_nth S18 1 = some (9, some (.inr (0, [.ref 2, .ref 7, .ref 361, .ref 363, .ref 366, .ref 372, .ref 406, .ref 1824, .int 0]))) := by rw [eS18]; exact am_nth_ne g17_1826 (by decide) g17_1
  have g18_2 : am_nth S18 2 = some (6, some (.inr (1, [.ref 3, .int 0, .ref 4, .ref 5, .ref 6, .int 1]))) := by rw [eS18]; exact am_nth_ne g17_1826 (by decide) g17_2
  have g18_4 : am_nth S18 4 = some (1001, some (.inl (.int, 1001, .int 0, [(0, .int 0)]))) := by rw [eS18]; exact am_nth_ne g17_1826 (by decide) g17_4
  have g18_5 : am_nth S18 5 = some (1001, some (.inl (.int, 1001, .int 0, [(0, .int 0)]))) := by rw [eS18]; exact am_nth_ne g17_1826 (by decide) g17_5
  have g18_6 : am_nth S18 6 = some (1001, some (.inl (.long, 1001, .long 0, [(0, .long 0)]))) := by rw [eS18]; exact am_nth_ne g17_1826 (by decide) g17_6
  have g18_7 : am_nth S18 7 = some (7, some (.inr (2, [.ref 8, .ref 13, .ref 18, .ref 23, .ref 24, .int 0, .int 0]))) := by rw [eS18]; exact am_nth_ne g17_1826 (by decide) g17_7
  have g18_8 : am_nth S18 8 = some (5, some (.inr (3, [.ref 9, .ref 10, .ref 11, .ref 12, .int 0]))) := by rw [eS18]; exact am_nth_ne g17_1826 (by decide) g17_8
  have g18_13 : am_nth S18 13 = some (5, some (.inr (3, [.ref 14, .ref 15, .ref 16, .ref 17, .int 0]))) := by rw [eS18]; exact am_nth_ne g17_1826 (by decide) g17_13
  have g18_18 : am_nth S18 18 = some (5, some (.inr (3, [.ref 19, .ref 20, .ref 21, .ref 22, .int 0]))) := by rw [eS18]; exact am_nth_ne g17_1826 (by decide) g17_18
  have g18_361 : am_nth S18 361 = some (10, some (.inr (6, [.ref 2, .ref 7, .ref 362, .int 0, .int 0, .int 0, .int 0, .ref 25, .ref 26, .int 0]))) := by rw [eS18]; exact am_nth_ne g17_1826 (by decide) g17_361
  have g18_406 : am_nth S18 406 = some (19, some (.inr (10, [.ref 7, .ref 366, .ref 407, .ref 878, .ref 1349, .ref 1350, .ref 1350, .ref 1350, .long 0, .long 0, .ref 409, .ref 1352, .ref 1354, .int 0, .int 0, .long 0, .int 0, .int 0, .int 0]))) := by rw [eS18]; exact am_nth_ne g17_1826 (by decide) g17_406
  have g18_407 : am_nth S18 407 = some (9, some (.inr (11, [.ref 408, .ref 409, .int 0, .int 0, .int 0, .int 0, .int 0, .long 0, .long 0]))) := by rw [eS18]; exact am_nth_ne g17_1826 (by decide) g17_407
  have g18_1826 : am_nth S18 1826 = some (115, some (.inr (13, [.int 0, .int 0, .ref 1827, .int 0, .ref 1828, .ref 1829, .ref 1830, .ref 1831, .int 0, .ref 1832, .ref 1833, .ref 1834, .ref 1835, .int 0, .ref 1836, .ref 1837, .ref 1838, .ref 1839, .ref 1840, .int 0, .ref 1841, .ref 1842, .ref 1843, .ref 1844, .ref 1845, .ref 1846, .ref 1847, .ref 1848, .int 0, .int 0, .int 0, .int 0, .int 0, .long 0, .int 0, .int 0, .int 0, .ref 1849, .ref 1850, .int 0, .int 0, .int 0, .ref 1851, .int 0, .int 0, .ref 1852, .ref 1853, .int 0, .ref 1854, .ref 1855, .int 0, .int 0, .ref 1856, .int 0, .ref 1857, .int 0, .int 0, .int 0, .ref 1858, .int 0, .ref 1859, .ref 1860, .ref 1861, .ref 1862, .ref 1863, .ref 1864, .ref 1865, .int (-1), .ref 1866, .ref 1867, .ref 1868, .ref 1869, .int 0, .ref 1870, .int (-1), .int 0, .int 0, .int 0, .ref 1871, .ref 1872, .ref 1873, .ref 1874, .ref 1875, .ref 1876, .ref 1877, .ref 1878, .ref 1879, .ref 1880, .ref 1881, .int 0, .ref 1882, .ref 1883, .ref 1884, .int 0, .ref 1885, .int 0, .ref 1886, .int (-1), .ref 1887, .int 0, .ref 1888, .int 0, .ref 1889, .ref 1890, .ref 1891, .ref 1892, .ref 1893, .ref 1894, .ref 1895, .ref 1896, .ref 1897, .ref 1898, .int 0, .int 0, .int 0]))) := by rw [eS18]; exact am_nth_self g17_1826
  have g18_0 : am_nth S18 0 = some (6, some (.inl (.int, 6, .int 0, [(0, .int y0), (1, .int y1), (2, .int y2), (3, .int y3), (4, .int y4), (5, .int y5)]))) := by rw [eS18]; exact g17_0
  refine G_ps 1 (pc' := 255) (l' := [(7, .int 0), (6, .int 0), (5, .int 0), (4, .int 0), (3, .int 0), (2, .int 0), (1, .int 0), (0, .ref 1826)]) (st' := [.int 0]) rfl ?_
  refine G_ret rfl rfl rfl ?_
  show am_G at_P at_cl at_ty _ mt_law 296 [(4, .int 0), (3, .ref 1899), (2, .ref 1826), (1, .ref 1), (0, .ref 0)] [.int 0, .int 0] _ _
  refine G_ps 5 (pc' := 26) (l' := [(4, .int 6), (3, .ref 1899), (2, .ref 1826), (1, .ref 1), (0, .ref 0)]) (st' := [.ref 0, .int 6]) rfl ?_
  refine G_alen rfl g18_0 ?_
  show am_G at_P at_cl at_ty _ mt_law 27 [(4, .int 6), (3, .ref 1899), (2, .ref 1826), (1, .ref 1), (0, .ref 0)] [.int 6, .int 6] _ _
  refine G_ps 4 (pc' := 1004) (l' := [(4, .int 6), (3, .ref 1899), (2, .ref 1826), (1, .ref 1), (0, .ref 0)]) (st' := [.int 1]) rfl ?_
  refine G_ret rfl rfl rfl ?_
  exact ⟨rfl, by simp, by simp⟩
set_option maxRecDepth 100000 in
set_option maxHeartbeats 4000000 in
theorem lc_3 (S : am_S) (y0 y1 y2 y3 y4 y5 : Int32) (g0_0 : am_nth S 0 = some (6, some (.inl (.int, 6, .int 0, [(0, .int y0), (1, .int y1), (2, .int y2), (3, .int y3), (4, .int y4), (5, .int y5)])))) (g0_1 : am_nth S 1 = some (9, some (.inr (0, [.ref 2, .ref 7, .ref 361, .ref 363, .ref 366, .ref 372, .ref 406, .ref 1824, .int 0])))) (g0_361 : am_nth S 361 = some (10, some (.inr (6, [.ref 2, .ref 7, .ref 362, .int 0, .int 0, .int 0, .int 0, .ref 25, .ref 26, .int 0])))) (g0_1826 : am_nth S 1826 = some (115, some (.inr (13, [.int 0, .int 0, .ref 1827, .int 0, .ref 1828, .ref 1829, .ref 1830, .ref 1831, .int 0, .ref 1832, .ref 1833, .ref 1834, .ref 1835, .int 0, .ref 1836, .ref 1837, .ref 1838, .ref 1839, .ref 1840, .int 0, .ref 1841, .ref 1842, .ref 1843, .ref 1844, .ref 1845, .ref 1846, .ref 1847, .ref 1848, .int 0, .int 0, .int 0, .int 0, .int 0, .long 0, .int 0, .int 0, .int 0, .ref 1849, .ref 1850, .int 0, .int 0, .int 0, .ref 1851, .int 0, .int 0, .ref 1852, .ref 1853, .int 0, .ref 1854, .ref 1855, .int 0, .int 0, .ref 1856, .int 0, .ref 1857, .int 0, .int 0, .int 0, .ref 1858, .int 0, .ref 1859, .ref 1860, .ref 1861, .ref 1862, .ref 1863, .ref 1864, .ref 1865, .int (-1), .ref 1866, .ref 1867, .ref 1868, .ref 1869, .int 0, .ref 1870, .int (-1), .int 0, .int 0, .int 0, .ref 1871, .ref 1872, .ref 1873, .ref 1874, .ref 1875, .ref 1876, .ref 1877, .ref 1878, .ref 1879, .ref 1880, .ref 1881, .int 0, .ref 1882, .ref 1883, .ref 1884, .int 0, .ref 1885, .int 0, .ref 1886, .int (-1), .ref 1887, .int 0, .ref 1888, .int 0, .ref 1889, .ref 1890, .ref 1891, .ref 1892, .ref 1893, .ref 1894, .ref 1895, .ref 1896, .ref 1897, .ref 1898, .int 0, .int 0, .int 0])))) : am_G at_P at_cl at_ty 12 mt_law 301 [(4, .int 0), (3, .ref 1899), (2, .ref 1826), (1, .ref 1), (0, .ref 0)] [] S (fun r _ c n => r = some (.int 1) ∧ c = 0 ∧ n = 0) := by
  have hs0 : am_same [] S S := am_same_rf _ _
  refine G_ps 1 (pc' := 302) (l' := [(4, .int 0), (3, .ref 1899), (2, .ref 1826), (1, .ref 1), (0, .ref 0)]) (st' := [.ref 1]) rfl ?_
  refine G_cv (i := 43) (j := 4) (b := 1) (M' := mt_4) (xs := []) (rest := []) rfl rfl rfl rfl g0_1 (Nat.le_of_ble_eq_true rfl) (Nat.le_of_ble_eq_true rfl) ?_ (fun _ _ _ _ h9 => h9)
  show am_G at_P at_cl at_ty _ mt_4 0 [(0, .ref 1)] [] _ _
  refine G_ps 1 (pc' := 1) (l' := [(0, .ref 1)]) (st' := [.ref 1]) rfl ?_
  refine G_get (i := 28) (ci := 0) (k := 2) (v := .ref 361) rfl rfl g0_1 rfl ?_
  show am_G at_P at_cl at_ty _ mt_4 4 [(0, .ref 1)] [.ref 361] _ _
  refine G_get (i := 105) (ci := 6) (k := 4) (v := .int 0) rfl rfl g0_361 rfl ?_
  show am_G at_P at_cl at_ty _ mt_4 7 [(0, .ref 1)] [.int 0] _ _
  refine G_ret rfl rfl rfl ?_
  show am_G at_P at_cl at_ty _ mt_law 305 [(4, .int 0), (3, .ref 1899), (2, .ref 1826), (1, .ref 1), (0, .ref 0)] [.int 0] _ _
  refine G_ps 1 (pc' := 306) (l' := [(4, .int 0), (3, .ref 1899), (2, .ref 1826), (1, .ref 1), (0, .ref 0)]) (st' := [.ref 1826, .int 0]) rfl ?_
  refine G_cv (i := 46) (j := 193) (b := 1826) (M' := mt_193) (xs := []) (rest := [.int 0]) rfl rfl rfl rfl g0_1826 (Nat.le_of_ble_eq_true rfl) (Nat.le_of_ble_eq_true rfl) ?_ (fun _ _ _ _ h9 => h9)
  show am_G at_P at_cl at_ty _ mt_193 0 [(0, .ref 1826)] [] _ _
  refine G_ps 1 (pc' := 1) (l' := [(0, .ref 1826)]) (st' := [.ref 1826]) rfl ?_
  refine G_get (i := 411) (ci := 13) (k := 34) (v := .int 0) rfl rfl g0_1826 rfl ?_
  show am_G at_P at_cl at_ty _ mt_193 4 [(0, .ref 1826)] [.int 0] _ _
  refine G_ret rfl rfl rfl ?_
  show am_G at_P at_cl at_ty _ mt_law 309 [(4, .int 0), (3, .ref 1899), (2, .ref 1826), (1, .ref 1), (0, .ref 0)] [.int 0, .int 0] _ _
  refine G_ps 5 (pc' := 26) (l' := [(4, .int 6), (3, .ref 1899), (2, .ref 1826), (1, .ref 1), (0, .ref 0)]) (st' := [.ref 0, .int 6]) rfl ?_
  refine G_alen rfl g0_0 ?_
  show am_G at_P at_cl at_ty _ mt_law 27 [(4, .int 6), (3, .ref 1899), (2, .ref 1826), (1, .ref 1), (0, .ref 0)] [.int 6, .int 6] _ _
  refine G_ps 4 (pc' := 1004) (l' := [(4, .int 6), (3, .ref 1899), (2, .ref 1826), (1, .ref 1), (0, .ref 0)]) (st' := [.int 1]) rfl ?_
  refine G_ret rfl rfl rfl ?_
  exact ⟨rfl, by simp, by simp⟩
set_option maxRecDepth 100000 in
set_option maxHeartbeats 4000000 in
theorem lc_5 (S : am_S) (y0 y1 y2 y3 y4 y5 : Int32) (g0_0 : am_nth S 0 = some (6, some (.inl (.int, 6, .int 0, [(0, .int y0), (1, .int y1), (2, .int y2), (3, .int y3), (4, .int y4), (5, .int y5)])))) (g0_1 : am_nth S 1 = some (9, some (.inr (0, [.ref 2, .ref 7, .ref 361, .ref 363, .ref 366, .ref 372, .ref 406, .ref 1824, .int 0])))) (g0_7 : am_nth S 7 = some (7, some (.inr (2, [.ref 8, .ref 13, .ref 18, .ref 23, .ref 24, .int 0, .int 0])))) (g0_1826 : am_nth S 1826 = some (115, some (.inr (13, [.int 0, .int 0, .ref 1827, .int 0, .ref 1828, .ref 1829, .ref 1830, .ref 1831, .int 0, .ref 1832, .ref 1833, .ref 1834, .ref 1835, .int 0, .ref 1836, .ref 1837, .ref 1838, .ref 1839, .ref 1840, .int 0, .ref 1841, .ref 1842, .ref 1843, .ref 1844, .ref 1845, .ref 1846, .ref 1847, .ref 1848, .int 0, .int 0, .int 0, .int 0, .int 0, .long 0, .int 0, .int 0, .int 0, .ref 1849, .ref 1850, .int 0, .int 0, .int 0, .ref 1851, .int 0, .int 0, .ref 1852, .ref 1853, .int 0, .ref 1854, .ref 1855, .int 0, .int 0, .ref 1856, .int 0, .ref 1857, .int 0, .int 0, .int 0, .ref 1858, .int 0, .ref 1859, .ref 1860, .ref 1861, .ref 1862, .ref 1863, .ref 1864, .ref 1865, .int (-1), .ref 1866, .ref 1867, .ref 1868, .ref 1869, .int 0, .ref 1870, .int (-1), .int 0, .int 0, .int 0, .ref 1871, .ref 1872, .ref 1873, .ref 1874, .ref 1875, .ref 1876, .ref 1877, .ref 1878, .ref 1879, .ref 1880, .ref 1881, .int 0, .ref 1882, .ref 1883, .ref 1884, .int 0, .ref 1885, .int 0, .ref 1886, .int (-1), .ref 1887, .int 0, .ref 1888, .int 0, .ref 1889, .ref 1890, .ref 1891, .ref 1892, .ref 1893, .ref 1894, .ref 1895, .ref 1896, .ref 1897, .ref 1898, .int 0, .int 0, .int 0])))) : am_G at_P at_cl at_ty 12 mt_law 339 [(4, .int 0), (3, .ref 1899), (2, .ref 1826), (1, .ref 1), (0, .ref 0)] [] S (fun r _ c n => r = some (.int 1) ∧ c = 0 ∧ n = 0) := by
  have hs0 : am_same [] S S := am_same_rf _ _
  refine G_ps 5 (pc' := 345) (l' := [(4, .int 0), (3, .ref 1899), (2, .ref 1826), (1, .ref 1), (0, .ref 0)]) (st' := [.int 1, .ref 0, .ref 1]) rfl ?_
  refine G_ild (i := 1) rfl g0_0 (by decide) ?_
  show am_G at_P at_cl at_ty _ mt_law 346 [(4, .int 0), (3, .ref 1899), (2, .ref 1826), (1, .ref 1), (0, .ref 0)] [.int y1, .ref 1] _ _
  refine G_ps 4 (pc' := 351) (l' := [(4, .int 0), (3, .ref 1899), (2, .ref 1826), (1, .ref 1), (0, .ref 0)]) (st' := [.int 2, .ref 0, .int y1, .ref 1]) rfl ?_
  refine G_ild (i := 2) rfl g0_0 (by decide) ?_
  show am_G at_P at_cl at_ty _ mt_law 352 [(4, .int 0), (3, .ref 1899), (2, .ref 1826), (1, .ref 1), (0, .ref 0)] [.int y2, .int y1, .ref 1] _ _
  refine G_cv (i := 52) (j := 6) (b := 1) (M' := mt_6) (xs := [.int y2, .int y1]) (rest := []) rfl rfl rfl rfl g0_1 (Nat.le_of_ble_eq_true rfl) (Nat.le_of_ble_eq_true rfl) ?_ (fun _ _ _ _ h9 => h9)
  show am_G at_P at_cl at_ty _ mt_6 0 [(0, .ref 1), (1, .int y1), (2, .int y2)] [] _ _
  refine G_ps 1 (pc' := 1) (l' := [(0, .ref 1), (1, .int y1), (2, .int y2)]) (st' := [.ref 1]) rfl ?_
  refine G_get (i := 19) (ci := 0) (k := 1) (v := .ref 7) rfl rfl g0_1 rfl ?_
  show am_G at_P at_cl at_ty _ mt_6 4 [(0, .ref 1), (1, .int y1), (2, .int y2)] [.ref 7] _ _
  refine G_ps 1 (pc' := 5) (l' := [(0, .ref 1), (1, .int y1), (2, .int y2)]) (st' := [.int y1, .ref 7]) rfl ?_
  refine G_cv (i := 144) (j := 35) (b := 7) (M' := mt_35) (xs := [.int y1]) (rest := []) rfl rfl rfl rfl g0_7 (Nat.le_of_ble_eq_true rfl) (Nat.le_of_ble_eq_true rfl) ?_ (fun _ _ _ _ h9 => h9)
  show am_G at_P at_cl at_ty _ mt_35 0 [(0, .ref 7), (1, .int y1)] [] _ _
  refine G_ps 2 (pc' := if y1 < 0 then 25 else 4) (l' := [(0, .ref 7), (1, .int y1)]) (st' := []) rfl ?_
  by_cases hc1 : y1 < 0
  · rw [if_pos hc1]
    refine G_ps 1 (pc' := 26) (l' := [(0, .ref 7), (1, .int y1)]) (st' := [.int 0]) rfl ?_
    refine G_ret rfl rfl rfl ?_
    show am_G at_P at_cl at_ty _ mt_6 8 [(0, .ref 1), (1, .int y1), (2, .int y2)] [.int 0] _ _
    refine G_ps 2 (pc' := 13) (l' := [(0, .ref 1), (1, .int y1), (2, .int y2)]) (st' := [.int (-101)]) rfl ?_
    refine G_ret rfl rfl rfl ?_
    show am_G at_P at_cl at_ty _ mt_law 355 [(4, .int 0), (3, .ref 1899), (2, .ref 1826), (1, .ref 1), (0, .ref 0)] [.int (-101)] _ _
    refine G_ps 5 (pc' := 361) (l' := [(4, .int 0), (3, .ref 1899), (2, .ref 1826), (1, .ref 1), (0, .ref 0)]) (st' := [.int 1, .ref 0, .ref 1826, .int (-101)]) rfl ?_
    refine G_ild (i := 1) rfl g0_0 (by decide) ?_
    show am_G at_P at_cl at_ty _ mt_law 362 [(4, .int 0), (3, .ref 1899), (2, .ref 1826), (1, .ref 1), (0, .ref 0)] [.int y1, .ref 1826, .int (-101)] _ _
    refine G_ps 4 (pc' := 367) (l' := [(4, .int 0), (3, .ref 1899), (2, .ref 1826), (1, .ref 1), (0, .ref 0)]) (st' := [.int 2, .ref 0, .int y1, .ref 1826, .int (-101)]) rfl ?_
    refine G_ild (i := 2) rfl g0_0 (by decide) ?_
    show am_G at_P at_cl at_ty _ mt_law 368 [(4, .int 0), (3, .ref 1899), (2, .ref 1826), (1, .ref 1), (0, .ref 0)] [.int y2, .int y1, .ref 1826, .int (-101)] _ _
    refine G_cv (i := 56) (j := 195) (b := 1826) (M' := mt_195) (xs := [.int y2, .int y1]) (rest := [.int (-101)]) rfl rfl rfl rfl g0_1826 (Nat.le_of_ble_eq_true rfl) (Nat.le_of_ble_eq_true rfl) ?_ (fun _ _ _ _ h9 => h9)
    show am_G at_P at_cl at_ty _ mt_195 0 [(0, .ref 1826), (1, .int y1), (2, .int y2)] [] _ _
    refine G_ps 2 (pc' := if y1 < 0 then 12 else 4) (l' := [(0, .ref 1826), (1, .int y1), (2, .int y2)]) (st' := []) rfl ?_
    by_cases hc2 : y1 < 0
    · rw [if_pos hc2]
      refine G_ps 1 (pc' := 14) (l' := [(0, .ref 1826), (1, .int y1), (2, .int y2)]) (st' := [.int (-101)]) rfl ?_
      refine G_ret rfl rfl rfl ?_
      show am_G at_P at_cl at_ty _ mt_law 371 [(4, .int 0), (3, .ref 1899), (2, .ref 1826), (1, .ref 1), (0, .ref 0)] [.int (-101), .int (-101)] _ _
      refine G_ps 5 (pc' := 26) (l' := [(4, .int 6), (3, .ref 1899), (2, .ref 1826), (1, .ref 1), (0, .ref 0)]) (st' := [.ref 0, .int 6]) rfl ?_
      refine G_alen rfl g0_0 ?_
      show am_G at_P at_cl at_ty _ mt_law 27 [(4, .int 6), (3, .ref 1899), (2, .ref 1826), (1, .ref 1), (0, .ref 0)] [.int 6, .int 6] _ _
      refine G_ps 4 (pc' := 1004) (l' := [(4, .int 6), (3, .ref 1899), (2, .ref 1826), (1, .ref 1), (0, .ref 0)]) (st' := [.int 1]) rfl ?_
      refine G_ret rfl rfl rfl ?_
      exact ⟨rfl, by simp, by simp⟩
    · rw [if_neg hc2]
      exfalso
      simp only [Int32.lt_iff_toInt_lt, Int32.le_iff_toInt_le, show (0 : Int32).toInt = 0 by decide] at hc1 hc2
      omega
  · rw [if_neg hc1]
    refine G_ps 2 (pc' := 6) (l' := [(0, .ref 7), (1, .int y1)]) (st' := [.ref 7, .int y1]) rfl ?_
    refine G_get (i := 36) (ci := 2) (k := 6) (v := .int 0) rfl rfl g0_7 rfl ?_
    show am_G at_P at_cl at_ty _ mt_35 9 [(0, .ref 7), (1, .int y1)] [.int 0, .int y1] _ _
    refine G_ps 1 (pc' := if 0 ≤ y1 then 25 else 12) (l' := [(0, .ref 7), (1, .int y1)]) (st' := []) rfl ?_
    by_cases hc3 : 0 ≤ y1
    · rw [if_pos hc3]
      refine G_ps 1 (pc' := 26) (l' := [(0, .ref 7), (1, .int y1)]) (st' := [.int 0]) rfl ?_
      refine G_ret rfl rfl rfl ?_
      show am_G at_P at_cl at_ty _ mt_6 8 [(0, .ref 1), (1, .int y1), (2, .int y2)] [.int 0] _ _
      refine G_ps 2 (pc' := 13) (l' := [(0, .ref 1), (1, .int y1), (2, .int y2)]) (st' := [.int (-101)]) rfl ?_
      refine G_ret rfl rfl rfl ?_
      show am_G at_P at_cl at_ty _ mt_law 355 [(4, .int 0), (3, .ref 1899), (2, .ref 1826), (1, .ref 1), (0, .ref 0)] [.int (-101)] _ _
      refine G_ps 5 (pc' := 361) (l' := [(4, .int 0), (3, .ref 1899), (2, .ref 1826), (1, .ref 1), (0, .ref 0)]) (st' := [.int 1, .ref 0, .ref 1826, .int (-101)]) rfl ?_
      refine G_ild (i := 1) rfl g0_0 (by decide) ?_
      show am_G at_P at_cl at_ty _ mt_law 362 [(4, .int 0), (3, .ref 1899), (2, .ref 1826), (1, .ref 1), (0, .ref 0)] [.int y1, .ref 1826, .int (-101)] _ _
      refine G_ps 4 (pc' := 367) (l' := [(4, .int 0), (3, .ref 1899), (2, .ref 1826), (1, .ref 1), (0, .ref 0)]) (st' := [.int 2, .ref 0, .int y1, .ref 1826, .int (-101)]) rfl ?_
      refine G_ild (i := 2) rfl g0_0 (by decide) ?_
      show am_G at_P at_cl at_ty _ mt_law 368 [(4, .int 0), (3, .ref 1899), (2, .ref 1826), (1, .ref 1), (0, .ref 0)] [.int y2, .int y1, .ref 1826, .int (-101)] _ _
      refine G_cv (i := 56) (j := 195) (b := 1826) (M' := mt_195) (xs := [.int y2, .int y1]) (rest := [.int (-101)]) rfl rfl rfl rfl g0_1826 (Nat.le_of_ble_eq_true rfl) (Nat.le_of_ble_eq_true rfl) ?_ (fun _ _ _ _ h9 => h9)
      show am_G at_P at_cl at_ty _ mt_195 0 [(0, .ref 1826), (1, .int y1), (2, .int y2)] [] _ _
      refine G_ps 2 (pc' := if y1 < 0 then 12 else 4) (l' := [(0, .ref 1826), (1, .int y1), (2, .int y2)]) (st' := []) rfl ?_
      by_cases hc4 : y1 < 0
      · rw [if_pos hc4]
        exfalso
        simp only [Int32.lt_iff_toInt_lt, Int32.le_iff_toInt_le, show (0 : Int32).toInt = 0 by decide] at hc1 hc3 hc4
        omega
      · rw [if_neg hc4]
        refine G_ps 2 (pc' := 6) (l' := [(0, .ref 1826), (1, .int y1), (2, .int y2)]) (st' := [.ref 1826, .int y1]) rfl ?_
        refine G_get (i := 387) (ci := 13) (k := 19) (v := .int 0) rfl rfl g0_1826 rfl ?_
        show am_G at_P at_cl at_ty _ mt_195 9 [(0, .ref 1826), (1, .int y1), (2, .int y2)] [.int 0, .int y1] _ _
        refine G_ps 1 (pc' := if y1 < 0 then 15 else 12) (l' := [(0, .ref 1826), (1, .int y1), (2, .int y2)]) (st' := []) rfl ?_
        by_cases hc5 : y1 < 0
        · rw [if_pos hc5]
          exfalso
          simp only [Int32.lt_iff_toInt_lt, Int32.le_iff_toInt_le, show (0 : Int32).toInt = 0 by decide] at hc1 hc3 hc4 hc5
          omega
        · rw [if_neg hc5]
          refine G_ps 1 (pc' := 14) (l' := [(0, .ref 1826), (1, .int y1), (2, .int y2)]) (st' := [.int (-101)]) rfl ?_
          refine G_ret rfl rfl rfl ?_
          show am_G at_P at_cl at_ty _ mt_law 371 [(4, .int 0), (3, .ref 1899), (2, .ref 1826), (1, .ref 1), (0, .ref 0)] [.int (-101), .int (-101)] _ _
          refine G_ps 5 (pc' := 26) (l' := [(4, .int 6), (3, .ref 1899), (2, .ref 1826), (1, .ref 1), (0, .ref 0)]) (st' := [.ref 0, .int 6]) rfl ?_
          refine G_alen rfl g0_0 ?_
          show am_G at_P at_cl at_ty _ mt_law 27 [(4, .int 6), (3, .ref 1899), (2, .ref 1826), (1, .ref 1), (0, .ref 0)] [.int 6, .int 6] _ _
          refine G_ps 4 (pc' := 1004) (l' := [(4, .int 6), (3, .ref 1899), (2, .ref 1826), (1, .ref 1), (0, .ref 0)]) (st' := [.int 1]) rfl ?_
          refine G_ret rfl rfl rfl ?_
          exact ⟨rfl, by simp, by simp⟩
    · rw [if_neg hc3]
      exfalso
      simp only [Int32.lt_iff_toInt_lt, Int32.le_iff_toInt_le, show (0 : Int32).toInt = 0 by decide] at hc1 hc3
      omega
set_option maxRecDepth 100000 in
set_option maxHeartbeats 4000000 in
theorem lc_6 (S : am_S) (y0 y1 y2 y3 y4 y5 : Int32) (g0_0 : am_nth S 0 = some (6, some (.inl (.int, 6, .int 0, [(0, .int y0), (1, .int y1), (2, .int y2), (3, .int y3), (4, .int y4), (5, .int y5)])))) (g0_1 : am_nth S 1 = some (9, some (.inr (0, [.ref 2, .ref 7, .ref 361, .ref 363, .ref 366, .ref 372, .ref 406, .ref 1824, .int 0])))) (g0_2 : am_nth S 2 = some (6, some (.inr (1, [.ref 3, .int 0, .ref 4, .ref 5, .ref 6, .int 0])))) (g0_4 : am_nth S 4 = some (1001, some (.inl (.int, 1001, .int 0, [])))) (g0_5 : am_nth S 5 = some (1001, some (.inl (.int, 1001, .int 0, [])))) (g0_6 : am_nth S 6 = some (1001, some (.inl (.long, 1001, .long 0, [])))) (g0_361 : am_nth S 361 = some (10, some (.inr (6, [.ref 2, .ref 7, .ref 362, .int 0, .int 0, .int 0, .int 0, .ref 25, .ref 26, .int 0])))) (g0_1824 : am_nth S 1824 = some (2, some (.inr (5, [.ref 1825, .int 0])))) (g0_1826 : am_nth S 1826 = some (115, some (.inr (13, [.int 0, .int 0, .ref 1827, .int 0, .ref 1828, .ref 1829, .ref 1830, .ref 1831, .int 0, .ref 1832, .ref 1833, .ref 1834, .ref 1835, .int 0, .ref 1836, .ref 1837, .ref 1838, .ref 1839, .ref 1840, .int 0, .ref 1841, .ref 1842, .ref 1843, .ref 1844, .ref 1845, .ref 1846, .ref 1847, .ref 1848, .int 0, .int 0, .int 0, .int 0, .int 0, .long 0, .int 0, .int 0, .int 0, .ref 1849, .ref 1850, .int 0, .int 0, .int 0, .ref 1851, .int 0, .int 0, .ref 1852, .ref 1853, .int 0, .ref 1854, .ref 1855, .int 0, .int 0, .ref 1856, .int 0, .ref 1857, .int 0, .int 0, .int 0, .ref 1858, .int 0, .ref 1859, .ref 1860, .ref 1861, .ref 1862, .ref 1863, .ref 1864, .ref 1865, .int (-1), .ref 1866, .ref 1867, .ref 1868, .ref 1869, .int 0, .ref 1870, .int (-1), .int 0, .int 0, .int 0, .ref 1871, .ref 1872, .ref 1873, .ref 1874, .ref 1875, .ref 1876, .ref 1877, .ref 1878, .ref 1879, .ref 1880, .ref 1881, .int 0, .ref 1882, .ref 1883, .ref 1884, .int 0, .ref 1885, .int 0, .ref 1886, .int (-1), .ref 1887, .int 0, .ref 1888, .int 0, .ref 1889, .ref 1890, .ref 1891, .ref 1892, .ref 1893, .ref 1894, .ref 1895, .ref 1896, .ref 1897, .ref 1898, .int 0, .int 0, .int 0])))) : am_G at_P at_cl at_ty 12 mt_law 376 [(4, .int 0), (3, .ref 1899), (2, .ref 1826), (1, .ref 1), (0, .ref 0)] [] S (fun r _ c n => r = some (.int 1) ∧ c = 0 ∧ n = 0) := by
  have hs0 : am_same [2, 4, 5, 6, 361, 1824, 1826] S S := am_same_rf _ _
  refine G_ps 5 (pc' := 382) (l' := [(4, .int 0), (3, .ref 1899), (2, .ref 1826), (1, .ref 1), (0, .ref 0)]) (st' := [.int 1, .ref 0, .ref 1]) rfl ?_
  refine G_ild (i := 1) rfl g0_0 (by decide) ?_
  show am_G at_P at_cl at_ty _ mt_law 383 [(4, .int 0), (3, .ref 1899), (2, .ref 1826), (1, .ref 1), (0, .ref 0)] [.int y1, .ref 1] _ _
  refine G_cv (i := 57) (j := 7) (b := 1) (M' := mt_7) (xs := [.int y1]) (rest := []) rfl rfl rfl rfl g0_1 (Nat.le_of_ble_eq_true rfl) (Nat.le_of_ble_eq_true rfl) ?_ (fun _ _ _ _ h9 => h9)
  show am_G at_P at_cl at_ty _ mt_7 0 [(0, .ref 1), (1, .int y1)] [] _ _
  refine G_ps 2 (pc' := if y1 < 0 then 11 else 4) (l' := [(0, .ref 1), (1, .int y1)]) (st' := []) rfl ?_
  by_cases hc1 : y1 < 0
  · rw [if_pos hc1]
    refine G_ps 9 (pc' := 39) (l' := [(3, .int (-102)), (2, .int 1), (0, .ref 1), (1, .int y1)]) (st' := [.ref 1]) rfl ?_
    refine G_get (i := 10) (ci := 0) (k := 0) (v := .ref 2) rfl rfl g0_1 rfl ?_
    show am_G at_P at_cl at_ty _ mt_7 42 [(3, .int (-102)), (2, .int 1), (0, .ref 1), (1, .int y1)] [.ref 2] _ _
    refine G_ps 1 (pc' := 43) (l' := [(3, .int (-102)), (2, .int 1), (0, .ref 1), (1, .int y1)]) (st' := [.int 0, .ref 2]) rfl ?_
    refine G_put (i := 73) (ci := 1) (k := 1) (v := .int 0) rfl rfl g0_2 rfl rfl ?_
    obtain ⟨S1, eS1⟩ : ∃ T9 : am_S, T9 = am_set S 2 (6, some (.inr (1, [.ref 3, .int 0, .ref 4, .ref 5, .ref 6, .int 0]))) := ⟨_, rfl⟩
    show am_G at_P at_cl at_ty _ mt_7 46 [(3, .int (-102)), (2, .int 1), (0, .ref 1), (1, .int y1)] [] (am_set S 2 (6, some (.inr (1, [.ref 3, .int 0, .ref 4, .ref 5, .ref 6, .int 0])))) _
    rw [← eS1]
    have hs1 : am_same [2, 4, 5, 6, 361, 1824, 1826] S S1 := by rw [eS1]; exact am_same_set hs0 g0_2 (by decide)
    have g1_1 : am_nth S1 1 = some (9, some (.inr (0, [.ref 2, .ref 7, .ref 361, .ref 363, .ref 366, .ref 372, .ref 406, .ref 1824, .int 0]))) := by rw [eS1]; exact am_nth_ne g0_2 (by decide) g0_1
    have g1_2 : am_nth S1 2 = some (6, some (.inr (1, [.ref 3, .int 0, .ref 4, .ref 5, .ref 6, .int 0]))) := by rw [eS1]; exact am_nth_self g0_2
    have g1_4 : am_nth S1 4 = some (1001, some (.inl (.int, 1001, .int 0, []))) := by rw [eS1]; exact am_nth_ne g0_2 (by decide) g0_4
    have g1_5 : am_nth S1 5 = some (1001, some (.inl (.int, 1001, .int 0, []))) := by rw [eS1]; exact am_nth_ne g0_2 (by decide) g0_5
    have g1_6 : am_nth S1 6 = some (1001, some (.inl (.long, 1001, .long 0, []))) := by rw [eS1]; exact am_nth_ne g0_2 (by decide) g0_6
    have g1_361 : am_nth S1 361 = some (10, some (.inr (6, [.ref 2, .ref 7, .ref 362, .int 0, .int 0, .int 0, .int 0, .ref 25, .ref 26, .int 0]))) := by rw [eS1]; exact am_nth_ne g0_2 (by decide) g0_361
    have g1_1824 : am_nth S1 1824 = some (2, some (.inr (5, [.ref 1825, .int 0]))) := by rw [eS1]; exact am_nth_ne g0_2 (by decide) g0_1824
    have g1_1826 : am_nth S1 1826 = some (115, some (.inr (13, [.int 0, .int 0, .ref 1827, .int 0, .ref 1828, .ref 1829, .ref 1830, .ref 1831, .int 0, .ref 1832, .ref 1833, .ref 1834, .ref 1835, .int 0, .ref 1836, .ref 1837, .ref 1838, .ref 1839, .ref 1840, .int 0, .ref 1841, .ref 1842, .ref 1843, .ref 1844, .ref 1845, .ref 1846, .ref 1847, .ref 1848, .int 0, .int 0, .int 0, .int 0, .int 0, .long 0, .int 0, .int 0, .int 0, .ref 1849, .ref 1850, .int 0, .int 0, .int 0, .ref 1851, .int 0, .int 0, .ref 1852, .ref 1853, .int 0, .ref 1854, .ref 1855, .int 0, .int 0, .ref 1856, .int 0, .ref 1857, .int 0, .int 0, .int 0, .ref 1858, .int 0, .ref 1859, .ref 1860, .ref 1861, .ref 1862, .ref 1863, .ref 1864, .ref 1865, .int (-1), .ref 1866, .ref 1867, .ref 1868, .ref 1869, .int 0, .ref 1870, .int (-1), .int 0, .int 0, .int 0, .ref 1871, .ref 1872, .ref 1873, .ref 1874, .ref 1875, .ref 1876, .ref 1877, .ref 1878, .ref 1879, .ref 1880, .ref 1881, .int 0, .ref 1882, .ref 1883, .ref 1884, .int 0, .ref 1885, .int 0, .ref 1886, .int (-1), .ref 1887, .int 0, .ref 1888, .int 0, .ref 1889, .ref 1890, .ref 1891, .ref 1892, .ref 1893, .ref 1894, .ref 1895, .ref 1896, .ref 1897, .ref 1898, .int 0, .int 0, .int 0]))) := by rw [eS1]; exact am_nth_ne g0_2 (by decide) g0_1826
    have g1_0 : am_nth S1 0 = some (6, some (.inl (.int, 6, .int 0, [(0, .int y0), (1, .int y1), (2, .int y2), (3, .int y3), (4, .int y4), (5, .int y5)]))) := by rw [eS1]; exact g0_0
    refine G_ps 3 (pc' := 51) (l' := [(3, .int (-102)), (2, .int 1), (0, .ref 1), (1, .int y1)]) (st' := [.int (-102)]) rfl ?_
    refine G_ret rfl rfl rfl ?_
    show am_G at_P at_cl at_ty _ mt_law 386 [(4, .int 0), (3, .ref 1899), (2, .ref 1826), (1, .ref 1), (0, .ref 0)] [.int (-102)] _ _
    refine G_ps 5 (pc' := 392) (l' := [(4, .int 0), (3, .ref 1899), (2, .ref 1826), (1, .ref 1), (0, .ref 0)]) (st' := [.int 1, .ref 0, .ref 1826, .int (-102)]) rfl ?_
    refine G_ild (i := 1) rfl g1_0 (by decide) ?_
    show am_G at_P at_cl at_ty _ mt_law 393 [(4, .int 0), (3, .ref 1899), (2, .ref 1826), (1, .ref 1), (0, .ref 0)] [.int y1, .ref 1826, .int (-102)] _ _
    refine G_cv (i := 60) (j := 201) (b := 1826) (M' := mt_201) (xs := [.int y1]) (rest := [.int (-102)]) rfl rfl rfl rfl g1_1826 (Nat.le_of_ble_eq_true rfl) (Nat.le_of_ble_eq_true rfl) ?_ (fun _ _ _ _ h9 => h9)
    show am_G at_P at_cl at_ty _ mt_201 0 [(0, .ref 1826), (1, .int y1)] [] _ _
    refine G_ps 2 (pc' := if y1 < 0 then 11 else 4) (l' := [(0, .ref 1826), (1, .int y1)]) (st' := []) rfl ?_
    by_cases hc2 : y1 < 0
    · rw [if_pos hc2]
      refine G_ps 2 (pc' := 13) (l' := [(0, .ref 1826), (1, .int y1)]) (st' := [.int 0, .ref 1826]) rfl ?_
      refine G_put (i := 393) (ci := 13) (k := 28) (v := .int 0) rfl rfl g1_1826 rfl rfl ?_
      obtain ⟨S2, eS2⟩ : ∃ T9 : am_S, T9 = am_set S1 1826 (115, some (.inr (13, [.int 0, .int 0, .ref 1827, .int 0, .ref 1828, .ref 1829, .ref 1830, .ref 1831, .int 0, .ref 1832, .ref 1833, .ref 1834, .ref 1835, .int 0, .ref 1836, .ref 1837, .ref 1838, .ref 1839, .ref 1840, .int 0, .ref 1841, .ref 1842, .ref 1843, .ref 1844, .ref 1845, .ref 1846, .ref 1847, .ref 1848, .int 0, .int 0, .int 0, .int 0, .int 0, .long 0, .int 0, .int 0, .int 0, .ref 1849, .ref 1850, .int 0, .int 0, .int 0, .ref 1851, .int 0, .int 0, .ref 1852, .ref 1853, .int 0, .ref 1854, .ref 1855, .int 0, .int 0, .ref 1856, .int 0, .ref 1857, .int 0, .int 0, .int 0, .ref 1858, .int 0, .ref 1859, .ref 1860, .ref 1861, .ref 1862, .ref 1863, .ref 1864, .ref 1865, .int (-1), .ref 1866, .ref 1867, .ref 1868, .ref 1869, .int 0, .ref 1870, .int (-1), .int 0, .int 0, .int 0, .ref 1871, .ref 1872, .ref 1873, .ref 1874, .ref 1875, .ref 1876, .ref 1877, .ref 1878, .ref 1879, .ref 1880, .ref 1881, .int 0, .ref 1882, .ref 1883, .ref 1884, .int 0, .ref 1885, .int 0, .ref 1886, .int (-1), .ref 1887, .int 0, .ref 1888, .int 0, .ref 1889, .ref 1890, .ref 1891, .ref 1892, .ref 1893, .ref 1894, .ref 1895, .ref 1896, .ref 1897, .ref 1898, .int 0, .int 0, .int 0]))) := ⟨_, rfl⟩
      show am_G at_P at_cl at_ty _ mt_201 16 [(0, .ref 1826), (1, .int y1)] [] (am_set S1 1826 (115, some (.inr (13, [.int 0, .int 0, .ref 1827, .int 0, .ref 1828, .ref 1829, .ref 1830, .ref 1831, .int 0, .ref 1832, .ref 1833, .ref 1834, .ref 1835, .int 0, .ref 1836, .ref 1837, .ref 1838, .ref 1839, .ref 1840, .int 0, .ref 1841, .ref 1842, .ref 1843, .ref 1844, .ref 1845, .ref 1846, .ref 1847, .ref 1848, .int 0, .int 0, .int 0, .int 0, .int 0, .long 0, .int 0, .int 0, .int 0, .ref 1849, .ref 1850, .int 0, .int 0, .int 0, .ref 1851, .int 0, .int 0, .ref 1852, .ref 1853, .int 0, .ref 1854, .ref 1855, .int 0, .int 0, .ref 1856, .int 0, .ref 1857, .int 0, .int 0, .int 0, .ref 1858, .int 0, .ref 1859, .ref 1860, .ref 1861, .ref 1862, .ref 1863, .ref 1864, .ref 1865, .int (-1), .ref 1866, .ref 1867, .ref 1868, .ref 1869, .int 0, .ref 1870, .int (-1), .int 0, .int 0, .int 0, .ref 1871, .ref 1872, .ref 1873, .ref 1874, .ref 1875, .ref 1876, .ref 1877, .ref 1878, .ref 1879, .ref 1880, .ref 1881, .int 0, .ref 1882, .ref 1883, .ref 1884, .int 0, .ref 1885, .int 0, .ref 1886, .int (-1), .ref 1887, .int 0, .ref 1888, .int 0, .ref 1889, .ref 1890, .ref 1891, .ref 1892, .ref 1893, .ref 1894, .ref 1895, .ref 1896, .ref 1897, .ref 1898, .int 0, .int 0, .int 0])))) _
      rw [← eS2]
      have hs2 : am_same [2, 4, 5, 6, 361, 1824, 1826] S S2 := by rw [eS2]; exact am_same_set hs1 g1_1826 (by decide)
      have g2_1 : am_nth S2 1 = some (9, some (.inr (0, [.ref 2, .ref 7, .ref 361, .ref 363, .ref 366, .ref 372, .ref 406, .ref 1824, .int 0]))) := by rw [eS2]; exact am_nth_ne g1_1826 (by decide) g1_1
      have g2_2 : am_nth S2 2 = some (6, some (.inr (1, [.ref 3, .int 0, .ref 4, .ref 5, .ref 6, .int 0]))) := by rw [eS2]; exact am_nth_ne g1_1826 (by decide) g1_2
      have g2_4 : am_nth S2 4 = some (1001, some (.inl (.int, 1001, .int 0, []))) := by rw [eS2]; exact am_nth_ne g1_1826 (by decide) g1_4
      have g2_5 : am_nth S2 5 = some (1001, some (.inl (.int, 1001, .int 0, []))) := by rw [eS2]; exact am_nth_ne g1_1826 (by decide) g1_5
      have g2_6 : am_nth S2 6 = some (1001, some (.inl (.long, 1001, .long 0, []))) := by rw [eS2]; exact am_nth_ne g1_1826 (by decide) g1_6
      have g2_361 : am_nth S2 361 = some (10, some (.inr (6, [.ref 2, .ref 7, .ref 362, .int 0, .int 0, .int 0, .int 0, .ref 25, .ref 26, .int 0]))) := by rw [eS2]; exact am_nth_ne g1_1826 (by decide) g1_361
      have g2_1824 : am_nth S2 1824 = some (2, some (.inr (5, [.ref 1825, .int 0]))) := by rw [eS2]; exact am_nth_ne g1_1826 (by decide) g1_1824
      have g2_1826 : am_nth S2 1826 = some (115, some (.inr (13, [.int 0, .int 0, .ref 1827, .int 0, .ref 1828, .ref 1829, .ref 1830, .ref 1831, .int 0, .ref 1832, .ref 1833, .ref 1834, .ref 1835, .int 0, .ref 1836, .ref 1837, .ref 1838, .ref 1839, .ref 1840, .int 0, .ref 1841, .ref 1842, .ref 1843, .ref 1844, .ref 1845, .ref 1846, .ref 1847, .ref 1848, .int 0, .int 0, .int 0, .int 0, .int 0, .long 0, .int 0, .int 0, .int 0, .ref 1849, .ref 1850, .int 0, .int 0, .int 0, .ref 1851, .int 0, .int 0, .ref 1852, .ref 1853, .int 0, .ref 1854, .ref 1855, .int 0, .int 0, .ref 1856, .int 0, .ref 1857, .int 0, .int 0, .int 0, .ref 1858, .int 0, .ref 1859, .ref 1860, .ref 1861, .ref 1862, .ref 1863, .ref 1864, .ref 1865, .int (-1), .ref 1866, .ref 1867, .ref 1868, .ref 1869, .int 0, .ref 1870, .int (-1), .int 0, .int 0, .int 0, .ref 1871, .ref 1872, .ref 1873, .ref 1874, .ref 1875, .ref 1876, .ref 1877, .ref 1878, .ref 1879, .ref 1880, .ref 1881, .int 0, .ref 1882, .ref 1883, .ref 1884, .int 0, .ref 1885, .int 0, .ref 1886, .int (-1), .ref 1887, .int 0, .ref 1888, .int 0, .ref 1889, .ref 1890, .ref 1891, .ref 1892, .ref 1893, .ref 1894, .ref 1895, .ref 1896, .ref 1897, .ref 1898, .int 0, .int 0, .int 0]))) := by rw [eS2]; exact am_nth_self g1_1826
      have g2_0 : am_nth S2 0 = some (6, some (.inl (.int, 6, .int 0, [(0, .int y0), (1, .int y1), (2, .int y2), (3, .int y3), (4, .int y4), (5, .int y5)]))) := by rw [eS2]; exact g1_0
      refine G_ps 1 (pc' := 18) (l' := [(0, .ref 1826), (1, .int y1)]) (st' := [.int (-102)]) rfl ?_
      refine G_ret rfl rfl rfl ?_
      show am_G at_P at_cl at_ty _ mt_law 396 [(4, .int 0), (3, .ref 1899), (2, .ref 1826), (1, .ref 1), (0, .ref 0)] [.int (-102), .int (-102)] _ _
      refine G_ps 5 (pc' := 26) (l' := [(4, .int 6), (3, .ref 1899), (2, .ref 1826), (1, .ref 1), (0, .ref 0)]) (st' := [.ref 0, .int 6]) rfl ?_
      refine G_alen rfl g2_0 ?_
      show am_G at_P at_cl at_ty _ mt_law 27 [(4, .int 6), (3, .ref 1899), (2, .ref 1826), (1, .ref 1), (0, .ref 0)] [.int 6, .int 6] _ _
      refine G_ps 4 (pc' := 1004) (l' := [(4, .int 6), (3, .ref 1899), (2, .ref 1826), (1, .ref 1), (0, .ref 0)]) (st' := [.int 1]) rfl ?_
      refine G_ret rfl rfl rfl ?_
      exact ⟨rfl, by simp, by simp⟩
    · rw [if_neg hc2]
      exfalso
      simp only [Int32.lt_iff_toInt_lt, Int32.le_iff_toInt_le, show (0 : Int32).toInt = 0 by decide] at hc1 hc2
      omega
  · rw [if_neg hc1]
    refine G_ps 3 (pc' := if y1 ≤ 2000 then 15 else 11) (l' := [(0, .ref 1), (1, .int y1)]) (st' := []) rfl ?_
    by_cases hc3 : y1 ≤ 2000
    · rw [if_pos hc3]
      refine G_ps 5 (pc' := 27) (l' := [(2, .int 0), (0, .ref 1), (1, .int y1)]) (st' := [.ref 1]) rfl ?_
      refine G_get (i := 28) (ci := 0) (k := 2) (v := .ref 361) rfl rfl g0_1 rfl ?_
      show am_G at_P at_cl at_ty _ mt_7 30 [(2, .int 0), (0, .ref 1), (1, .int y1)] [.ref 361] _ _
      refine G_ps 1 (pc' := 31) (l' := [(2, .int 0), (0, .ref 1), (1, .int y1)]) (st' := [.ref 1, .ref 361]) rfl ?_
      refine G_get (i := 69) (ci := 0) (k := 7) (v := .ref 1824) rfl rfl g0_1 rfl ?_
      show am_G at_P at_cl at_ty _ mt_7 34 [(2, .int 0), (0, .ref 1), (1, .int y1)] [.ref 1824, .ref 361] _ _
      refine G_cv (i := 169) (j := 63) (b := 361) (M' := mt_63) (xs := [.ref 1824]) (rest := []) rfl rfl rfl rfl g0_361 (Nat.le_of_ble_eq_true rfl) (Nat.le_of_ble_eq_true rfl) ?_ (fun _ _ _ _ h9 => h9)
      show am_G at_P at_cl at_ty _ mt_63 0 [(0, .ref 361), (1, .ref 1824)] [] _ _
      refine G_ps 1 (pc' := 1) (l' := [(0, .ref 361), (1, .ref 1824)]) (st' := [.ref 361]) rfl ?_
      refine G_get (i := 15) (ci := 6) (k := 0) (v := .ref 2) rfl rfl g0_361 rfl ?_
      show am_G at_P at_cl at_ty _ mt_63 4 [(0, .ref 361), (1, .ref 1824)] [.ref 2] _ _
      refine G_cv (i := 64) (j := 27) (b := 2) (M' := mt_27) (xs := []) (rest := []) rfl rfl rfl rfl g0_2 (Nat.le_of_ble_eq_true rfl) (Nat.le_of_ble_eq_true rfl) ?_ (fun _ _ _ _ h9 => h9)
      show am_G at_P at_cl at_ty _ mt_27 0 [(0, .ref 2)] [] _ _
      refine G_ps 2 (pc' := 2) (l' := [(0, .ref 2)]) (st' := [.int 0, .ref 2]) rfl ?_
      refine G_put (i := 29) (ci := 1) (k := 5) (v := .int 0) rfl rfl g0_2 rfl rfl ?_
      obtain ⟨S3, eS3⟩ : ∃ T9 : am_S, T9 = am_set S 2 (6, some (.inr (1, [.ref 3, .int 0, .ref 4, .ref 5, .ref 6, .int 0]))) := ⟨_, rfl⟩
      show am_G at_P at_cl at_ty _ mt_27 5 [(0, .ref 2)] [] (am_set S 2 (6, some (.inr (1, [.ref 3, .int 0, .ref 4, .ref 5, .ref 6, .int 0])))) _
      rw [← eS3]
      have hs3 : am_same [2, 4, 5, 6, 361, 1824, 1826] S S3 := by rw [eS3]; exact am_same_set hs0 g0_2 (by decide)
      have g3_1 : am_nth S3 1 = some (9, some (.inr (0, [.ref 2, .ref 7, .ref 361, .ref 363, .ref 366, .ref 372, .ref 406, .ref 1824, .int 0]))) := by rw [eS3]; exact am_nth_ne g0_2 (by decide) g0_1
      have g3_2 : am_nth S3 2 = some (6, some (.inr (1, [.ref 3, .int 0, .ref 4, .ref 5, .ref 6, .int 0]))) := by rw [eS3]; exact am_nth_self g0_2
      have g3_4 : am_nth S3 4 = some (1001, some (.inl (.int, 1001, .int 0, []))) := by rw [eS3]; exact am_nth_ne g0_2 (by decide) g0_4
      have g3_5 : am_nth S3 5 = some (1001, some (.inl (.int, 1001, .int 0, []))) := by rw [eS3]; exact am_nth_ne g0_2 (by decide) g0_5
      have g3_6 : am_nth S3 6 = some (1001, some (.inl (.long, 1001, .long 0, []))) := by rw [eS3]; exact am_nth_ne g0_2 (by decide) g0_6
      have g3_361 : am_nth S3 361 = some (10, some (.inr (6, [.ref 2, .ref 7, .ref 362, .int 0, .int 0, .int 0, .int 0, .ref 25, .ref 26, .int 0]))) := by rw [eS3]; exact am_nth_ne g0_2 (by decide) g0_361
      have g3_1824 : am_nth S3 1824 = some (2, some (.inr (5, [.ref 1825, .int 0]))) := by rw [eS3]; exact am_nth_ne g0_2 (by decide) g0_1824
      have g3_1826 : am_nth S3 1826 = some (115, some (.inr (13, [.int 0, .int 0, .ref 1827, .int 0, .ref 1828, .ref 1829, .ref 1830, .ref 1831, .int 0, .ref 1832, .ref 1833, .ref 1834, .ref 1835, .int 0, .ref 1836, .ref 1837, .ref 1838, .ref 1839, .ref 1840, .int 0, .ref 1841, .ref 1842, .ref 1843, .ref 1844, .ref 1845, .ref 1846, .ref 1847, .ref 1848, .int 0, .int 0, .int 0, .int 0, .int 0, .long 0, .int 0, .int 0, .int 0, .ref 1849, .ref 1850, .int 0, .int 0, .int 0, .ref 1851, .int 0, .int 0, .ref 1852, .ref 1853, .int 0, .ref 1854, .ref 1855, .int 0, .int 0, .ref 1856, .int 0, .ref 1857, .int 0, .int 0, .int 0, .ref 1858, .int 0, .ref 1859, .ref 1860, .ref 1861, .ref 1862, .ref 1863, .ref 1864, .ref 1865, .int (-1), .ref 1866, .ref 1867, .ref 1868, .ref 1869, .int 0, .ref 1870, .int (-1), .int 0, .int 0, .int 0, .ref 1871, .ref 1872, .ref 1873, .ref 1874, .ref 1875, .ref 1876, .ref 1877, .ref 1878, .ref 1879, .ref 1880, .ref 1881, .int 0, .ref 1882, .ref 1883, .ref 1884, .int 0, .ref 1885, .int 0, .ref 1886, .int (-1), .ref 1887, .int 0, .ref 1888, .int 0, .ref 1889, .ref 1890, .ref 1891, .ref 1892, .ref 1893, .ref 1894, .ref 1895, .ref 1896, .ref 1897, .ref 1898, .int 0, .int 0, .int 0]))) := by rw [eS3]; exact am_nth_ne g0_2 (by decide) g0_1826
      have g3_0 : am_nth S3 0 = some (6, some (.inl (.int, 6, .int 0, [(0, .int y0), (1, .int y1), (2, .int y2), (3, .int y3), (4, .int y4), (5, .int y5)]))) := by rw [eS3]; exact g0_0
      refine G_ps 8 (pc' := 13) (l' := [(3, .int 0), (2, .int 0), (1, .int 0), (0, .ref 2)]) (st' := [.ref 2, .int 0]) rfl ?_
      refine G_get (i := 25) (ci := 1) (k := 1) (v := .int 0) rfl rfl g3_2 rfl ?_
      show am_G at_P at_cl at_ty _ mt_27 16 [(3, .int 0), (2, .int 0), (1, .int 0), (0, .ref 2)] [.int 0, .int 0] _ _
      refine G_ps 4 (pc' := 145) (l' := [(3, .int 0), (2, .int 0), (1, .int 0), (0, .ref 2)]) (st' := [.ref 2, .int 0, .ref 2]) rfl ?_
      refine G_get (i := 25) (ci := 1) (k := 1) (v := .int 0) rfl rfl g3_2 rfl ?_
      show am_G at_P at_cl at_ty _ mt_27 148 [(3, .int 0), (2, .int 0), (1, .int 0), (0, .ref 2)] [.int 0, .int 0, .ref 2] _ _
      refine G_ps 1 (pc' := 149) (l' := [(3, .int 0), (2, .int 0), (1, .int 0), (0, .ref 2)]) (st' := [.long 0, .int 0, .int 0, .ref 2]) rfl ?_
      refine G_cv (i := 51) (j := 28) (b := 2) (M' := mt_28) (xs := [.long 0, .int 0, .int 0]) (rest := []) rfl rfl rfl rfl g3_2 (Nat.le_of_ble_eq_true rfl) (Nat.le_of_ble_eq_true rfl) ?_ (fun _ _ _ _ h9 => h9)
      show am_G at_P at_cl at_ty _ mt_28 0 [(0, .ref 2), (1, .int 0), (2, .int 0), (3, .long 0)] [] _ _
      refine G_ps 1 (pc' := 1) (l' := [(0, .ref 2), (1, .int 0), (2, .int 0), (3, .long 0)]) (st' := [.ref 2]) rfl ?_
      refine G_get (i := 29) (ci := 1) (k := 5) (v := .int 0) rfl rfl g3_2 rfl ?_
      show am_G at_P at_cl at_ty _ mt_28 4 [(0, .ref 2), (1, .int 0), (2, .int 0), (3, .long 0)] [.int 0] _ _
      refine G_ps 1 (pc' := 5) (l' := [(0, .ref 2), (1, .int 0), (2, .int 0), (3, .long 0)]) (st' := [.ref 2, .int 0]) rfl ?_
      refine G_get (i := 15) (ci := 1) (k := 2) (v := .ref 4) rfl rfl g3_2 rfl ?_
      show am_G at_P at_cl at_ty _ mt_28 8 [(0, .ref 2), (1, .int 0), (2, .int 0), (3, .long 0)] [.ref 4, .int 0] _ _
      refine G_alen rfl g3_4 ?_
      show am_G at_P at_cl at_ty _ mt_28 9 [(0, .ref 2), (1, .int 0), (2, .int 0), (3, .long 0)] [.int 1001, .int 0] _ _
      refine G_ps 2 (pc' := 13) (l' := [(0, .ref 2), (1, .int 0), (2, .int 0), (3, .long 0)]) (st' := [.ref 2]) rfl ?_
      refine G_get (i := 15) (ci := 1) (k := 2) (v := .ref 4) rfl rfl g3_2 rfl ?_
      show am_G at_P at_cl at_ty _ mt_28 16 [(0, .ref 2), (1, .int 0), (2, .int 0), (3, .long 0)] [.ref 4] _ _
      refine G_ps 1 (pc' := 17) (l' := [(0, .ref 2), (1, .int 0), (2, .int 0), (3, .long 0)]) (st' := [.ref 2, .ref 4]) rfl ?_
      refine G_get (i := 29) (ci := 1) (k := 5) (v := .int 0) rfl rfl g3_2 rfl ?_
      show am_G at_P at_cl at_ty _ mt_28 20 [(0, .ref 2), (1, .int 0), (2, .int 0), (3, .long 0)] [.int 0, .ref 4] _ _
      refine G_ps 1 (pc' := 21) (l' := [(0, .ref 2), (1, .int 0), (2, .int 0), (3, .long 0)]) (st' := [.int 0, .int 0, .ref 4]) rfl ?_
      refine G_ist (i := 0) (x := 0) rfl g3_4 (by decide) ?_
      obtain ⟨S4, eS4⟩ : ∃ T9 : am_S, T9 = am_set S3 4 (1001, some (.inl (.int, 1001, .int 0, [(0, .int 0)]))) := ⟨_, rfl⟩
      show am_G at_P at_cl at_ty _ mt_28 22 [(0, .ref 2), (1, .int 0), (2, .int 0), (3, .long 0)] [] (am_set S3 4 (1001, some (.inl (.int, 1001, .int 0, [(0, .int 0)])))) _
      rw [← eS4]
      have hs4 : am_same [2, 4, 5, 6, 361, 1824, 1826] S S4 := by rw [eS4]; exact am_same_set hs3 g3_4 (by decide)
      have g4_1 : am_nth S4 1 = some (9, some (.inr (0, [.ref 2, .ref 7, .ref 361, .ref 363, .ref 366, .ref 372, .ref 406, .ref 1824, .int 0]))) := by rw [eS4]; exact am_nth_ne g3_4 (by decide) g3_1
      have g4_2 : am_nth S4 2 = some (6, some (.inr (1, [.ref 3, .int 0, .ref 4, .ref 5, .ref 6, .int 0]))) := by rw [eS4]; exact am_nth_ne g3_4 (by decide) g3_2
      have g4_4 : am_nth S4 4 = some (1001, some (.inl (.int, 1001, .int 0, [(0, .int 0)]))) := by rw [eS4]; exact am_nth_self g3_4
      have g4_5 : am_nth S4 5 = some (1001, some (.inl (.int, 1001, .int 0, []))) := by rw [eS4]; exact am_nth_ne g3_4 (by decide) g3_5
      have g4_6 : am_nth S4 6 = some (1001, some (.inl (.long, 1001, .long 0, []))) := by rw [eS4]; exact am_nth_ne g3_4 (by decide) g3_6
      have g4_361 : am_nth S4 361 = some (10, some (.inr (6, [.ref 2, .ref 7, .ref 362, .int 0, .int 0, .int 0, .int 0, .ref 25, .ref 26, .int 0]))) := by rw [eS4]; exact am_nth_ne g3_4 (by decide) g3_361
      have g4_1824 : am_nth S4 1824 = some (2, some (.inr (5, [.ref 1825, .int 0]))) := by rw [eS4]; exact am_nth_ne g3_4 (by decide) g3_1824
      have g4_1826 : am_nth S4 1826 = some (115, some (.inr (13, [.int 0, .int 0, .ref 1827, .int 0, .ref 1828, .ref 1829, .ref 1830, .ref 1831, .int 0, .ref 1832, .ref 1833, .ref 1834, .ref 1835, .int 0, .ref 1836, .ref 1837, .ref 1838, .ref 1839, .ref 1840, .int 0, .ref 1841, .ref 1842, .ref 1843, .ref 1844, .ref 1845, .ref 1846, .ref 1847, .ref 1848, .int 0, .int 0, .int 0, .int 0, .int 0, .long 0, .int 0, .int 0, .int 0, .ref 1849, .ref 1850, .int 0, .int 0, .int 0, .ref 1851, .int 0, .int 0, .ref 1852, .ref 1853, .int 0, .ref 1854, .ref 1855, .int 0, .int 0, .ref 1856, .int 0, .ref 1857, .int 0, .int 0, .int 0, .ref 1858, .int 0, .ref 1859, .ref 1860, .ref 1861, .ref 1862, .ref 1863, .ref 1864, .ref 1865, .int (-1), .ref 1866, .ref 1867, .ref 1868, .ref 1869, .int 0, .ref 1870, .int (-1), .int 0, .int 0, .int 0, .ref 1871, .ref 1872, .ref 1873, .ref 1874, .ref 1875, .ref 1876, .ref 1877, .ref 1878, .ref 1879, .ref 1880, .ref 1881, .int 0, .ref 1882, .ref 1883, .ref 1884, .int 0, .ref 1885, .int 0, .ref 1886, .int (-1), .ref 1887, .int 0, .ref 1888, .int 0, .ref 1889, .ref 1890, .ref 1891, .ref 1892, .ref 1893, .ref 1894, .ref 1895, .ref 1896, .ref 1897, .ref 1898, .int 0, .int 0, .int 0]))) := by rw [eS4]; exact am_nth_ne g3_4 (by decide) g3_1826
      have g4_0 : am_nth S4 0 = some (6, some (.inl (.int, 6, .int 0, [(0, .int y0), (1, .int y1), (2, .int y2), (3, .int y3), (4, .int y4), (5, .int y5)]))) := by rw [eS4]; exact g3_0
      refine G_ps 1 (pc' := 23) (l' := [(0, .ref 2), (1, .int 0), (2, .int 0), (3, .long 0)]) (st' := [.ref 2]) rfl ?_
      refine G_get (i := 18) (ci := 1) (k := 3) (v := .ref 5) rfl rfl g4_2 rfl ?_
      show am_G at_P at_cl at_ty _ mt_28 26 [(0, .ref 2), (1, .int 0), (2, .int 0), (3, .long 0)] [.ref 5] _ _
      refine G_ps 1 (pc' := 27) (l' := [(0, .ref 2), (1, .int 0), (2, .int 0), (3, .long 0)]) (st' := [.ref 2, .ref 5]) rfl ?_
      refine G_get (i := 29) (ci := 1) (k := 5) (v := .int 0) rfl rfl g4_2 rfl ?_
      show am_G at_P at_cl at_ty _ mt_28 30 [(0, .ref 2), (1, .int 0), (2, .int 0), (3, .long 0)] [.int 0, .ref 5] _ _
      refine G_ps 1 (pc' := 31) (l' := [(0, .ref 2), (1, .int 0), (2, .int 0), (3, .long 0)]) (st' := [.int 0, .int 0, .ref 5]) rfl ?_
      refine G_ist (i := 0) (x := 0) rfl g4_5 (by decide) ?_
      obtain ⟨S5, eS5⟩ : ∃ T9 : am_S, T9 = am_set S4 5 (1001, some (.inl (.int, 1001, .int 0, [(0, .int 0)]))) := ⟨_, rfl⟩
      show am_G at_P at_cl at_ty _ mt_28 32 [(0, .ref 2), (1, .int 0), (2, .int 0), (3, .long 0)] [] (am_set S4 5 (1001, some (.inl (.int, 1001, .int 0, [(0, .int 0)])))) _
      rw [← eS5]
      have hs5 : am_same [2, 4, 5, 6, 361, 1824, 1826] S S5 := by rw [eS5]; exact am_same_set hs4 g4_5 (by decide)
      have g5_1 : am_nth S5 1 = some (9, some (.inr (0, [.ref 2, .ref 7, .ref 361, .ref 363, .ref 366, .ref 372, .ref 406, .ref 1824, .int 0]))) := by rw [eS5]; exact am_nth_ne g4_5 (by decide) g4_1
      have g5_2 : am_nth S5 2 = some (6, some (.inr (1, [.ref 3, .int 0, .ref 4, .ref 5, .ref 6, .int 0]))) := by rw [eS5]; exact am_nth_ne g4_5 (by decide) g4_2
      have g5_4 : am_nth S5 4 = some (1001, some (.inl (.int, 1001, .int 0, [(0, .int 0)]))) := by rw [eS5]; exact am_nth_ne g4_5 (by decide) g4_4
      have g5_5 : am_nth S5 5 = some (1001, some (.inl (.int, 1001, .int 0, [(0, .int 0)]))) := by rw [eS5]; exact am_nth_self g4_5
      have g5_6 : am_nth S5 6 = some (1001, some (.inl (.long, 1001, .long 0, []))) := by rw [eS5]; exact am_nth_ne g4_5 (by decide) g4_6
      have g5_361 : am_nth S5 361 = some (10, some (.inr (6, [.ref 2, .ref 7, .ref 362, .int 0, .int 0, .int 0, .int 0, .ref 25, .ref 26, .int 0]))) := by rw [eS5]; exact am_nth_ne g4_5 (by decide) g4_361
      have g5_1824 : am_nth S5 1824 = some (2, some (.inr (5, [.ref 1825, .int 0]))) := by rw [eS5]; exact am_nth_ne g4_5 (by decide) g4_1824
      have g5_1826 : am_nth S5 1826 = some (115, some (.inr (13, [.int 0, .int 0, .ref 1827, .int 0, .ref 1828, .ref 1829, .ref 1830, .ref 1831, .int 0, .ref 1832, .ref 1833, .ref 1834, .ref 1835, .int 0, .ref 1836, .ref 1837, .ref 1838, .ref 1839, .ref 1840, .int 0, .ref 1841, .ref 1842, .ref 1843, .ref 1844, .ref 1845, .ref 1846, .ref 1847, .ref 1848, .int 0, .int 0, .int 0, .int 0, .int 0, .long 0, .int 0, .int 0, .int 0, .ref 1849, .ref 1850, .int 0, .int 0, .int 0, .ref 1851, .int 0, .int 0, .ref 1852, .ref 1853, .int 0, .ref 1854, .ref 1855, .int 0, .int 0, .ref 1856, .int 0, .ref 1857, .int 0, .int 0, .int 0, .ref 1858, .int 0, .ref 1859, .ref 1860, .ref 1861, .ref 1862, .ref 1863, .ref 1864, .ref 1865, .int (-1), .ref 1866, .ref 1867, .ref 1868, .ref 1869, .int 0, .ref 1870, .int (-1), .int 0, .int 0, .int 0, .ref 1871, .ref 1872, .ref 1873, .ref 1874, .ref 1875, .ref 1876, .ref 1877, .ref 1878, .ref 1879, .ref 1880, .ref 1881, .int 0, .ref 1882, .ref 1883, .ref 1884, .int 0, .ref 1885, .int 0, .ref 1886, .int (-1), .ref 1887, .int 0, .ref 1888, .int 0, .ref 1889, .ref 1890, .ref 1891, .ref 1892, .ref 1893, .ref 1894, .ref 1895, .ref 1896, .ref 1897, .ref 1898, .int 0, .int 0, .int 0]))) := by rw [eS5]; exact am_nth_ne g4_5 (by decide) g4_1826
      have g5_0 : am_nth S5 0 = some (6, some (.inl (.int, 6, .int 0, [(0, .int y0), (1, .int y1), (2, .int y2), (3, .int y3), (4, .int y4), (5, .int y5)]))) := by rw [eS5]; exact g4_0
      refine G_ps 1 (pc' := 33) (l' := [(0, .ref 2), (1, .int 0), (2, .int 0), (3, .long 0)]) (st' := [.ref 2]) rfl ?_
      refine G_get (i := 21) (ci := 1) (k := 4) (v := .ref 6) rfl rfl g5_2 rfl ?_
      show am_G at_P at_cl at_ty _ mt_28 36 [(0, .ref 2), (1, .int 0), (2, .int 0), (3, .long 0)] [.ref 6] _ _
      refine G_ps 1 (pc' := 37) (l' := [(0, .ref 2), (1, .int 0), (2, .int 0), (3, .long 0)]) (st' := [.ref 2, .ref 6]) rfl ?_
      refine G_get (i := 29) (ci := 1) (k := 5) (v := .int 0) rfl rfl g5_2 rfl ?_
      show am_G at_P at_cl at_ty _ mt_28 40 [(0, .ref 2), (1, .int 0), (2, .int 0), (3, .long 0)] [.int 0, .ref 6] _ _
      refine G_ps 1 (pc' := 41) (l' := [(0, .ref 2), (1, .int 0), (2, .int 0), (3, .long 0)]) (st' := [.long 0, .int 0, .ref 6]) rfl ?_
      refine G_lst (i := 0) (x := 0) rfl g5_6 (by decide) ?_
      obtain ⟨S6, eS6⟩ : ∃ T9 : am_S, T9 = am_set S5 6 (1001, some (.inl (.long, 1001, .long 0, [(0, .long 0)]))) := ⟨_, rfl⟩
      show am_G at_P at_cl at_ty _ mt_28 42 [(0, .ref 2), (1, .int 0), (2, .int 0), (3, .long 0)] [] (am_set S5 6 (1001, some (.inl (.long, 1001, .long 0, [(0, .long 0)])))) _
      rw [← eS6]
      have hs6 : am_same [2, 4, 5, 6, 361, 1824, 1826] S S6 := by rw [eS6]; exact am_same_set hs5 g5_6 (by decide)
      have g6_1 : am_nth S6 1 = some (9, some (.inr (0, [.ref 2, .ref 7, .ref 361, .ref 363, .ref 366, .ref 372, .ref 406, .ref 1824, .int 0]))) := by rw [eS6]; exact am_nth_ne g5_6 (by decide) g5_1
      have g6_2 : am_nth S6 2 = some (6, some (.inr (1, [.ref 3, .int 0, .ref 4, .ref 5, .ref 6, .int 0]))) := by rw [eS6]; exact am_nth_ne g5_6 (by decide) g5_2
      have g6_4 : am_nth S6 4 = some (1001, some (.inl (.int, 1001, .int 0, [(0, .int 0)]))) := by rw [eS6]; exact am_nth_ne g5_6 (by decide) g5_4
      have g6_5 : am_nth S6 5 = some (1001, some (.inl (.int, 1001, .int 0, [(0, .int 0)]))) := by rw [eS6]; exact am_nth_ne g5_6 (by decide) g5_5
      have g6_6 : am_nth S6 6 = some (1001, some (.inl (.long, 1001, .long 0, [(0, .long 0)]))) := by rw [eS6]; exact am_nth_self g5_6
      have g6_361 : am_nth S6 361 = some (10, some (.inr (6, [.ref 2, .ref 7, .ref 362, .int 0, .int 0, .int 0, .int 0, .ref 25, .ref 26, .int 0]))) := by rw [eS6]; exact am_nth_ne g5_6 (by decide) g5_361
      have g6_1824 : am_nth S6 1824 = some (2, some (.inr (5, [.ref 1825, .int 0]))) := by rw [eS6]; exact am_nth_ne g5_6 (by decide) g5_1824
      have g6_1826 : am_nth S6 1826 = some (115, some (.inr (13, [.int 0, .int 0, .ref 1827, .int 0, .ref 1828, .ref 1829, .ref 1830, .ref 1831, .int 0, .ref 1832, .ref 1833, .ref 1834, .ref 1835, .int 0, .ref 1836, .ref 1837, .ref 1838, .ref 1839, .ref 1840, .int 0, .ref 1841, .ref 1842, .ref 1843, .ref 1844, .ref 1845, .ref 1846, .ref 1847, .ref 1848, .int 0, .int 0, .int 0, .int 0, .int 0, .long 0, .int 0, .int 0, .int 0, .ref 1849, .ref 1850, .int 0, .int 0, .int 0, .ref 1851, .int 0, .int 0, .ref 1852, .ref 1853, .int 0, .ref 1854, .ref 1855, .int 0, .int 0, .ref 1856, .int 0, .ref 1857, .int 0, .int 0, .int 0, .ref 1858, .int 0, .ref 1859, .ref 1860, .ref 1861, .ref 1862, .ref 1863, .ref 1864, .ref 1865, .int (-1), .ref 1866, .ref 1867, .ref 1868, .ref 1869, .int 0, .ref 1870, .int (-1), .int 0, .int 0, .int 0, .ref 1871, .ref 1872, .ref 1873, .ref 1874, .ref 1875, .ref 1876, .ref 1877, .ref 1878, .ref 1879, .ref 1880, .ref 1881, .int 0, .ref 1882, .ref 1883, .ref 1884, .int 0, .ref 1885, .int 0, .ref 1886, .int (-1), .ref 1887, .int 0, .ref 1888, .int 0, .ref 1889, .ref 1890, .ref 1891, .ref 1892, .ref 1893, .ref 1894, .ref 1895, .ref 1896, .ref 1897, .ref 1898, .int 0, .int 0, .int 0]))) := by rw [eS6]; exact am_nth_ne g5_6 (by decide) g5_1826
      have g6_0 : am_nth S6 0 = some (6, some (.inl (.int, 6, .int 0, [(0, .int y0), (1, .int y1), (2, .int y2), (3, .int y3), (4, .int y4), (5, .int y5)]))) := by rw [eS6]; exact g5_0
      refine G_ps 2 (pc' := 44) (l' := [(0, .ref 2), (1, .int 0), (2, .int 0), (3, .long 0)]) (st' := [.ref 2, .ref 2]) rfl ?_
      refine G_get (i := 29) (ci := 1) (k := 5) (v := .int 0) rfl rfl g6_2 rfl ?_
      show am_G at_P at_cl at_ty _ mt_28 47 [(0, .ref 2), (1, .int 0), (2, .int 0), (3, .long 0)] [.int 0, .ref 2] _ _
      refine G_ps 2 (pc' := 49) (l' := [(0, .ref 2), (1, .int 0), (2, .int 0), (3, .long 0)]) (st' := [.int 1, .ref 2]) rfl ?_
      refine G_put (i := 29) (ci := 1) (k := 5) (v := .int 1) rfl rfl g6_2 rfl rfl ?_
      obtain ⟨S7, eS7⟩ : ∃ T9 : am_S, T9 = am_set S6 2 (6, some (.inr (1, [.ref 3, .int 0, .ref 4, .ref 5, .ref 6, .int 1]))) := ⟨_, rfl⟩
      show am_G at_P at_cl at_ty _ mt_28 52 [(0, .ref 2), (1, .int 0), (2, .int 0), (3, .long 0)] [] (am_set S6 2 (6, some (.inr (1, [.ref 3, .int 0, .ref 4, .ref 5, .ref 6, .int 1])))) _
      rw [← eS7]
      have hs7 : am_same [2, 4, 5, 6, 361, 1824, 1826] S S7 := by rw [eS7]; exact am_same_set hs6 g6_2 (by decide)
      have g7_1 : am_nth S7 1 = some (9, some (.inr (0, [.ref 2, .ref 7, .ref 361, .ref 363, .ref 366, .ref 372, .ref 406, .ref 1824, .int 0]))) := by rw [eS7]; exact am_nth_ne g6_2 (by decide) g6_1
      have g7_2 : am_nth S7 2 = some (6, some (.inr (1, [.ref 3, .int 0, .ref 4, .ref 5, .ref 6, .int 1]))) := by rw [eS7]; exact am_nth_self g6_2
      have g7_4 : am_nth S7 4 = some (1001, some (.inl (.int, 1001, .int 0, [(0, .int 0)]))) := by rw [eS7]; exact am_nth_ne g6_2 (by decide) g6_4
      have g7_5 : am_nth S7 5 = some (1001, some (.inl (.int, 1001, .int 0, [(0, .int 0)]))) := by rw [eS7]; exact am_nth_ne g6_2 (by decide) g6_5
      have g7_6 : am_nth S7 6 = some (1001, some (.inl (.long, 1001, .long 0, [(0, .long 0)]))) := by rw [eS7]; exact am_nth_ne g6_2 (by decide) g6_6
      have g7_361 : am_nth S7 361 = some (10, some (.inr (6, [.ref 2, .ref 7, .ref 362, .int 0, .int 0, .int 0, .int 0, .ref 25, .ref 26, .int 0]))) := by rw [eS7]; exact am_nth_ne g6_2 (by decide) g6_361
      have g7_1824 : am_nth S7 1824 = some (2, some (.inr (5, [.ref 1825, .int 0]))) := by rw [eS7]; exact am_nth_ne g6_2 (by decide) g6_1824
      have g7_1826 : am_nth S7 1826 = some (115, some (.inr (13, [.int 0, .int 0, .ref 1827, .int 0, .ref 1828, .ref 1829, .ref 1830, .ref 1831, .int 0, .ref 1832, .ref 1833, .ref 1834, .ref 1835, .int 0, .ref 1836, .ref 1837, .ref 1838, .ref 1839, .ref 1840, .int 0, .ref 1841, .ref 1842, .ref 1843, .ref 1844, .ref 1845, .ref 1846, .ref 1847, .ref 1848, .int 0, .int 0, .int 0, .int 0, .int 0, .long 0, .int 0, .int 0, .int 0, .ref 1849, .ref 1850, .int 0, .int 0, .int 0, .ref 1851, .int 0, .int 0, .ref 1852, .ref 1853, .int 0, .ref 1854, .ref 1855, .int 0, .int 0, .ref 1856, .int 0, .ref 1857, .int 0, .int 0, .int 0, .ref 1858, .int 0, .ref 1859, .ref 1860, .ref 1861, .ref 1862, .ref 1863, .ref 1864, .ref 1865, .int (-1), .ref 1866, .ref 1867, .ref 1868, .ref 1869, .int 0, .ref 1870, .int (-1), .int 0, .int 0, .int 0, .ref 1871, .ref 1872, .ref 1873, .ref 1874, .ref 1875, .ref 1876, .ref 1877, .ref 1878, .ref 1879, .ref 1880, .ref 1881, .int 0, .ref 1882, .ref 1883, .ref 1884, .int 0, .ref 1885, .int 0, .ref 1886, .int (-1), .ref 1887, .int 0, .ref 1888, .int 0, .ref 1889, .ref 1890, .ref 1891, .ref 1892, .ref 1893, .ref 1894, .ref 1895, .ref 1896, .ref 1897, .ref 1898, .int 0, .int 0, .int 0]))) := by rw [eS7]; exact am_nth_ne g6_2 (by decide) g6_1826
      have g7_0 : am_nth S7 0 = some (6, some (.inl (.int, 6, .int 0, [(0, .int y0), (1, .int y1), (2, .int y2), (3, .int y3), (4, .int y4), (5, .int y5)]))) := by rw [eS7]; exact g6_0
      refine G_ret rfl rfl rfl ?_
      show am_G at_P at_cl at_ty _ mt_27 152 [(3, .int 0), (2, .int 0), (1, .int 0), (0, .ref 2)] [] _ _
      refine G_ret rfl rfl rfl ?_
      show am_G at_P at_cl at_ty _ mt_63 7 [(0, .ref 361), (1, .ref 1824)] [] _ _
      refine G_ps 2 (pc' := 9) (l' := [(0, .ref 361), (1, .ref 1824)]) (st' := [.int 0, .ref 361]) rfl ?_
      refine G_put (i := 69) (ci := 6) (k := 3) (v := .int 0) rfl rfl g7_361 rfl rfl ?_
      obtain ⟨S8, eS8⟩ : ∃ T9 : am_S, T9 = am_set S7 361 (10, some (.inr (6, [.ref 2, .ref 7, .ref 362, .int 0, .int 0, .int 0, .int 0, .ref 25, .ref 26, .int 0]))) := ⟨_, rfl⟩
      show am_G at_P at_cl at_ty _ mt_63 12 [(0, .ref 361), (1, .ref 1824)] [] (am_set S7 361 (10, some (.inr (6, [.ref 2, .ref 7, .ref 362, .int 0, .int 0, .int 0, .int 0, .ref 25, .ref 26, .int 0])))) _
      rw [← eS8]
      have hs8 : am_same [2, 4, 5, 6, 361, 1824, 1826] S S8 := by rw [eS8]; exact am_same_set hs7 g7_361 (by decide)
      have g8_1 : am_nth S8 1 = some (9, some (.inr (0, [.ref 2, .ref 7, .ref 361, .ref 363, .ref 366, .ref 372, .ref 406, .ref 1824, .int 0]))) := by rw [eS8]; exact am_nth_ne g7_361 (by decide) g7_1
      have g8_2 : am_nth S8 2 = some (6, some (.inr (1, [.ref 3, .int 0, .ref 4, .ref 5, .ref 6, .int 1]))) := by rw [eS8]; exact am_nth_ne g7_361 (by decide) g7_2
      have g8_4 : am_nth S8 4 = some (1001, some (.inl (.int, 1001, .int 0, [(0, .int 0)]))) := by rw [eS8]; exact am_nth_ne g7_361 (by decide) g7_4
      have g8_5 : am_nth S8 5 = some (1001, some (.inl (.int, 1001, .int 0, [(0, .int 0)]))) := by rw [eS8]; exact am_nth_ne g7_361 (by decide) g7_5
      have g8_6 : am_nth S8 6 = some (1001, some (.inl (.long, 1001, .long 0, [(0, .long 0)]))) := by rw [eS8]; exact am_nth_ne g7_361 (by decide) g7_6
      have g8_361 : am_nth S8 361 = some (10, some (.inr (6, [.ref 2, .ref 7, .ref 362, .int 0, .int 0, .int 0, .int 0, .ref 25, .ref 26, .int 0]))) := by rw [eS8]; exact am_nth_self g7_361
      have g8_1824 : am_nth S8 1824 = some (2, some (.inr (5, [.ref 1825, .int 0]))) := by rw [eS8]; exact am_nth_ne g7_361 (by decide) g7_1824
      have g8_1826 : am_nth S8 1826 = some (115, some (.inr (13, [.int 0, .int 0, .ref 1827, .int 0, .ref 1828, .ref 1829, .ref 1830, .ref 1831, .int 0, .ref 1832, .ref 1833, .ref 1834, .ref 1835, .int 0, .ref 1836, .ref 1837, .ref 1838, .ref 1839, .ref 1840, .int 0, .ref 1841, .ref 1842, .ref 1843, .ref 1844, .ref 1845, .ref 1846, .ref 1847, .ref 1848, .int 0, .int 0, .int 0, .int 0, .int 0, .long 0, .int 0, .int 0, .int 0, .ref 1849, .ref 1850, .int 0, .int 0, .int 0, .ref 1851, .int 0, .int 0, .ref 1852, .ref 1853, .int 0, .ref 1854, .ref 1855, .int 0, .int 0, .ref 1856, .int 0, .ref 1857, .int 0, .int 0, .int 0, .ref 1858, .int 0, .ref 1859, .ref 1860, .ref 1861, .ref 1862, .ref 1863, .ref 1864, .ref 1865, .int (-1), .ref 1866, .ref 1867, .ref 1868, .ref 1869, .int 0, .ref 1870, .int (-1), .int 0, .int 0, .int 0, .ref 1871, .ref 1872, .ref 1873, .ref 1874, .ref 1875, .ref 1876, .ref 1877, .ref 1878, .ref 1879, .ref 1880, .ref 1881, .int 0, .ref 1882, .ref 1883, .ref 1884, .int 0, .ref 1885, .int 0, .ref 1886, .int (-1), .ref 1887, .int 0, .ref 1888, .int 0, .ref 1889, .ref 1890, .ref 1891, .ref 1892, .ref 1893, .ref 1894, .ref 1895, .ref 1896, .ref 1897, .ref 1898, .int 0, .int 0, .int 0]))) := by rw [eS8]; exact am_nth_ne g7_361 (by decide) g7_1826
      have g8_0 : am_nth S8 0 = some (6, some (.inl (.int, 6, .int 0, [(0, .int y0), (1, .int y1), (2, .int y2), (3, .int y3), (4, .int y4), (5, .int y5)]))) := by rw [eS8]; exact g7_0
      refine G_ps 2 (pc' := 14) (l' := [(0, .ref 361), (1, .ref 1824)]) (st' := [.int 2, .ref 361]) rfl ?_
      refine G_put (i := 102) (ci := 6) (k := 6) (v := .int 2) rfl rfl g8_361 rfl rfl ?_
      obtain ⟨S9, eS9⟩ : ∃ T9 : am_S, T9 = am_set S8 361 (10, some (.inr (6, [.ref 2, .ref 7, .ref 362, .int 0, .int 0, .int 0, .int 2, .ref 25, .ref 26, .int 0]))) := ⟨_, rfl⟩
      show am_G at_P at_cl at_ty _ mt_63 17 [(0, .ref 361), (1, .ref 1824)] [] (am_set S8 361 (10, some (.inr (6, [.ref 2, .ref 7, .ref 362, .int 0, .int 0, .int 0, .int 2, .ref 25, .ref 26, .int 0])))) _
      rw [← eS9]
      have hs9 : am_same [2, 4, 5, 6, 361, 1824, 1826] S S9 := by rw [eS9]; exact am_same_set hs8 g8_361 (by decide)
      have g9_1 : am_nth S9 1 = some (9, some (.inr (0, [.ref 2, .ref 7, .ref 361, .ref 363, .ref 366, .ref 372, .ref 406, .ref 1824, .int 0]))) := by rw [eS9]; exact am_nth_ne g8_361 (by decide) g8_1
      have g9_2 : am_nth S9 2 = some (6, some (.inr (1, [.ref 3, .int 0, .ref 4, .ref 5, .ref 6, .int 1]))) := by rw [eS9]; exact am_nth_ne g8_361 (by decide) g8_2
      have g9_4 : am_nth S9 4 = some (1001, some (.inl (.int, 1001, .int 0, [(0, .int 0)]))) := by rw [eS9]; exact am_nth_ne g8_361 (by decide) g8_4
      have g9_5 : am_nth S9 5 = some (1001, some (.inl (.int, 1001, .int 0, [(0, .int 0)]))) := by rw [eS9]; exact am_nth_ne g8_361 (by decide) g8_5
      have g9_6 : am_nth S9 6 = some (1001, some (.inl (.long, 1001, .long 0, [(0, .long 0)]))) := by rw [eS9]; exact am_nth_ne g8_361 (by decide) g8_6
      have g9_361 : am_nth S9 361 = some (10, some (.inr (6, [.ref 2, .ref 7, .ref 362, .int 0, .int 0, .int 0, .int 2, .ref 25, .ref 26, .int 0]))) := by rw [eS9]; exact am_nth_self g8_361
      have g9_1824 : am_nth S9 1824 = some (2, some (.inr (5, [.ref 1825, .int 0]))) := by rw [eS9]; exact am_nth_ne g8_361 (by decide) g8_1824
      have g9_1826 : am_nth S9 1826 = some (115, some (.inr (13, [.int 0, .int 0, .ref 1827, .int 0, .ref 1828, .ref 1829, .ref 1830, .ref 1831, .int 0, .ref 1832, .ref 1833, .ref 1834, .ref 1835, .int 0, .ref 1836, .ref 1837, .ref 1838, .ref 1839, .ref 1840, .int 0, .ref 1841, .ref 1842, .ref 1843, .ref 1844, .ref 1845, .ref 1846, .ref 1847, .ref 1848, .int 0, .int 0, .int 0, .int 0, .int 0, .long 0, .int 0, .int 0, .int 0, .ref 1849, .ref 1850, .int 0, .int 0, .int 0, .ref 1851, .int 0, .int 0, .ref 1852, .ref 1853, .int 0, .ref 1854, .ref 1855, .int 0, .int 0, .ref 1856, .int 0, .ref 1857, .int 0, .int 0, .int 0, .ref 1858, .int 0, .ref 1859, .ref 1860, .ref 1861, .ref 1862, .ref 1863, .ref 1864, .ref 1865, .int (-1), .ref 1866, .ref 1867, .ref 1868, .ref 1869, .int 0, .ref 1870, .int (-1), .int 0, .int 0, .int 0, .ref 1871, .ref 1872, .ref 1873, .ref 1874, .ref 1875, .ref 1876, .ref 1877, .ref 1878, .ref 1879, .ref 1880, .ref 1881, .int 0, .ref 1882, .ref 1883, .ref 1884, .int 0, .ref 1885, .int 0, .ref 1886, .int (-1), .ref 1887, .int 0, .ref 1888, .int 0, .ref 1889, .ref 1890, .ref 1891, .ref 1892, .ref 1893, .ref 1894, .ref 1895, .ref 1896, .ref 1897, .ref 1898, .int 0, .int 0, .int 0]))) := by rw [eS9]; exact am_nth_ne g8_361 (by decide) g8_1826
      have g9_0 : am_nth S9 0 = some (6, some (.inl (.int, 6, .int 0, [(0, .int y0), (1, .int y1), (2, .int y2), (3, .int y3), (4, .int y4), (5, .int y5)]))) := by rw [eS9]; exact g8_0
      refine G_ps 2 (pc' := 19) (l' := [(0, .ref 361), (1, .ref 1824)]) (st' := [.ref 1824, .ref 361]) rfl ?_
      refine G_cv (i := 105) (j := 81) (b := 361) (M' := mt_81) (xs := [.ref 1824]) (rest := []) rfl rfl rfl rfl g9_361 (Nat.le_of_ble_eq_true rfl) (Nat.le_of_ble_eq_true rfl) ?_ (fun _ _ _ _ h9 => h9)
      show am_G at_P at_cl at_ty _ mt_81 0 [(0, .ref 361), (1, .ref 1824)] [] _ _
      refine G_ps 2 (pc' := 2) (l' := [(0, .ref 361), (1, .ref 1824)]) (st' := [.ref 1824, .ref 361]) rfl ?_
      refine G_put (i := 39) (ci := 6) (k := 8) (v := .ref 1824) rfl rfl g9_361 rfl rfl ?_
      obtain ⟨S10, eS10⟩ : ∃ T9 : am_S, T9 = am_set S9 361 (10, some (.inr (6, [.ref 2, .ref 7, .ref 362, .int 0, .int 0, .int 0, .int 2, .ref 25, .ref 1824, .int 0]))) := ⟨_, rfl⟩
      show am_G at_P at_cl at_ty _ mt_81 5 [(0, .ref 361), (1, .ref 1824)] [] (am_set S9 361 (10, some (.inr (6, [.ref 2, .ref 7, .ref 362, .int 0, .int 0, .int 0, .int 2, .ref 25, .ref 1824, .int 0])))) _
      rw [← eS10]
      have hs10 : am_same [2, 4, 5, 6, 361, 1824, 1826] S S10 := by rw [eS10]; exact am_same_set hs9 g9_361 (by decide)
      have g10_1 : am_nth S10 1 = some (9, some (.inr (0, [.ref 2, .ref 7, .ref 361, .ref 363, .ref 366, .ref 372, .ref 406, .ref 1824, .int 0]))) := by rw [eS10]; exact am_nth_ne g9_361 (by decide) g9_1
      have g10_2 : am_nth S10 2 = some (6, some (.inr (1, [.ref 3, .int 0, .ref 4, .ref 5, .ref 6, .int 1]))) := by rw [eS10]; exact am_nth_ne g9_361 (by decide) g9_2
      have g10_4 : am_nth S10 4 = some (1001, some (.inl (.int, 1001, .int 0, [(0, .int 0)]))) := by rw [eS10]; exact am_nth_ne g9_361 (by decide) g9_4
      have g10_5 : am_nth S10 5 = some (1001, some (.inl (.int, 1001, .int 0, [(0, .int 0)]))) := by rw [eS10]; exact am_nth_ne g9_361 (by decide) g9_5
      have g10_6 : am_nth S10 6 = some (1001, some (.inl (.long, 1001, .long 0, [(0, .long 0)]))) := by rw [eS10]; exact am_nth_ne g9_361 (by decide) g9_6
      have g10_361 : am_nth S10 361 = some (10, some (.inr (6, [.ref 2, .ref 7, .ref 362, .int 0, .int 0, .int 0, .int 2, .ref 25, .ref 1824, .int 0]))) := by rw [eS10]; exact am_nth_self g9_361
      have g10_1824 : am_nth S10 1824 = some (2, some (.inr (5, [.ref 1825, .int 0]))) := by rw [eS10]; exact am_nth_ne g9_361 (by decide) g9_1824
      have g10_1826 : am_nth S10 1826 = some (115, some (.inr (13, [.int 0, .int 0, .ref 1827, .int 0, .ref 1828, .ref 1829, .ref 1830, .ref 1831, .int 0, .ref 1832, .ref 1833, .ref 1834, .ref 1835, .int 0, .ref 1836, .ref 1837, .ref 1838, .ref 1839, .ref 1840, .int 0, .ref 1841, .ref 1842, .ref 1843, .ref 1844, .ref 1845, .ref 1846, .ref 1847, .ref 1848, .int 0, .int 0, .int 0, .int 0, .int 0, .long 0, .int 0, .int 0, .int 0, .ref 1849, .ref 1850, .int 0, .int 0, .int 0, .ref 1851, .int 0, .int 0, .ref 1852, .ref 1853, .int 0, .ref 1854, .ref 1855, .int 0, .int 0, .ref 1856, .int 0, .ref 1857, .int 0, .int 0, .int 0, .ref 1858, .int 0, .ref 1859, .ref 1860, .ref 1861, .ref 1862, .ref 1863, .ref 1864, .ref 1865, .int (-1), .ref 1866, .ref 1867, .ref 1868, .ref 1869, .int 0, .ref 1870, .int (-1), .int 0, .int 0, .int 0, .ref 1871, .ref 1872, .ref 1873, .ref 1874, .ref 1875, .ref 1876, .ref 1877, .ref 1878, .ref 1879, .ref 1880, .ref 1881, .int 0, .ref 1882, .ref 1883, .ref 1884, .int 0, .ref 1885, .int 0, .ref 1886, .int (-1), .ref 1887, .int 0, .ref 1888, .int 0, .ref 1889, .ref 1890, .ref 1891, .ref 1892, .ref 1893, .ref 1894, .ref 1895, .ref 1896, .ref 1897, .ref 1898, .int 0, .int 0, .int 0]))) := by rw [eS10]; exact am_nth_ne g9_361 (by decide) g9_1826
      have g10_0 : am_nth S10 0 = some (6, some (.inl (.int, 6, .int 0, [(0, .int y0), (1, .int y1), (2, .int y2), (3, .int y3), (4, .int y4), (5, .int y5)]))) := by rw [eS10]; exact g9_0
      refine G_ps 1 (pc' := 6) (l' := [(0, .ref 361), (1, .ref 1824)]) (st' := [.ref 361]) rfl ?_
      refine G_get (i := 39) (ci := 6) (k := 8) (v := .ref 1824) rfl rfl g10_361 rfl ?_
      show am_G at_P at_cl at_ty _ mt_81 9 [(0, .ref 361), (1, .ref 1824)] [.ref 1824] _ _
      refine G_ps 1 (pc' := 10) (l' := [(0, .ref 361), (1, .ref 1824)]) (st' := [.int 0, .ref 1824]) rfl ?_
      refine G_put (i := 219) (ci := 5) (k := 1) (v := .int 0) rfl rfl g10_1824 rfl rfl ?_
      obtain ⟨S11, eS11⟩ : ∃ T9 : am_S, T9 = am_set S10 1824 (2, some (.inr (5, [.ref 1825, .int 0]))) := ⟨_, rfl⟩
      show am_G at_P at_cl at_ty _ mt_81 13 [(0, .ref 361), (1, .ref 1824)] [] (am_set S10 1824 (2, some (.inr (5, [.ref 1825, .int 0])))) _
      rw [← eS11]
      have hs11 : am_same [2, 4, 5, 6, 361, 1824, 1826] S S11 := by rw [eS11]; exact am_same_set hs10 g10_1824 (by decide)
      have g11_1 : am_nth S11 1 = some (9, some (.inr (0, [.ref 2, .ref 7, .ref 361, .ref 363, .ref 366, .ref 372, .ref 406, .ref 1824, .int 0]))) := by rw [eS11]; exact am_nth_ne g10_1824 (by decide) g10_1
      have g11_2 : am_nth S11 2 = some (6, some (.inr (1, [.ref 3, .int 0, .ref 4, .ref 5, .ref 6, .int 1]))) := by rw [eS11]; exact am_nth_ne g10_1824 (by decide) g10_2
      have g11_4 : am_nth S11 4 = some (1001, some (.inl (.int, 1001, .int 0, [(0, .int 0)]))) := by rw [eS11]; exact am_nth_ne g10_1824 (by decide) g10_4
      have g11_5 : am_nth S11 5 = some (1001, some (.inl (.int, 1001, .int 0, [(0, .int 0)]))) := by rw [eS11]; exact am_nth_ne g10_1824 (by decide) g10_5
      have g11_6 : am_nth S11 6 = some (1001, some (.inl (.long, 1001, .long 0, [(0, .long 0)]))) := by rw [eS11]; exact am_nth_ne g10_1824 (by decide) g10_6
      have g11_361 : am_nth S11 361 = some (10, some (.inr (6, [.ref 2, .ref 7, .ref 362, .int 0, .int 0, .int 0, .int 2, .ref 25, .ref 1824, .int 0]))) := by rw [eS11]; exact am_nth_ne g10_1824 (by decide) g10_361
      have g11_1824 : am_nth S11 1824 = some (2, some (.inr (5, [.ref 1825, .int 0]))) := by rw [eS11]; exact am_nth_self g10_1824
      have g11_1826 : am_nth S11 1826 = some (115, some (.inr (13, [.int 0, .int 0, .ref 1827, .int 0, .ref 1828, .ref 1829, .ref 1830, .ref 1831, .int 0, .ref 1832, .ref 1833, .ref 1834, .ref 1835, .int 0, .ref 1836, .ref 1837, .ref 1838, .ref 1839, .ref 1840, .int 0, .ref 1841, .ref 1842, .ref 1843, .ref 1844, .ref 1845, .ref 1846, .ref 1847, .ref 1848, .int 0, .int 0, .int 0, .int 0, .int 0, .long 0, .int 0, .int 0, .int 0, .ref 1849, .ref 1850, .int 0, .int 0, .int 0, .ref 1851, .int 0, .int 0, .ref 1852, .ref 1853, .int 0, .ref 1854, .ref 1855, .int 0, .int 0, .ref 1856, .int 0, .ref 1857, .int 0, .int 0, .int 0, .ref 1858, .int 0, .ref 1859, .ref 1860, .ref 1861, .ref 1862, .ref 1863, .ref 1864, .ref 1865, .int (-1), .ref 1866, .ref 1867, .ref 1868, .ref 1869, .int 0, .ref 1870, .int (-1), .int 0, .int 0, .int 0, .ref 1871, .ref 1872, .ref 1873, .ref 1874, .ref 1875, .ref 1876, .ref 1877, .ref 1878, .ref 1879, .ref 1880, .ref 1881, .int 0, .ref 1882, .ref 1883, .ref 1884, .int 0, .ref 1885, .int 0, .ref 1886, .int (-1), .ref 1887, .int 0, .ref 1888, .int 0, .ref 1889, .ref 1890, .ref 1891, .ref 1892, .ref 1893, .ref 1894, .ref 1895, .ref 1896, .ref 1897, .ref 1898, .int 0, .int 0, .int 0]))) := by rw [eS11]; exact am_nth_ne g10_1824 (by decide) g10_1826
      have g11_0 : am_nth S11 0 = some (6, some (.inl (.int, 6, .int 0, [(0, .int y0), (1, .int y1), (2, .int y2), (3, .int y3), (4, .int y4), (5, .int y5)]))) := by rw [eS11]; exact g10_0
      refine G_ret rfl rfl rfl ?_
      show am_G at_P at_cl at_ty _ mt_63 22 [(0, .ref 361), (1, .ref 1824)] [] _ _
      refine G_ps 4 (pc' := 26) (l' := [(0, .ref 361), (1, .ref 1824)]) (st' := [.int 0, .int 0, .int (-1), .ref 361]) rfl ?_
      refine G_cv (i := 109) (j := 73) (b := 361) (M' := mt_73) (xs := [.int 0, .int 0, .int (-1)]) (rest := []) rfl rfl rfl rfl g11_361 (Nat.le_of_ble_eq_true rfl) (Nat.le_of_ble_eq_true rfl) ?_ (fun _ _ _ _ h9 => h9)
      show am_G at_P at_cl at_ty _ mt_73 0 [(0, .ref 361), (1, .int (-1)), (2, .int 0), (3, .int 0)] [] _ _
      refine G_ps 1 (pc' := 1) (l' := [(0, .ref 361), (1, .int (-1)), (2, .int 0), (3, .int 0)]) (st' := [.ref 361]) rfl ?_
      refine G_cv (i := 72) (j := 83) (b := 361) (M' := mt_83) (xs := []) (rest := []) rfl rfl rfl rfl g11_361 (Nat.le_of_ble_eq_true rfl) (Nat.le_of_ble_eq_true rfl) ?_ (fun _ _ _ _ h9 => h9)
      show am_G at_P at_cl at_ty _ mt_83 0 [(0, .ref 361)] [] _ _
      refine G_ps 1 (pc' := 1) (l' := [(0, .ref 361)]) (st' := [.ref 361]) rfl ?_
      refine G_get (i := 69) (ci := 6) (k := 3) (v := .int 0) rfl rfl g11_361 rfl ?_
      show am_G at_P at_cl at_ty _ mt_83 4 [(0, .ref 361)] [.int 0] _ _
      refine G_ps 2 (pc' := 8) (l' := [(0, .ref 361)]) (st' := [.ref 361]) rfl ?_
      refine G_get (i := 69) (ci := 6) (k := 3) (v := .int 0) rfl rfl g11_361 rfl ?_
      show am_G at_P at_cl at_ty _ mt_83 11 [(0, .ref 361)] [.int 0] _ _
      refine G_ps 1 (pc' := 12) (l' := [(0, .ref 361)]) (st' := [.ref 361, .int 0]) rfl ?_
      refine G_get (i := 15) (ci := 6) (k := 0) (v := .ref 2) rfl rfl g11_361 rfl ?_
      show am_G at_P at_cl at_ty _ mt_83 15 [(0, .ref 361)] [.ref 2, .int 0] _ _
      refine G_get (i := 232) (ci := 1) (k := 5) (v := .int 1) rfl rfl g11_2 rfl ?_
      show am_G at_P at_cl at_ty _ mt_83 18 [(0, .ref 361)] [.int 1, .int 0] _ _
      refine G_ps 2 (pc' := 22) (l' := [(0, .ref 361)]) (st' := [.ref 361]) rfl ?_
      refine G_get (i := 15) (ci := 6) (k := 0) (v := .ref 2) rfl rfl g11_361 rfl ?_
      show am_G at_P at_cl at_ty _ mt_83 25 [(0, .ref 361)] [.ref 2] _ _
      refine G_get (i := 235) (ci := 1) (k := 2) (v := .ref 4) rfl rfl g11_2 rfl ?_
      show am_G at_P at_cl at_ty _ mt_83 28 [(0, .ref 361)] [.ref 4] _ _
      refine G_ps 1 (pc' := 29) (l' := [(0, .ref 361)]) (st' := [.ref 361, .ref 4]) rfl ?_
      refine G_get (i := 69) (ci := 6) (k := 3) (v := .int 0) rfl rfl g11_361 rfl ?_
      show am_G at_P at_cl at_ty _ mt_83 32 [(0, .ref 361)] [.int 0, .ref 4] _ _
      refine G_ild (i := 0) rfl g11_4 (by decide) ?_
      show am_G at_P at_cl at_ty _ mt_83 33 [(0, .ref 361)] [.int 0] _ _
      refine G_ps 1 (pc' := 37) (l' := [(0, .ref 361)]) (st' := [.int 0]) rfl ?_
      refine G_ret rfl rfl rfl ?_
      show am_G at_P at_cl at_ty _ mt_73 4 [(0, .ref 361), (1, .int (-1)), (2, .int 0), (3, .int 0)] [.int 0] _ _
      refine G_ps 2 (pc' := 194) (l' := [(0, .ref 361), (1, .int (-1)), (2, .int 0), (3, .int 0)]) (st' := [.ref 361]) rfl ?_
      refine G_cv (i := 89) (j := 85) (b := 361) (M' := mt_85) (xs := []) (rest := []) rfl rfl rfl rfl g11_361 (Nat.le_of_ble_eq_true rfl) (Nat.le_of_ble_eq_true rfl) ?_ (fun _ _ _ _ h9 => h9)
      show am_G at_P at_cl at_ty _ mt_85 0 [(0, .ref 361)] [] _ _
      refine G_ps 2 (pc' := 2) (l' := [(0, .ref 361)]) (st' := [.ref 361, .ref 361]) rfl ?_
      refine G_cv (i := 72) (j := 83) (b := 361) (M' := mt_83) (xs := []) (rest := [.ref 361]) rfl rfl rfl rfl g11_361 (Nat.le_of_ble_eq_true rfl) (Nat.le_of_ble_eq_true rfl) ?_ (fun _ _ _ _ h9 => h9)
      show am_G at_P at_cl at_ty _ mt_83 0 [(0, .ref 361)] [] _ _
      refine G_ps 1 (pc' := 1) (l' := [(0, .ref 361)]) (st' := [.ref 361]) rfl ?_
      refine G_get (i := 69) (ci := 6) (k := 3) (v := .int 0) rfl rfl g11_361 rfl ?_
      show am_G at_P at_cl at_ty _ mt_83 4 [(0, .ref 361)] [.int 0] _ _
      refine G_ps 2 (pc' := 8) (l' := [(0, .ref 361)]) (st' := [.ref 361]) rfl ?_
      refine G_get (i := 69) (ci := 6) (k := 3) (v := .int 0) rfl rfl g11_361 rfl ?_
      show am_G at_P at_cl at_ty _ mt_83 11 [(0, .ref 361)] [.int 0] _ _
      refine G_ps 1 (pc' := 12) (l' := [(0, .ref 361)]) (st' := [.ref 361, .int 0]) rfl ?_
      refine G_get (i := 15) (ci := 6) (k := 0) (v := .ref 2) rfl rfl g11_361 rfl ?_
      show am_G at_P at_cl at_ty _ mt_83 15 [(0, .ref 361)] [.ref 2, .int 0] _ _
      refine G_get (i := 232) (ci := 1) (k := 5) (v := .int 1) rfl rfl g11_2 rfl ?_
      show am_G at_P at_cl at_ty _ mt_83 18 [(0, .ref 361)] [.int 1, .int 0] _ _
      refine G_ps 2 (pc' := 22) (l' := [(0, .ref 361)]) (st' := [.ref 361]) rfl ?_
      refine G_get (i := 15) (ci := 6) (k := 0) (v := .ref 2) rfl rfl g11_361 rfl ?_
      show am_G at_P at_cl at_ty _ mt_83 25 [(0, .ref 361)] [.ref 2] _ _
      refine G_get (i := 235) (ci := 1) (k := 2) (v := .ref 4) rfl rfl g11_2 rfl ?_
      show am_G at_P at_cl at_ty _ mt_83 28 [(0, .ref 361)] [.ref 4] _ _
      refine G_ps 1 (pc' := 29) (l' := [(0, .ref 361)]) (st' := [.ref 361, .ref 4]) rfl ?_
      refine G_get (i := 69) (ci := 6) (k := 3) (v := .int 0) rfl rfl g11_361 rfl ?_
      show am_G at_P at_cl at_ty _ mt_83 32 [(0, .ref 361)] [.int 0, .ref 4] _ _
      refine G_ild (i := 0) rfl g11_4 (by decide) ?_
      show am_G at_P at_cl at_ty _ mt_83 33 [(0, .ref 361)] [.int 0] _ _
      refine G_ps 1 (pc' := 37) (l' := [(0, .ref 361)]) (st' := [.int 0]) rfl ?_
      refine G_ret rfl rfl rfl ?_
      show am_G at_P at_cl at_ty _ mt_85 5 [(0, .ref 361)] [.int 0, .ref 361] _ _
      refine G_ps 3 (pc' := 14) (l' := [(0, .ref 361)]) (st' := [.int 2, .ref 361]) rfl ?_
      refine G_cv (i := 128) (j := 86) (b := 361) (M' := mt_86) (xs := [.int 2]) (rest := []) rfl rfl rfl rfl g11_361 (Nat.le_of_ble_eq_true rfl) (Nat.le_of_ble_eq_true rfl) ?_ (fun _ _ _ _ h9 => h9)
      show am_G at_P at_cl at_ty _ mt_86 0 [(0, .ref 361), (1, .int 2)] [] _ _
      refine G_ps 2 (pc' := 2) (l' := [(0, .ref 361), (1, .int 2)]) (st' := [.int 2, .ref 361]) rfl ?_
      refine G_put (i := 239) (ci := 6) (k := 4) (v := .int 2) rfl rfl g11_361 rfl rfl ?_
      obtain ⟨S12, eS12⟩ : ∃ T9 : am_S, T9 = am_set S11 361 (10, some (.inr (6, [.ref 2, .ref 7, .ref 362, .int 0, .int 2, .int 0, .int 2, .ref 25, .ref 1824, .int 0]))) := ⟨_, rfl⟩
      show am_G at_P at_cl at_ty _ mt_86 5 [(0, .ref 361), (1, .int 2)] [] (am_set S11 361 (10, some (.inr (6, [.ref 2, .ref 7, .ref 362, .int 0, .int 2, .int 0, .int 2, .ref 25, .ref 1824, .int 0])))) _
      rw [← eS12]
      have hs12 : am_same [2, 4, 5, 6, 361, 1824, 1826] S S12 := by rw [eS12]; exact am_same_set hs11 g11_361 (by decide)
      have g12_1 : am_nth S12 1 = some (9, some (.inr (0, [.ref 2, .ref 7, .ref 361, .ref 363, .ref 366, .ref 372, .ref 406, .ref 1824, .int 0]))) := by rw [eS12]; exact am_nth_ne g11_361 (by decide) g11_1
      have g12_2 : am_nth S12 2 = some (6, some (.inr (1, [.ref 3, .int 0, .ref 4, .ref 5, .ref 6, .int 1]))) := by rw [eS12]; exact am_nth_ne g11_361 (by decide) g11_2
      have g12_4 : am_nth S12 4 = some (1001, some (.inl (.int, 1001, .int 0, [(0, .int 0)]))) := by rw [eS12]; exact am_nth_ne g11_361 (by decide) g11_4
      have g12_5 : am_nth S12 5 = some (1001, some (.inl (.int, 1001, .int 0, [(0, .int 0)]))) := by rw [eS12]; exact am_nth_ne g11_361 (by decide) g11_5
      have g12_6 : am_nth S12 6 = some (1001, some (.inl (.long, 1001, .long 0, [(0, .long 0)]))) := by rw [eS12]; exact am_nth_ne g11_361 (by decide) g11_6
      have g12_361 : am_nth S12 361 = some (10, some (.inr (6, [.ref 2, .ref 7, .ref 362, .int 0, .int 2, .int 0, .int 2, .ref 25, .ref 1824, .int 0]))) := by rw [eS12]; exact am_nth_self g11_361
      have g12_1824 : am_nth S12 1824 = some (2, some (.inr (5, [.ref 1825, .int 0]))) := by rw [eS12]; exact am_nth_ne g11_361 (by decide) g11_1824
      have g12_1826 : am_nth S12 1826 = some (115, some (.inr (13, [.int 0, .int 0, .ref 1827, .int 0, .ref 1828, .ref 1829, .ref 1830, .ref 1831, .int 0, .ref 1832, .ref 1833, .ref 1834, .ref 1835, .int 0, .ref 1836, .ref 1837, .ref 1838, .ref 1839, .ref 1840, .int 0, .ref 1841, .ref 1842, .ref 1843, .ref 1844, .ref 1845, .ref 1846, .ref 1847, .ref 1848, .int 0, .int 0, .int 0, .int 0, .int 0, .long 0, .int 0, .int 0, .int 0, .ref 1849, .ref 1850, .int 0, .int 0, .int 0, .ref 1851, .int 0, .int 0, .ref 1852, .ref 1853, .int 0, .ref 1854, .ref 1855, .int 0, .int 0, .ref 1856, .int 0, .ref 1857, .int 0, .int 0, .int 0, .ref 1858, .int 0, .ref 1859, .ref 1860, .ref 1861, .ref 1862, .ref 1863, .ref 1864, .ref 1865, .int (-1), .ref 1866, .ref 1867, .ref 1868, .ref 1869, .int 0, .ref 1870, .int (-1), .int 0, .int 0, .int 0, .ref 1871, .ref 1872, .ref 1873, .ref 1874, .ref 1875, .ref 1876, .ref 1877, .ref 1878, .ref 1879, .ref 1880, .ref 1881, .int 0, .ref 1882, .ref 1883, .ref 1884, .int 0, .ref 1885, .int 0, .ref 1886, .int (-1), .ref 1887, .int 0, .ref 1888, .int 0, .ref 1889, .ref 1890, .ref 1891, .ref 1892, .ref 1893, .ref 1894, .ref 1895, .ref 1896, .ref 1897, .ref 1898, .int 0, .int 0, .int 0]))) := by rw [eS12]; exact am_nth_ne g11_361 (by decide) g11_1826
      have g12_0 : am_nth S12 0 = some (6, some (.inl (.int, 6, .int 0, [(0, .int y0), (1, .int y1), (2, .int y2), (3, .int y3), (4, .int y4), (5, .int y5)]))) := by rw [eS12]; exact g11_0
      refine G_ps 2 (pc' := 7) (l' := [(0, .ref 361), (1, .int 2)]) (st' := [.ref 361, .ref 361]) rfl ?_
      refine G_get (i := 69) (ci := 6) (k := 3) (v := .int 0) rfl rfl g12_361 rfl ?_
      show am_G at_P at_cl at_ty _ mt_86 10 [(0, .ref 361), (1, .int 2)] [.int 0, .ref 361] _ _
      refine G_ps 2 (pc' := 14) (l' := [(0, .ref 361), (1, .int 2)]) (st' := [.ref 361, .ref 361]) rfl ?_
      refine G_get (i := 69) (ci := 6) (k := 3) (v := .int 0) rfl rfl g12_361 rfl ?_
      show am_G at_P at_cl at_ty _ mt_86 17 [(0, .ref 361), (1, .int 2)] [.int 0, .ref 361] _ _
      refine G_ps 1 (pc' := 18) (l' := [(0, .ref 361), (1, .int 2)]) (st' := [.ref 361, .int 0, .ref 361]) rfl ?_
      refine G_get (i := 15) (ci := 6) (k := 0) (v := .ref 2) rfl rfl g12_361 rfl ?_
      show am_G at_P at_cl at_ty _ mt_86 21 [(0, .ref 361), (1, .int 2)] [.ref 2, .int 0, .ref 361] _ _
      refine G_get (i := 232) (ci := 1) (k := 5) (v := .int 1) rfl rfl g12_2 rfl ?_
      show am_G at_P at_cl at_ty _ mt_86 24 [(0, .ref 361), (1, .int 2)] [.int 1, .int 0, .ref 361] _ _
      refine G_ps 2 (pc' := 28) (l' := [(0, .ref 361), (1, .int 2)]) (st' := [.ref 361, .ref 361]) rfl ?_
      refine G_get (i := 15) (ci := 6) (k := 0) (v := .ref 2) rfl rfl g12_361 rfl ?_
      show am_G at_P at_cl at_ty _ mt_86 31 [(0, .ref 361), (1, .int 2)] [.ref 2, .ref 361] _ _
      refine G_get (i := 242) (ci := 1) (k := 3) (v := .ref 5) rfl rfl g12_2 rfl ?_
      show am_G at_P at_cl at_ty _ mt_86 34 [(0, .ref 361), (1, .int 2)] [.ref 5, .ref 361] _ _
      refine G_ps 1 (pc' := 35) (l' := [(0, .ref 361), (1, .int 2)]) (st' := [.ref 361, .ref 5, .ref 361]) rfl ?_
      refine G_get (i := 69) (ci := 6) (k := 3) (v := .int 0) rfl rfl g12_361 rfl ?_
      show am_G at_P at_cl at_ty _ mt_86 38 [(0, .ref 361), (1, .int 2)] [.int 0, .ref 5, .ref 361] _ _
      refine G_ild (i := 0) rfl g12_5 (by decide) ?_
      show am_G at_P at_cl at_ty _ mt_86 39 [(0, .ref 361), (1, .int 2)] [.int 0, .ref 361] _ _
      refine G_ps 1 (pc' := 49) (l' := [(0, .ref 361), (1, .int 2)]) (st' := [.int 0, .ref 361]) rfl ?_
      refine G_put (i := 96) (ci := 6) (k := 5) (v := .int 0) rfl rfl g12_361 rfl rfl ?_
      obtain ⟨S13, eS13⟩ : ∃ T9 : am_S, T9 = am_set S12 361 (10, some (.inr (6, [.ref 2, .ref 7, .ref 362, .int 0, .int 2, .int 0, .int 2, .ref 25, .ref 1824, .int 0]))) := ⟨_, rfl⟩
      show am_G at_P at_cl at_ty _ mt_86 52 [(0, .ref 361), (1, .int 2)] [] (am_set S12 361 (10, some (.inr (6, [.ref 2, .ref 7, .ref 362, .int 0, .int 2, .int 0, .int 2, .ref 25, .ref 1824, .int 0])))) _
      rw [← eS13]
      have hs13 : am_same [2, 4, 5, 6, 361, 1824, 1826] S S13 := by rw [eS13]; exact am_same_set hs12 g12_361 (by decide)
      have g13_1 : am_nth S13 1 = some (9, some (.inr (0, [.ref 2, .ref 7, .ref 361, .ref 363, .ref 366, .ref 372, .ref 406, .ref 1824, .int 0]))) := by rw [eS13]; exact am_nth_ne g12_361 (by decide) g12_1
      have g13_2 : am_nth S13 2 = some (6, some (.inr (1, [.ref 3, .int 0, .ref 4, .ref 5, .ref 6, .int 1]))) := by rw [eS13]; exact am_nth_ne g12_361 (by decide) g12_2
      have g13_4 : am_nth S13 4 = some (1001, some (.inl (.int, 1001, .int 0, [(0, .int 0)]))) := by rw [eS13]; exact am_nth_ne g12_361 (by decide) g12_4
      have g13_5 : am_nth S13 5 = some (1001, some (.inl (.int, 1001, .int 0, [(0, .int 0)]))) := by rw [eS13]; exact am_nth_ne g12_361 (by decide) g12_5
      have g13_6 : am_nth S13 6 = some (1001, some (.inl (.long, 1001, .long 0, [(0, .long 0)]))) := by rw [eS13]; exact am_nth_ne g12_361 (by decide) g12_6
      have g13_361 : am_nth S13 361 = some (10, some (.inr (6, [.ref 2, .ref 7, .ref 362, .int 0, .int 2, .int 0, .int 2, .ref 25, .ref 1824, .int 0]))) := by rw [eS13]; exact am_nth_self g12_361
      have g13_1824 : am_nth S13 1824 = some (2, some (.inr (5, [.ref 1825, .int 0]))) := by rw [eS13]; exact am_nth_ne g12_361 (by decide) g12_1824
      have g13_1826 : am_nth S13 1826 = some (115, some (.inr (13, [.int 0, .int 0, .ref 1827, .int 0, .ref 1828, .ref 1829, .ref 1830, .ref 1831, .int 0, .ref 1832, .ref 1833, .ref 1834, .ref 1835, .int 0, .ref 1836, .ref 1837, .ref 1838, .ref 1839, .ref 1840, .int 0, .ref 1841, .ref 1842, .ref 1843, .ref 1844, .ref 1845, .ref 1846, .ref 1847, .ref 1848, .int 0, .int 0, .int 0, .int 0, .int 0, .long 0, .int 0, .int 0, .int 0, .ref 1849, .ref 1850, .int 0, .int 0, .int 0, .ref 1851, .int 0, .int 0, .ref 1852, .ref 1853, .int 0, .ref 1854, .ref 1855, .int 0, .int 0, .ref 1856, .int 0, .ref 1857, .int 0, .int 0, .int 0, .ref 1858, .int 0, .ref 1859, .ref 1860, .ref 1861, .ref 1862, .ref 1863, .ref 1864, .ref 1865, .int (-1), .ref 1866, .ref 1867, .ref 1868, .ref 1869, .int 0, .ref 1870, .int (-1), .int 0, .int 0, .int 0, .ref 1871, .ref 1872, .ref 1873, .ref 1874, .ref 1875, .ref 1876, .ref 1877, .ref 1878, .ref 1879, .ref 1880, .ref 1881, .int 0, .ref 1882, .ref 1883, .ref 1884, .int 0, .ref 1885, .int 0, .ref 1886, .int (-1), .ref 1887, .int 0, .ref 1888, .int 0, .ref 1889, .ref 1890, .ref 1891, .ref 1892, .ref 1893, .ref 1894, .ref 1895, .ref 1896, .ref 1897, .ref 1898, .int 0, .int 0, .int 0]))) := by rw [eS13]; exact am_nth_ne g12_361 (by decide) g12_1826
      have g13_0 : am_nth S13 0 = some (6, some (.inl (.int, 6, .int 0, [(0, .int y0), (1, .int y1), (2, .int y2), (3, .int y3), (4, .int y4), (5, .int y5)]))) := by rw [eS13]; exact g12_0
      refine G_ps 1 (pc' := 53) (l' := [(0, .ref 361), (1, .int 2)]) (st' := [.int 0]) rfl ?_
      refine G_ret rfl rfl rfl ?_
      show am_G at_P at_cl at_ty _ mt_85 17 [(0, .ref 361)] [.int 0] _ _
      refine G_ret rfl rfl rfl ?_
      show am_G at_P at_cl at_ty _ mt_73 197 [(0, .ref 361), (1, .int (-1)), (2, .int 0), (3, .int 0)] [.int 0] _ _
      refine G_ret rfl rfl rfl ?_
      show am_G at_P at_cl at_ty _ mt_63 29 [(0, .ref 361), (1, .ref 1824)] [.int 0] _ _
      refine G_ps 7 (pc' := 58) (l' := [(2, .int 0), (0, .ref 361), (1, .ref 1824)]) (st' := [.ref 361, .int (-1000)]) rfl ?_
      refine G_get (i := 96) (ci := 6) (k := 5) (v := .int 0) rfl rfl g13_361 rfl ?_
      show am_G at_P at_cl at_ty _ mt_63 61 [(2, .int 0), (0, .ref 361), (1, .ref 1824)] [.int 0, .int (-1000)] _ _
      refine G_ps 1 (pc' := 62) (l' := [(2, .int 0), (0, .ref 361), (1, .ref 1824)]) (st' := [.int (-1000)]) rfl ?_
      refine G_ret rfl rfl rfl ?_
      show am_G at_P at_cl at_ty _ mt_7 37 [(2, .int 0), (0, .ref 1), (1, .int y1)] [.int (-1000)] _ _
      refine G_ps 2 (pc' := 39) (l' := [(3, .int (-1000)), (2, .int 0), (0, .ref 1), (1, .int y1)]) (st' := [.ref 1]) rfl ?_
      refine G_get (i := 10) (ci := 0) (k := 0) (v := .ref 2) rfl rfl g13_1 rfl ?_
      show am_G at_P at_cl at_ty _ mt_7 42 [(3, .int (-1000)), (2, .int 0), (0, .ref 1), (1, .int y1)] [.ref 2] _ _
      refine G_ps 1 (pc' := 43) (l' := [(3, .int (-1000)), (2, .int 0), (0, .ref 1), (1, .int y1)]) (st' := [.int 0, .ref 2]) rfl ?_
      refine G_put (i := 73) (ci := 1) (k := 1) (v := .int 0) rfl rfl g13_2 rfl rfl ?_
      obtain ⟨S14, eS14⟩ : ∃ T9 : am_S, T9 = am_set S13 2 (6, some (.inr (1, [.ref 3, .int 0, .ref 4, .ref 5, .ref 6, .int 1]))) := ⟨_, rfl⟩
      show am_G at_P at_cl at_ty _ mt_7 46 [(3, .int (-1000)), (2, .int 0), (0, .ref 1), (1, .int y1)] [] (am_set S13 2 (6, some (.inr (1, [.ref 3, .int 0, .ref 4, .ref 5, .ref 6, .int 1])))) _
      rw [← eS14]
      have hs14 : am_same [2, 4, 5, 6, 361, 1824, 1826] S S14 := by rw [eS14]; exact am_same_set hs13 g13_2 (by decide)
      have g14_1 : am_nth S14 1 = some (9, some (.inr (0, [.ref 2, .ref 7, .ref 361, .ref 363, .ref 366, .ref 372, .ref 406, .ref 1824, .int 0]))) := by rw [eS14]; exact am_nth_ne g13_2 (by decide) g13_1
      have g14_2 : am_nth S14 2 = some (6, some (.inr (1, [.ref 3, .int 0, .ref 4, .ref 5, .ref 6, .int 1]))) := by rw [eS14]; exact am_nth_self g13_2
      have g14_4 : am_nth S14 4 = some (1001, some (.inl (.int, 1001, .int 0, [(0, .int 0)]))) := by rw [eS14]; exact am_nth_ne g13_2 (by decide) g13_4
      have g14_5 : am_nth S14 5 = some (1001, some (.inl (.int, 1001, .int 0, [(0, .int 0)]))) := by rw [eS14]; exact am_nth_ne g13_2 (by decide) g13_5
      have g14_6 : am_nth S14 6 = some (1001, some (.inl (.long, 1001, .long 0, [(0, .long 0)]))) := by rw [eS14]; exact am_nth_ne g13_2 (by decide) g13_6
      have g14_361 : am_nth S14 361 = some (10, some (.inr (6, [.ref 2, .ref 7, .ref 362, .int 0, .int 2, .int 0, .int 2, .ref 25, .ref 1824, .int 0]))) := by rw [eS14]; exact am_nth_ne g13_2 (by decide) g13_361
      have g14_1824 : am_nth S14 1824 = some (2, some (.inr (5, [.ref 1825, .int 0]))) := by rw [eS14]; exact am_nth_ne g13_2 (by decide) g13_1824
      have g14_1826 : am_nth S14 1826 = some (115, some (.inr (13, [.int 0, .int 0, .ref 1827, .int 0, .ref 1828, .ref 1829, .ref 1830, .ref 1831, .int 0, .ref 1832, .ref 1833, .ref 1834, .ref 1835, .int 0, .ref 1836, .ref 1837, .ref 1838, .ref 1839, .ref 1840, .int 0, .ref 1841, .ref 1842, .ref 1843, .ref 1844, .ref 1845, .ref 1846, .ref 1847, .ref 1848, .int 0, .int 0, .int 0, .int 0, .int 0, .long 0, .int 0, .int 0, .int 0, .ref 1849, .ref 1850, .int 0, .int 0, .int 0, .ref 1851, .int 0, .int 0, .ref 1852, .ref 1853, .int 0, .ref 1854, .ref 1855, .int 0, .int 0, .ref 1856, .int 0, .ref 1857, .int 0, .int 0, .int 0, .ref 1858, .int 0, .ref 1859, .ref 1860, .ref 1861, .ref 1862, .ref 1863, .ref 1864, .ref 1865, .int (-1), .ref 1866, .ref 1867, .ref 1868, .ref 1869, .int 0, .ref 1870, .int (-1), .int 0, .int 0, .int 0, .ref 1871, .ref 1872, .ref 1873, .ref 1874, .ref 1875, .ref 1876, .ref 1877, .ref 1878, .ref 1879, .ref 1880, .ref 1881, .int 0, .ref 1882, .ref 1883, .ref 1884, .int 0, .ref 1885, .int 0, .ref 1886, .int (-1), .ref 1887, .int 0, .ref 1888, .int 0, .ref 1889, .ref 1890, .ref 1891, .ref 1892, .ref 1893, .ref 1894, .ref 1895, .ref 1896, .ref 1897, .ref 1898, .int 0, .int 0, .int 0]))) := by rw [eS14]; exact am_nth_ne g13_2 (by decide) g13_1826
      have g14_0 : am_nth S14 0 = some (6, some (.inl (.int, 6, .int 0, [(0, .int y0), (1, .int y1), (2, .int y2), (3, .int y3), (4, .int y4), (5, .int y5)]))) := by rw [eS14]; exact g13_0
      refine G_ps 3 (pc' := 51) (l' := [(3, .int (-1000)), (2, .int 0), (0, .ref 1), (1, .int y1)]) (st' := [.int (-1000)]) rfl ?_
      refine G_ret rfl rfl rfl ?_
      show am_G at_P at_cl at_ty _ mt_law 386 [(4, .int 0), (3, .ref 1899), (2, .ref 1826), (1, .ref 1), (0, .ref 0)] [.int (-1000)] _ _
      refine G_ps 5 (pc' := 392) (l' := [(4, .int 0), (3, .ref 1899), (2, .ref 1826), (1, .ref 1), (0, .ref 0)]) (st' := [.int 1, .ref 0, .ref 1826, .int (-1000)]) rfl ?_
      refine G_ild (i := 1) rfl g14_0 (by decide) ?_
      show am_G at_P at_cl at_ty _ mt_law 393 [(4, .int 0), (3, .ref 1899), (2, .ref 1826), (1, .ref 1), (0, .ref 0)] [.int y1, .ref 1826, .int (-1000)] _ _
      refine G_cv (i := 60) (j := 201) (b := 1826) (M' := mt_201) (xs := [.int y1]) (rest := [.int (-1000)]) rfl rfl rfl rfl g14_1826 (Nat.le_of_ble_eq_true rfl) (Nat.le_of_ble_eq_true rfl) ?_ (fun _ _ _ _ h9 => h9)
      show am_G at_P at_cl at_ty _ mt_201 0 [(0, .ref 1826), (1, .int y1)] [] _ _
      refine G_ps 2 (pc' := if y1 < 0 then 11 else 4) (l' := [(0, .ref 1826), (1, .int y1)]) (st' := []) rfl ?_
      by_cases hc4 : y1 < 0
      · rw [if_pos hc4]
        exfalso
        simp only [Int32.lt_iff_toInt_lt, Int32.le_iff_toInt_le, show (0 : Int32).toInt = 0 by decide, show (2000 : Int32).toInt = 2000 by decide] at hc1 hc3 hc4
        omega
      · rw [if_neg hc4]
        refine G_ps 3 (pc' := if y1 ≤ 2000 then 19 else 11) (l' := [(0, .ref 1826), (1, .int y1)]) (st' := []) rfl ?_
        by_cases hc5 : y1 ≤ 2000
        · rw [if_pos hc5]
          refine G_ps 1 (pc' := 20) (l' := [(0, .ref 1826), (1, .int y1)]) (st' := [.ref 1826]) rfl ?_
          refine G_cv (i := 396) (j := 191) (b := 1826) (M' := mt_191) (xs := []) (rest := []) rfl rfl rfl rfl g14_1826 (Nat.le_of_ble_eq_true rfl) (Nat.le_of_ble_eq_true rfl) ?_ (fun _ _ _ _ h9 => h9)
          show am_G at_P at_cl at_ty _ mt_191 0 [(0, .ref 1826)] [] _ _
          refine G_ps 2 (pc' := 2) (l' := [(0, .ref 1826)]) (st' := [.ref 1826, .ref 1826]) rfl ?_
          refine G_get (i := 393) (ci := 13) (k := 28) (v := .int 0) rfl rfl g14_1826 rfl ?_
          show am_G at_P at_cl at_ty _ mt_191 5 [(0, .ref 1826)] [.int 0, .ref 1826] _ _
          refine G_put (i := 264) (ci := 13) (k := 29) (v := .int 0) rfl rfl g14_1826 rfl rfl ?_
          obtain ⟨S15, eS15⟩ : ∃ T9 : am_S, T9 = am_set S14 1826 (115, some (.inr (13, [.int 0, .int 0, .ref 1827, .int 0, .ref 1828, .ref 1829, .ref 1830, .ref 1831, .int 0, .ref 1832, .ref 1833, .ref 1834, .ref 1835, .int 0, .ref 1836, .ref 1837, .ref 1838, .ref 1839, .ref 1840, .int 0, .ref 1841, .ref 1842, .ref 1843, .ref 1844, .ref 1845, .ref 1846, .ref 1847, .ref 1848, .int 0, .int 0, .int 0, .int 0, .int 0, .long 0, .int 0, .int 0, .int 0, .ref 1849, .ref 1850, .int 0, .int 0, .int 0, .ref 1851, .int 0, .int 0, .ref 1852, .ref 1853, .int 0, .ref 1854, .ref 1855, .int 0, .int 0, .ref 1856, .int 0, .ref 1857, .int 0, .int 0, .int 0, .ref 1858, .int 0, .ref 1859, .ref 1860, .ref 1861, .ref 1862, .ref 1863, .ref 1864, .ref 1865, .int (-1), .ref 1866, .ref 1867, .ref 1868, .ref 1869, .int 0, .ref 1870, .int (-1), .int 0, .int 0, .int 0, .ref 1871, .ref 1872, .ref 1873, .ref 1874, .ref 1875, .ref 1876, .ref 1877, .ref 1878, .ref 1879, .ref 1880, .ref 1881, .int 0, .ref 1882, .ref 1883, .ref 1884, .int 0, .ref 1885, .int 0, .ref 1886, .int (-1), .ref 1887, .int 0, .ref 1888, .int 0, .ref 1889, .ref 1890, .ref 1891, .ref 1892, .ref 1893, .ref 1894, .ref 1895, .ref 1896, .ref 1897, .ref 1898, .int 0, .int 0, .int 0]))) := ⟨_, rfl⟩
          show am_G at_P at_cl at_ty _ mt_191 8 [(0, .ref 1826)] [] (am_set S14 1826 (115, some (.inr (13, [.int 0, .int 0, .ref 1827, .int 0, .ref 1828, .ref 1829, .ref 1830, .ref 1831, .int 0, .ref 1832, .ref 1833, .ref 1834, .ref 1835, .int 0, .ref 1836, .ref 1837, .ref 1838, .ref 1839, .ref 1840, .int 0, .ref 1841, .ref 1842, .ref 1843, .ref 1844, .ref 1845, .ref 1846, .ref 1847, .ref 1848, .int 0, .int 0, .int 0, .int 0, .int 0, .long 0, .int 0, .int 0, .int 0, .ref 1849, .ref 1850, .int 0, .int 0, .int 0, .ref 1851, .int 0, .int 0, .ref 1852, .ref 1853, .int 0, .ref 1854, .ref 1855, .int 0, .int 0, .ref 1856, .int 0, .ref 1857, .int 0, .int 0, .int 0, .ref 1858, .int 0, .ref 1859, .ref 1860, .ref 1861, .ref 1862, .ref 1863, .ref 1864, .ref 1865, .int (-1), .ref 1866, .ref 1867, .ref 1868, .ref 1869, .int 0, .ref 1870, .int (-1), .int 0, .int 0, .int 0, .ref 1871, .ref 1872, .ref 1873, .ref 1874, .ref 1875, .ref 1876, .ref 1877, .ref 1878, .ref 1879, .ref 1880, .ref 1881, .int 0, .ref 1882, .ref 1883, .ref 1884, .int 0, .ref 1885, .int 0, .ref 1886, .int (-1), .ref 1887, .int 0, .ref 1888, .int 0, .ref 1889, .ref 1890, .ref 1891, .ref 1892, .ref 1893, .ref 1894, .ref 1895, .ref 1896, .ref 1897, .ref 1898, .int 0, .int 0, .int 0])))) _
          rw [← eS15]
          have hs15 : am_same [2, 4, 5, 6, 361, 1824, 1826] S S15 := by rw [eS15]; exact am_same_set hs14 g14_1826 (by decide)
          have g15_1 : am_nth S15 1 = some (9, some (.inr (0, [.ref 2, .ref 7, .ref 361, .ref 363, .ref 366, .ref 372, .ref 406, .ref 1824, .int 0]))) := by rw [eS15]; exact am_nth_ne g14_1826 (by decide) g14_1
          have g15_2 : am_nth S15 2 = some (6, some (.inr (1, [.ref 3, .int 0, .ref 4, .ref 5, .ref 6, .int 1]))) := by rw [eS15]; exact am_nth_ne g14_1826 (by decide) g14_2
          have g15_4 : am_nth S15 4 = some (1001, some (.inl (.int, 1001, .int 0, [(0, .int 0)]))) := by rw [eS15]; exact am_nth_ne g14_1826 (by decide) g14_4
          have g15_5 : am_nth S15 5 = some (1001, some (.inl (.int, 1001, .int 0, [(0, .int 0)]))) := by rw [eS15]; exact am_nth_ne g14_1826 (by decide) g14_5
          have g15_6 : am_nth S15 6 = some (1001, some (.inl (.long, 1001, .long 0, [(0, .long 0)]))) := by rw [eS15]; exact am_nth_ne g14_1826 (by decide) g14_6
          have g15_361 : am_nth S15 361 = some (10, some (.inr (6, [.ref 2, .ref 7, .ref 362, .int 0, .int 2, .int 0, .int 2, .ref 25, .ref 1824, .int 0]))) := by rw [eS15]; exact am_nth_ne g14_1826 (by decide) g14_361
          have g15_1824 : am_nth S15 1824 = some (2, some (.inr (5, [.ref 1825, .int 0]))) := by rw [eS15]; exact am_nth_ne g14_1826 (by decide) g14_1824
          have g15_1826 : am_nth S15 1826 = some (115, some (.inr (13, [.int 0, .int 0, .ref 1827, .int 0, .ref 1828, .ref 1829, .ref 1830, .ref 1831, .int 0, .ref 1832, .ref 1833, .ref 1834, .ref 1835, .int 0, .ref 1836, .ref 1837, .ref 1838, .ref 1839, .ref 1840, .int 0, .ref 1841, .ref 1842, .ref 1843, .ref 1844, .ref 1845, .ref 1846, .ref 1847, .ref 1848, .int 0, .int 0, .int 0, .int 0, .int 0, .long 0, .int 0, .int 0, .int 0, .ref 1849, .ref 1850, .int 0, .int 0, .int 0, .ref 1851, .int 0, .int 0, .ref 1852, .ref 1853, .int 0, .ref 1854, .ref 1855, .int 0, .int 0, .ref 1856, .int 0, .ref 1857, .int 0, .int 0, .int 0, .ref 1858, .int 0, .ref 1859, .ref 1860, .ref 1861, .ref 1862, .ref 1863, .ref 1864, .ref 1865, .int (-1), .ref 1866, .ref 1867, .ref 1868, .ref 1869, .int 0, .ref 1870, .int (-1), .int 0, .int 0, .int 0, .ref 1871, .ref 1872, .ref 1873, .ref 1874, .ref 1875, .ref 1876, .ref 1877, .ref 1878, .ref 1879, .ref 1880, .ref 1881, .int 0, .ref 1882, .ref 1883, .ref 1884, .int 0, .ref 1885, .int 0, .ref 1886, .int (-1), .ref 1887, .int 0, .ref 1888, .int 0, .ref 1889, .ref 1890, .ref 1891, .ref 1892, .ref 1893, .ref 1894, .ref 1895, .ref 1896, .ref 1897, .ref 1898, .int 0, .int 0, .int 0]))) := by rw [eS15]; exact am_nth_self g14_1826
          have g15_0 : am_nth S15 0 = some (6, some (.inl (.int, 6, .int 0, [(0, .int y0), (1, .int y1), (2, .int y2), (3, .int y3), (4, .int y4), (5, .int y5)]))) := by rw [eS15]; exact g14_0
          refine G_ps 2 (pc' := 10) (l' := [(0, .ref 1826)]) (st' := [.int 0, .ref 1826]) rfl ?_
          refine G_put (i := 393) (ci := 13) (k := 28) (v := .int 0) rfl rfl g15_1826 rfl rfl ?_
          obtain ⟨S16, eS16⟩ : ∃ T9 : am_S, T9 = am_set S15 1826 (115, some (.inr (13, [.int 0, .int 0, .ref 1827, .int 0, .ref 1828, .ref 1829, .ref 1830, .ref 1831, .int 0, .ref 1832, .ref 1833, .ref 1834, .ref 1835, .int 0, .ref 1836, .ref 1837, .ref 1838, .ref 1839, .ref 1840, .int 0, .ref 1841, .ref 1842, .ref 1843, .ref 1844, .ref 1845, .ref 1846, .ref 1847, .ref 1848, .int 0, .int 0, .int 0, .int 0, .int 0, .long 0, .int 0, .int 0, .int 0, .ref 1849, .ref 1850, .int 0, .int 0, .int 0, .ref 1851, .int 0, .int 0, .ref 1852, .ref 1853, .int 0, .ref 1854, .ref 1855, .int 0, .int 0, .ref 1856, .int 0, .ref 1857, .int 0, .int 0, .int 0, .ref 1858, .int 0, .ref 1859, .ref 1860, .ref 1861, .ref 1862, .ref 1863, .ref 1864, .ref 1865, .int (-1), .ref 1866, .ref 1867, .ref 1868, .ref 1869, .int 0, .ref 1870, .int (-1), .int 0, .int 0, .int 0, .ref 1871, .ref 1872, .ref 1873, .ref 1874, .ref 1875, .ref 1876, .ref 1877, .ref 1878, .ref 1879, .ref 1880, .ref 1881, .int 0, .ref 1882, .ref 1883, .ref 1884, .int 0, .ref 1885, .int 0, .ref 1886, .int (-1), .ref 1887, .int 0, .ref 1888, .int 0, .ref 1889, .ref 1890, .ref 1891, .ref 1892, .ref 1893, .ref 1894, .ref 1895, .ref 1896, .ref 1897, .ref 1898, .int 0, .int 0, .int 0]))) := ⟨_, rfl⟩
          show am_G at_P at_cl at_ty _ mt_191 13 [(0, .ref 1826)] [] (am_set S15 1826 (115, some (.inr (13, [.int 0, .int 0, .ref 1827, .int 0, .ref 1828, .ref 1829, .ref 1830, .ref 1831, .int 0, .ref 1832, .ref 1833, .ref 1834, .ref 1835, .int 0, .ref 1836, .ref 1837, .ref 1838, .ref 1839, .ref 1840, .int 0, .ref 1841, .ref 1842, .ref 1843, .ref 1844, .ref 1845, .ref 1846, .ref 1847, .ref 1848, .int 0, .int 0, .int 0, .int 0, .int 0, .long 0, .int 0, .int 0, .int 0, .ref 1849, .ref 1850, .int 0, .int 0, .int 0, .ref 1851, .int 0, .int 0, .ref 1852, .ref 1853, .int 0, .ref 1854, .ref 1855, .int 0, .int 0, .ref 1856, .int 0, .ref 1857, .int 0, .int 0, .int 0, .ref 1858, .int 0, .ref 1859, .ref 1860, .ref 1861, .ref 1862, .ref 1863, .ref 1864, .ref 1865, .int (-1), .ref 1866, .ref 1867, .ref 1868, .ref 1869, .int 0, .ref 1870, .int (-1), .int 0, .int 0, .int 0, .ref 1871, .ref 1872, .ref 1873, .ref 1874, .ref 1875, .ref 1876, .ref 1877, .ref 1878, .ref 1879, .ref 1880, .ref 1881, .int 0, .ref 1882, .ref 1883, .ref 1884, .int 0, .ref 1885, .int 0, .ref 1886, .int (-1), .ref 1887, .int 0, .ref 1888, .int 0, .ref 1889, .ref 1890, .ref 1891, .ref 1892, .ref 1893, .ref 1894, .ref 1895, .ref 1896, .ref 1897, .ref 1898, .int 0, .int 0, .int 0])))) _
          rw [← eS16]
          have hs16 : am_same [2, 4, 5, 6, 361, 1824, 1826] S S16 := by rw [eS16]; exact am_same_set hs15 g15_1826 (by decide)
          have g16_1 : am_nth S16 1 = some (9, some (.inr (0, [.ref 2, .ref 7, .ref 361, .ref 363, .ref 366, .ref 372, .ref 406, .ref 1824, .int 0]))) := by rw [eS16]; exact am_nth_ne g15_1826 (by decide) g15_1
          have g16_2 : am_nth S16 2 = some (6, some (.inr (1, [.ref 3, .int 0, .ref 4, .ref 5, .ref 6, .int 1]))) := by rw [eS16]; exact am_nth_ne g15_1826 (by decide) g15_2
          have g16_4 : am_nth S16 4 = some (1001, some (.inl (.int, 1001, .int 0, [(0, .int 0)]))) := by rw [eS16]; exact am_nth_ne g15_1826 (by decide) g15_4
          have g16_5 : am_nth S16 5 = some (1001, some (.inl (.int, 1001, .int 0, [(0, .int 0)]))) := by rw [eS16]; exact am_nth_ne g15_1826 (by decide) g15_5
          have g16_6 : am_nth S16 6 = some (1001, some (.inl (.long, 1001, .long 0, [(0, .long 0)]))) := by rw [eS16]; exact am_nth_ne g15_1826 (by decide) g15_6
          have g16_361 : am_nth S16 361 = some (10, some (.inr (6, [.ref 2, .ref 7, .ref 362, .int 0, .int 2, .int 0, .int 2, .ref 25, .ref 1824, .int 0]))) := by rw [eS16]; exact am_nth_ne g15_1826 (by decide) g15_361
          have g16_1824 : am_nth S16 1824 = some (2, some (.inr (5, [.ref 1825, .int 0]))) := by rw [eS16]; exact am_nth_ne g15_1826 (by decide) g15_1824
          have g16_1826 : am_nth S16 1826 = some (115, some (.inr (13, [.int 0, .int 0, .ref 1827, .int 0, .ref 1828, .ref 1829, .ref 1830, .ref 1831, .int 0, .ref 1832, .ref 1833, .ref 1834, .ref 1835, .int 0, .ref 1836, .ref 1837, .ref 1838, .ref 1839, .ref 1840, .int 0, .ref 1841, .ref 1842, .ref 1843, .ref 1844, .ref 1845, .ref 1846, .ref 1847, .ref 1848, .int 0, .int 0, .int 0, .int 0, .int 0, .long 0, .int 0, .int 0, .int 0, .ref 1849, .ref 1850, .int 0, .int 0, .int 0, .ref 1851, .int 0, .int 0, .ref 1852, .ref 1853, .int 0, .ref 1854, .ref 1855, .int 0, .int 0, .ref 1856, .int 0, .ref 1857, .int 0, .int 0, .int 0, .ref 1858, .int 0, .ref 1859, .ref 1860, .ref 1861, .ref 1862, .ref 1863, .ref 1864, .ref 1865, .int (-1), .ref 1866, .ref 1867, .ref 1868, .ref 1869, .int 0, .ref 1870, .int (-1), .int 0, .int 0, .int 0, .ref 1871, .ref 1872, .ref 1873, .ref 1874, .ref 1875, .ref 1876, .ref 1877, .ref 1878, .ref 1879, .ref 1880, .ref 1881, .int 0, .ref 1882, .ref 1883, .ref 1884, .int 0, .ref 1885, .int 0, .ref 1886, .int (-1), .ref 1887, .int 0, .ref 1888, .int 0, .ref 1889, .ref 1890, .ref 1891, .ref 1892, .ref 1893, .ref 1894, .ref 1895, .ref 1896, .ref 1897, .ref 1898, .int 0, .int 0, .int 0]))) := by rw [eS16]; exact am_nth_self g15_1826
          have g16_0 : am_nth S16 0 = some (6, some (.inl (.int, 6, .int 0, [(0, .int y0), (1, .int y1), (2, .int y2), (3, .int y3), (4, .int y4), (5, .int y5)]))) := by rw [eS16]; exact g15_0
          refine G_ps 2 (pc' := 15) (l' := [(0, .ref 1826)]) (st' := [.int 0, .ref 1826]) rfl ?_
          refine G_put (i := 261) (ci := 13) (k := 30) (v := .int 0) rfl rfl g16_1826 rfl rfl ?_
          obtain ⟨S17, eS17⟩ : ∃ T9 : am_S, T9 = am_set S16 1826 (115, some (.inr (13, [.int 0, .int 0, .ref 1827, .int 0, .ref 1828, .ref 1829, .ref 1830, .ref 1831, .int 0, .ref 1832, .ref 1833, .ref 1834, .ref 1835, .int 0, .ref 1836, .ref 1837, .ref 1838, .ref 1839, .ref 1840, .int 0, .ref 1841, .ref 1842, .ref 1843, .ref 1844, .ref 1845, .ref 1846, .ref 1847, .ref 1848, .int 0, .int 0, .int 0, .int 0, .int 0, .long 0, .int 0, .int 0, .int 0, .ref 1849, .ref 1850, .int 0, .int 0, .int 0, .ref 1851, .int 0, .int 0, .ref 1852, .ref 1853, .int 0, .ref 1854, .ref 1855, .int 0, .int 0, .ref 1856, .int 0, .ref 1857, .int 0, .int 0, .int 0, .ref 1858, .int 0, .ref 1859, .ref 1860, .ref 1861, .ref 1862, .ref 1863, .ref 1864, .ref 1865, .int (-1), .ref 1866, .ref 1867, .ref 1868, .ref 1869, .int 0, .ref 1870, .int (-1), .int 0, .int 0, .int 0, .ref 1871, .ref 1872, .ref 1873, .ref 1874, .ref 1875, .ref 1876, .ref 1877, .ref 1878, .ref 1879, .ref 1880, .ref 1881, .int 0, .ref 1882, .ref 1883, .ref 1884, .int 0, .ref 1885, .int 0, .ref 1886, .int (-1), .ref 1887, .int 0, .ref 1888, .int 0, .ref 1889, .ref 1890, .ref 1891, .ref 1892, .ref 1893, .ref 1894, .ref 1895, .ref 1896, .ref 1897, .ref 1898, .int 0, .int 0, .int 0]))) := ⟨_, rfl⟩
          show am_G at_P at_cl at_ty _ mt_191 18 [(0, .ref 1826)] [] (am_set S16 1826 (115, some (.inr (13, [.int 0, .int 0, .ref 1827, .int 0, .ref 1828, .ref 1829, .ref 1830, .ref 1831, .int 0, .ref 1832, .ref 1833, .ref 1834, .ref 1835, .int 0, .ref 1836, .ref 1837, .ref 1838, .ref 1839, .ref 1840, .int 0, .ref 1841, .ref 1842, .ref 1843, .ref 1844, .ref 1845, .ref 1846, .ref 1847, .ref 1848, .int 0, .int 0, .int 0, .int 0, .int 0, .long 0, .int 0, .int 0, .int 0, .ref 1849, .ref 1850, .int 0, .int 0, .int 0, .ref 1851, .int 0, .int 0, .ref 1852, .ref 1853, .int 0, .ref 1854, .ref 1855, .int 0, .int 0, .ref 1856, .int 0, .ref 1857, .int 0, .int 0, .int 0, .ref 1858, .int 0, .ref 1859, .ref 1860, .ref 1861, .ref 1862, .ref 1863, .ref 1864, .ref 1865, .int (-1), .ref 1866, .ref 1867, .ref 1868, .ref 1869, .int 0, .ref 1870, .int (-1), .int 0, .int 0, .int 0, .ref 1871, .ref 1872, .ref 1873, .ref 1874, .ref 1875, .ref 1876, .ref 1877, .ref 1878, .ref 1879, .ref 1880, .ref 1881, .int 0, .ref 1882, .ref 1883, .ref 1884, .int 0, .ref 1885, .int 0, .ref 1886, .int (-1), .ref 1887, .int 0, .ref 1888, .int 0, .ref 1889, .ref 1890, .ref 1891, .ref 1892, .ref 1893, .ref 1894, .ref 1895, .ref 1896, .ref 1897, .ref 1898, .int 0, .int 0, .int 0])))) _
          rw [← eS17]
          have hs17 : am_same [2, 4, 5, 6, 361, 1824, 1826] S S17 := by rw [eS17]; exact am_same_set hs16 g16_1826 (by decide)
          have g17_1 : am_nth S17 1 = some (9, some (.inr (0, [.ref 2, .ref 7, .ref 361, .ref 363, .ref 366, .ref 372, .ref 406, .ref 1824, .int 0]))) := by rw [eS17]; exact am_nth_ne g16_1826 (by decide) g16_1
          have g17_2 : am_nth S17 2 = some (6, some (.inr (1, [.ref 3, .int 0, .ref 4, .ref 5, .ref 6, .int 1]))) := by rw [eS17]; exact am_nth_ne g16_1826 (by decide) g16_2
          have g17_4 : am_nth S17 4 = some (1001, some (.inl (.int, 1001, .int 0, [(0, .int 0)]))) := by rw [eS17]; exact am_nth_ne g16_1826 (by decide) g16_4
          have g17_5 : am_nth S17 5 = some (1001, some (.inl (.int, 1001, .int 0, [(0, .int 0)]))) := by rw [eS17]; exact am_nth_ne g16_1826 (by decide) g16_5
          have g17_6 : am_nth S17 6 = some (1001, some (.inl (.long, 1001, .long 0, [(0, .long 0)]))) := by rw [eS17]; exact am_nth_ne g16_1826 (by decide) g16_6
          have g17_361 : am_nth S17 361 = some (10, some (.inr (6, [.ref 2, .ref 7, .ref 362, .int 0, .int 2, .int 0, .int 2, .ref 25, .ref 1824, .int 0]))) := by rw [eS17]; exact am_nth_ne g16_1826 (by decide) g16_361
          have g17_1824 : am_nth S17 1824 = some (2, some (.inr (5, [.ref 1825, .int 0]))) := by rw [eS17]; exact am_nth_ne g16_1826 (by decide) g16_1824
          have g17_1826 : am_nth S17 1826 = some (115, some (.inr (13, [.int 0, .int 0, .ref 1827, .int 0, .ref 1828, .ref 1829, .ref 1830, .ref 1831, .int 0, .ref 1832, .ref 1833, .ref 1834, .ref 1835, .int 0, .ref 1836, .ref 1837, .ref 1838, .ref 1839, .ref 1840, .int 0, .ref 1841, .ref 1842, .ref 1843, .ref 1844, .ref 1845, .ref 1846, .ref 1847, .ref 1848, .int 0, .int 0, .int 0, .int 0, .int 0, .long 0, .int 0, .int 0, .int 0, .ref 1849, .ref 1850, .int 0, .int 0, .int 0, .ref 1851, .int 0, .int 0, .ref 1852, .ref 1853, .int 0, .ref 1854, .ref 1855, .int 0, .int 0, .ref 1856, .int 0, .ref 1857, .int 0, .int 0, .int 0, .ref 1858, .int 0, .ref 1859, .ref 1860, .ref 1861, .ref 1862, .ref 1863, .ref 1864, .ref 1865, .int (-1), .ref 1866, .ref 1867, .ref 1868, .ref 1869, .int 0, .ref 1870, .int (-1), .int 0, .int 0, .int 0, .ref 1871, .ref 1872, .ref 1873, .ref 1874, .ref 1875, .ref 1876, .ref 1877, .ref 1878, .ref 1879, .ref 1880, .ref 1881, .int 0, .ref 1882, .ref 1883, .ref 1884, .int 0, .ref 1885, .int 0, .ref 1886, .int (-1), .ref 1887, .int 0, .ref 1888, .int 0, .ref 1889, .ref 1890, .ref 1891, .ref 1892, .ref 1893, .ref 1894, .ref 1895, .ref 1896, .ref 1897, .ref 1898, .int 0, .int 0, .int 0]))) := by rw [eS17]; exact am_nth_self g16_1826
          have g17_0 : am_nth S17 0 = some (6, some (.inl (.int, 6, .int 0, [(0, .int y0), (1, .int y1), (2, .int y2), (3, .int y3), (4, .int y4), (5, .int y5)]))) := by rw [eS17]; exact g16_0
          refine G_ps 2 (pc' := 20) (l' := [(0, .ref 1826)]) (st' := [.int 0, .ref 1826]) rfl ?_
          refine G_put (i := 248) (ci := 13) (k := 35) (v := .int 0) rfl rfl g17_1826 rfl rfl ?_
          obtain ⟨S18, eS18⟩ : ∃ T9 : am_S, T9 = am_set S17 1826 (115, some (.inr (13, [.int 0, .int 0, .ref 1827, .int 0, .ref 1828, .ref 1829, .ref 1830, .ref 1831, .int 0, .ref 1832, .ref 1833, .ref 1834, .ref 1835, .int 0, .ref 1836, .ref 1837, .ref 1838, .ref 1839, .ref 1840, .int 0, .ref 1841, .ref 1842, .ref 1843, .ref 1844, .ref 1845, .ref 1846, .ref 1847, .ref 1848, .int 0, .int 0, .int 0, .int 0, .int 0, .long 0, .int 0, .int 0, .int 0, .ref 1849, .ref 1850, .int 0, .int 0, .int 0, .ref 1851, .int 0, .int 0, .ref 1852, .ref 1853, .int 0, .ref 1854, .ref 1855, .int 0, .int 0, .ref 1856, .int 0, .ref 1857, .int 0, .int 0, .int 0, .ref 1858, .int 0, .ref 1859, .ref 1860, .ref 1861, .ref 1862, .ref 1863, .ref 1864, .ref 1865, .int (-1), .ref 1866, .ref 1867, .ref 1868, .ref 1869, .int 0, .ref 1870, .int (-1), .int 0, .int 0, .int 0, .ref 1871, .ref 1872, .ref 1873, .ref 1874, .ref 1875, .ref 1876, .ref 1877, .ref 1878, .ref 1879, .ref 1880, .ref 1881, .int 0, .ref 1882, .ref 1883, .ref 1884, .int 0, .ref 1885, .int 0, .ref 1886, .int (-1), .ref 1887, .int 0, .ref 1888, .int 0, .ref 1889, .ref 1890, .ref 1891, .ref 1892, .ref 1893, .ref 1894, .ref 1895, .ref 1896, .ref 1897, .ref 1898, .int 0, .int 0, .int 0]))) := ⟨_, rfl⟩
          show am_G at_P at_cl at_ty _ mt_191 23 [(0, .ref 1826)] [] (am_set S17 1826 (115, some (.inr (13, [.int 0, .int 0, .ref 1827, .int 0, .ref 1828, .ref 1829, .ref 1830, .ref 1831, .int 0, .ref 1832, .ref 1833, .ref 1834, .ref 1835, .int 0, .ref 1836, .ref 1837, .ref 1838, .ref 1839, .ref 1840, .int 0, .ref 1841, .ref 1842, .ref 1843, .ref 1844, .ref 1845, .ref 1846, .ref 1847, .ref 1848, .int 0, .int 0, .int 0, .int 0, .int 0, .long 0, .int 0, .int 0, .int 0, .ref 1849, .ref 1850, .int 0, .int 0, .int 0, .ref 1851, .int 0, .int 0, .ref 1852, .ref 1853, .int 0, .ref 1854, .ref 1855, .int 0, .int 0, .ref 1856, .int 0, .ref 1857, .int 0, .int 0, .int 0, .ref 1858, .int 0, .ref 1859, .ref 1860, .ref 1861, .ref 1862, .ref 1863, .ref 1864, .ref 1865, .int (-1), .ref 1866, .ref 1867, .ref 1868, .ref 1869, .int 0, .ref 1870, .int (-1), .int 0, .int 0, .int 0, .ref 1871, .ref 1872, .ref 1873, .ref 1874, .ref 1875, .ref 1876, .ref 1877, .ref 1878, .ref 1879, .ref 1880, .ref 1881, .int 0, .ref 1882, .ref 1883, .ref 1884, .int 0, .ref 1885, .int 0, .ref 1886, .int (-1), .ref 1887, .int 0, .ref 1888, .int 0, .ref 1889, .ref 1890, .ref 1891, .ref 1892, .ref 1893, .ref 1894, .ref 1895, .ref 1896, .ref 1897, .ref 1898, .int 0, .int 0, .int 0])))) _
          rw [← eS18]
          have hs18 : am_same [2, 4, 5, 6, 361, 1824, 1826] S S18 := by rw [eS18]; exact am_same_set hs17 g17_1826 (by decide)
          have g18_1 : am_nth S18 1 = some (9, some (.inr (0, [.ref 2, .ref 7, .ref 361, .ref 363, .ref 366, .ref 372, .ref 406, .ref 1824, .int 0]))) := by rw [eS18]; exact am_nth_ne g17_1826 (by decide) g17_1
          have g18_2 : am_nth S18 2 = some (6, some (.inr (1, [.ref 3, .int 0, .ref 4, .ref 5, .ref 6, .int 1]))) := by rw [eS18]; exact am_nth_ne g17_1826 (by decide) g17_2
          have g18_4 : am_nth S18 4 = some (1001, some (.inl (.int, 1001, .int 0, [(0, .int 0)]))) := by rw [eS18]; exact am_nth_ne g17_1826 (by decide) g17_4
          have g18_5 : am_nth S18 5 = some (1001, some (.inl (.int, 1001, .int 0, [(0, .int 0)]))) := by rw [eS18]; exact am_nth_ne g17_1826 (by decide) g17_5
          have g18_6 : am_nth S18 6 = some (1001, some (.inl (.long, 1001, .long 0, [(0, .long 0)]))) := by rw [eS18]; exact am_nth_ne g17_1826 (by decide) g17_6
          have g18_361 : am_nth S18 361 = some (10, some (.inr (6, [.ref 2, .ref 7, .ref 362, .int 0, .int 2, .int 0, .int 2, .ref 25, .ref 1824, .int 0]))) := by rw [eS18]; exact am_nth_ne g17_1826 (by decide) g17_361
          have g18_1824 : am_nth S18 1824 = some (2, some (.inr (5, [.ref 1825, .int 0]))) := by rw [eS18]; exact am_nth_ne g17_1826 (by decide) g17_1824
          have g18_1826 : am_nth S18 1826 = some (115, some (.inr (13, [.int 0, .int 0, .ref 1827, .int 0, .ref 1828, .ref 1829, .ref 1830, .ref 1831, .int 0, .ref 1832, .ref 1833, .ref 1834, .ref 1835, .int 0, .ref 1836, .ref 1837, .ref 1838, .ref 1839, .ref 1840, .int 0, .ref 1841, .ref 1842, .ref 1843, .ref 1844, .ref 1845, .ref 1846, .ref 1847, .ref 1848, .int 0, .int 0, .int 0, .int 0, .int 0, .long 0, .int 0, .int 0, .int 0, .ref 1849, .ref 1850, .int 0, .int 0, .int 0, .ref 1851, .int 0, .int 0, .ref 1852, .ref 1853, .int 0, .ref 1854, .ref 1855, .int 0, .int 0, .ref 1856, .int 0, .ref 1857, .int 0, .int 0, .int 0, .ref 1858, .int 0, .ref 1859, .ref 1860, .ref 1861, .ref 1862, .ref 1863, .ref 1864, .ref 1865, .int (-1), .ref 1866, .ref 1867, .ref 1868, .ref 1869, .int 0, .ref 1870, .int (-1), .int 0, .int 0, .int 0, .ref 1871, .ref 1872, .ref 1873, .ref 1874, .ref 1875, .ref 1876, .ref 1877, .ref 1878, .ref 1879, .ref 1880, .ref 1881, .int 0, .ref 1882, .ref 1883, .ref 1884, .int 0, .ref 1885, .int 0, .ref 1886, .int (-1), .ref 1887, .int 0, .ref 1888, .int 0, .ref 1889, .ref 1890, .ref 1891, .ref 1892, .ref 1893, .ref 1894, .ref 1895, .ref 1896, .ref 1897, .ref 1898, .int 0, .int 0, .int 0]))) := by rw [eS18]; exact am_nth_self g17_1826
          have g18_0 : am_nth S18 0 = some (6, some (.inl (.int, 6, .int 0, [(0, .int y0), (1, .int y1), (2, .int y2), (3, .int y3), (4, .int y4), (5, .int y5)]))) := by rw [eS18]; exact g17_0
          refine G_ps 1 (pc' := 24) (l' := [(0, .ref 1826)]) (st' := [.ref 1826]) rfl ?_
          refine G_cv (i := 297) (j := 165) (b := 1826) (M' := mt_165) (xs := []) (rest := []) rfl rfl rfl rfl g18_1826 (Nat.le_of_ble_eq_true rfl) (Nat.le_of_ble_eq_true rfl) ?_ (fun _ _ _ _ h9 => h9)
          show am_G at_P at_cl at_ty _ mt_165 0 [(0, .ref 1826)] [] _ _
          refine G_ps 1 (pc' := 1) (l' := [(0, .ref 1826)]) (st' := [.ref 1826]) rfl ?_
          refine G_cv (i := 267) (j := 161) (b := 1826) (M' := mt_161) (xs := []) (rest := []) rfl rfl rfl rfl g18_1826 (Nat.le_of_ble_eq_true rfl) (Nat.le_of_ble_eq_true rfl) ?_ (fun _ _ _ _ h9 => h9)
          show am_G at_P at_cl at_ty _ mt_161 0 [(0, .ref 1826)] [] _ _
          refine G_ps 1 (pc' := 1) (l' := [(0, .ref 1826)]) (st' := [.ref 1826]) rfl ?_
          refine G_get (i := 261) (ci := 13) (k := 30) (v := .int 0) rfl rfl g18_1826 rfl ?_
          show am_G at_P at_cl at_ty _ mt_161 4 [(0, .ref 1826)] [.int 0] _ _
          refine G_ps 1 (pc' := 5) (l' := [(0, .ref 1826)]) (st' := [.ref 1826, .int 0]) rfl ?_
          refine G_get (i := 264) (ci := 13) (k := 29) (v := .int 0) rfl rfl g18_1826 rfl ?_
          show am_G at_P at_cl at_ty _ mt_161 8 [(0, .ref 1826)] [.int 0, .int 0] _ _
          refine G_ps 2 (pc' := 28) (l' := [(0, .ref 1826)]) (st' := [.int (-1)]) rfl ?_
          refine G_ret rfl rfl rfl ?_
          show am_G at_P at_cl at_ty _ mt_165 4 [(0, .ref 1826)] [.int (-1)] _ _
          refine G_ps 3 (pc' := 10) (l' := [(0, .ref 1826)]) (st' := [.ref 1826]) rfl ?_
          refine G_cv (i := 267) (j := 161) (b := 1826) (M' := mt_161) (xs := []) (rest := []) rfl rfl rfl rfl g18_1826 (Nat.le_of_ble_eq_true rfl) (Nat.le_of_ble_eq_true rfl) ?_ (fun _ _ _ _ h9 => h9)
          show am_G at_P at_cl at_ty _ mt_161 0 [(0, .ref 1826)] [] _ _
          refine G_ps 1 (pc' := 1) (l' := [(0, .ref 1826)]) (st' := [.ref 1826]) rfl ?_
          refine G_get (i := 261) (ci := 13) (k := 30) (v := .int 0) rfl rfl g18_1826 rfl ?_
          show am_G at_P at_cl at_ty _ mt_161 4 [(0, .ref 1826)] [.int 0] _ _
          refine G_ps 1 (pc' := 5) (l' := [(0, .ref 1826)]) (st' := [.ref 1826, .int 0]) rfl ?_
          refine G_get (i := 264) (ci := 13) (k := 29) (v := .int 0) rfl rfl g18_1826 rfl ?_
          show am_G at_P at_cl at_ty _ mt_161 8 [(0, .ref 1826)] [.int 0, .int 0] _ _
          refine G_ps 2 (pc' := 28) (l' := [(0, .ref 1826)]) (st' := [.int (-1)]) rfl ?_
          refine G_ret rfl rfl rfl ?_
          show am_G at_P at_cl at_ty _ mt_165 13 [(0, .ref 1826)] [.int (-1)] _ _
          refine G_ps 4 (pc' := 33) (l' := [(0, .ref 1826)]) (st' := [.ref 1826, .ref 1826]) rfl ?_
          refine G_get (i := 261) (ci := 13) (k := 30) (v := .int 0) rfl rfl g18_1826 rfl ?_
          show am_G at_P at_cl at_ty _ mt_165 36 [(0, .ref 1826)] [.int 0, .ref 1826] _ _
          refine G_put (i := 251) (ci := 13) (k := 32) (v := .int 0) rfl rfl g18_1826 rfl rfl ?_
          obtain ⟨S19, eS19⟩ : ∃ T9 : am_S, T9 = am_set S18 1826 (115, some (.inr (13, [.int 0, .int 0, .ref 1827, .int 0, .ref 1828, .ref 1829, .ref 1830, .ref 1831, .int 0, .ref 1832, .ref 1833, .ref 1834, .ref 1835, .int 0, .ref 1836, .ref 1837, .ref 1838, .ref 1839, .ref 1840, .int 0, .ref 1841, .ref 1842, .ref 1843, .ref 1844, .ref 1845, .ref 1846, .ref 1847, .ref 1848, .int 0, .int 0, .int 0, .int 0, .int 0, .long 0, .int 0, .int 0, .int 0, .ref 1849, .ref 1850, .int 0, .int 0, .int 0, .ref 1851, .int 0, .int 0, .ref 1852, .ref 1853, .int 0, .ref 1854, .ref 1855, .int 0, .int 0, .ref 1856, .int 0, .ref 1857, .int 0, .int 0, .int 0, .ref 1858, .int 0, .ref 1859, .ref 1860, .ref 1861, .ref 1862, .ref 1863, .ref 1864, .ref 1865, .int (-1), .ref 1866, .ref 1867, .ref 1868, .ref 1869, .int 0, .ref 1870, .int (-1), .int 0, .int 0, .int 0, .ref 1871, .ref 1872, .ref 1873, .ref 1874, .ref 1875, .ref 1876, .ref 1877, .ref 1878, .ref 1879, .ref 1880, .ref 1881, .int 0, .ref 1882, .ref 1883, .ref 1884, .int 0, .ref 1885, .int 0, .ref 1886, .int (-1), .ref 1887, .int 0, .ref 1888, .int 0, .ref 1889, .ref 1890, .ref 1891, .ref 1892, .ref 1893, .ref 1894, .ref 1895, .ref 1896, .ref 1897, .ref 1898, .int 0, .int 0, .int 0]))) := ⟨_, rfl⟩
          show am_G at_P at_cl at_ty _ mt_165 39 [(0, .ref 1826)] [] (am_set S18 1826 (115, some (.inr (13, [.int 0, .int 0, .ref 1827, .int 0, .ref 1828, .ref 1829, .ref 1830, .ref 1831, .int 0, .ref 1832, .ref 1833, .ref 1834, .ref 1835, .int 0, .ref 1836, .ref 1837, .ref 1838, .ref 1839, .ref 1840, .int 0, .ref 1841, .ref 1842, .ref 1843, .ref 1844, .ref 1845, .ref 1846, .ref 1847, .ref 1848, .int 0, .int 0, .int 0, .int 0, .int 0, .long 0, .int 0, .int 0, .int 0, .ref 1849, .ref 1850, .int 0, .int 0, .int 0, .ref 1851, .int 0, .int 0, .ref 1852, .ref 1853, .int 0, .ref 1854, .ref 1855, .int 0, .int 0, .ref 1856, .int 0, .ref 1857, .int 0, .int 0, .int 0, .ref 1858, .int 0, .ref 1859, .ref 1860, .ref 1861, .ref 1862, .ref 1863, .ref 1864, .ref 1865, .int (-1), .ref 1866, .ref 1867, .ref 1868, .ref 1869, .int 0, .ref 1870, .int (-1), .int 0, .int 0, .int 0, .ref 1871, .ref 1872, .ref 1873, .ref 1874, .ref 1875, .ref 1876, .ref 1877, .ref 1878, .ref 1879, .ref 1880, .ref 1881, .int 0, .ref 1882, .ref 1883, .ref 1884, .int 0, .ref 1885, .int 0, .ref 1886, .int (-1), .ref 1887, .int 0, .ref 1888, .int 0, .ref 1889, .ref 1890, .ref 1891, .ref 1892, .ref 1893, .ref 1894, .ref 1895, .ref 1896, .ref 1897, .ref 1898, .int 0, .int 0, .int 0])))) _
          rw [← eS19]
          have hs19 : am_same [2, 4, 5, 6, 361, 1824, 1826] S S19 := by rw [eS19]; exact am_same_set hs18 g18_1826 (by decide)
          have g19_1 : am_nth S19 1 = some (9, some (.inr (0, [.ref 2, .ref 7, .ref 361, .ref 363, .ref 366, .ref 372, .ref 406, .ref 1824, .int 0]))) := by rw [eS19]; exact am_nth_ne g18_1826 (by decide) g18_1
          have g19_2 : am_nth S19 2 = some (6, some (.inr (1, [.ref 3, .int 0, .ref 4, .ref 5, .ref 6, .int 1]))) := by rw [eS19]; exact am_nth_ne g18_1826 (by decide) g18_2
          have g19_4 : am_nth S19 4 = some (1001, some (.inl (.int, 1001, .int 0, [(0, .int 0)]))) := by rw [eS19]; exact am_nth_ne g18_1826 (by decide) g18_4
          have g19_5 : am_nth S19 5 = some (1001, some (.inl (.int, 1001, .int 0, [(0, .int 0)]))) := by rw [eS19]; exact am_nth_ne g18_1826 (by decide) g18_5
          have g19_6 : am_nth S19 6 = some (1001, some (.inl (.long, 1001, .long 0, [(0, .long 0)]))) := by rw [eS19]; exact am_nth_ne g18_1826 (by decide) g18_6
          have g19_361 : am_nth S19 361 = some (10, some (.inr (6, [.ref 2, .ref 7, .ref 362, .int 0, .int 2, .int 0, .int 2, .ref 25, .ref 1824, .int 0]))) := by rw [eS19]; exact am_nth_ne g18_1826 (by decide) g18_361
          have g19_1824 : am_nth S19 1824 = some (2, some (.inr (5, [.ref 1825, .int 0]))) := by rw [eS19]; exact am_nth_ne g18_1826 (by decide) g18_1824
          have g19_1826 : am_nth S19 1826 = some (115, some (.inr (13, [.int 0, .int 0, .ref 1827, .int 0, .ref 1828, .ref 1829, .ref 1830, .ref 1831, .int 0, .ref 1832, .ref 1833, .ref 1834, .ref 1835, .int 0, .ref 1836, .ref 1837, .ref 1838, .ref 1839, .ref 1840, .int 0, .ref 1841, .ref 1842, .ref 1843, .ref 1844, .ref 1845, .ref 1846, .ref 1847, .ref 1848, .int 0, .int 0, .int 0, .int 0, .int 0, .long 0, .int 0, .int 0, .int 0, .ref 1849, .ref 1850, .int 0, .int 0, .int 0, .ref 1851, .int 0, .int 0, .ref 1852, .ref 1853, .int 0, .ref 1854, .ref 1855, .int 0, .int 0, .ref 1856, .int 0, .ref 1857, .int 0, .int 0, .int 0, .ref 1858, .int 0, .ref 1859, .ref 1860, .ref 1861, .ref 1862, .ref 1863, .ref 1864, .ref 1865, .int (-1), .ref 1866, .ref 1867, .ref 1868, .ref 1869, .int 0, .ref 1870, .int (-1), .int 0, .int 0, .int 0, .ref 1871, .ref 1872, .ref 1873, .ref 1874, .ref 1875, .ref 1876, .ref 1877, .ref 1878, .ref 1879, .ref 1880, .ref 1881, .int 0, .ref 1882, .ref 1883, .ref 1884, .int 0, .ref 1885, .int 0, .ref 1886, .int (-1), .ref 1887, .int 0, .ref 1888, .int 0, .ref 1889, .ref 1890, .ref 1891, .ref 1892, .ref 1893, .ref 1894, .ref 1895, .ref 1896, .ref 1897, .ref 1898, .int 0, .int 0, .int 0]))) := by rw [eS19]; exact am_nth_self g18_1826
          have g19_0 : am_nth S19 0 = some (6, some (.inl (.int, 6, .int 0, [(0, .int y0), (1, .int y1), (2, .int y2), (3, .int y3), (4, .int y4), (5, .int y5)]))) := by rw [eS19]; exact g18_0
          refine G_ps 1 (pc' := 40) (l' := [(0, .ref 1826)]) (st' := [.ref 1826]) rfl ?_
          refine G_cv (i := 267) (j := 161) (b := 1826) (M' := mt_161) (xs := []) (rest := []) rfl rfl rfl rfl g19_1826 (Nat.le_of_ble_eq_true rfl) (Nat.le_of_ble_eq_true rfl) ?_ (fun _ _ _ _ h9 => h9)
          show am_G at_P at_cl at_ty _ mt_161 0 [(0, .ref 1826)] [] _ _
          refine G_ps 1 (pc' := 1) (l' := [(0, .ref 1826)]) (st' := [.ref 1826]) rfl ?_
          refine G_get (i := 261) (ci := 13) (k := 30) (v := .int 0) rfl rfl g19_1826 rfl ?_
          show am_G at_P at_cl at_ty _ mt_161 4 [(0, .ref 1826)] [.int 0] _ _
          refine G_ps 1 (pc' := 5) (l' := [(0, .ref 1826)]) (st' := [.ref 1826, .int 0]) rfl ?_
          refine G_get (i := 264) (ci := 13) (k := 29) (v := .int 0) rfl rfl g19_1826 rfl ?_
          show am_G at_P at_cl at_ty _ mt_161 8 [(0, .ref 1826)] [.int 0, .int 0] _ _
          refine G_ps 2 (pc' := 28) (l' := [(0, .ref 1826)]) (st' := [.int (-1)]) rfl ?_
          refine G_ret rfl rfl rfl ?_
          show am_G at_P at_cl at_ty _ mt_165 43 [(0, .ref 1826)] [.int (-1)] _ _
          refine G_ps 6 (pc' := 51) (l' := [(1, .int (-1)), (0, .ref 1826)]) (st' := [.int 0, .ref 1826]) rfl ?_
          refine G_put (i := 271) (ci := 13) (k := 31) (v := .int 0) rfl rfl g19_1826 rfl rfl ?_
          obtain ⟨S20, eS20⟩ : ∃ T9 : am_S, T9 = am_set S19 1826 (115, some (.inr (13, [.int 0, .int 0, .ref 1827, .int 0, .ref 1828, .ref 1829, .ref 1830, .ref 1831, .int 0, .ref 1832, .ref 1833, .ref 1834, .ref 1835, .int 0, .ref 1836, .ref 1837, .ref 1838, .ref 1839, .ref 1840, .int 0, .ref 1841, .ref 1842, .ref 1843, .ref 1844, .ref 1845, .ref 1846, .ref 1847, .ref 1848, .int 0, .int 0, .int 0, .int 0, .int 0, .long 0, .int 0, .int 0, .int 0, .ref 1849, .ref 1850, .int 0, .int 0, .int 0, .ref 1851, .int 0, .int 0, .ref 1852, .ref 1853, .int 0, .ref 1854, .ref 1855, .int 0, .int 0, .ref 1856, .int 0, .ref 1857, .int 0, .int 0, .int 0, .ref 1858, .int 0, .ref 1859, .ref 1860, .ref 1861, .ref 1862, .ref 1863, .ref 1864, .ref 1865, .int (-1), .ref 1866, .ref 1867, .ref 1868, .ref 1869, .int 0, .ref 1870, .int (-1), .int 0, .int 0, .int 0, .ref 1871, .ref 1872, .ref 1873, .ref 1874, .ref 1875, .ref 1876, .ref 1877, .ref 1878, .ref 1879, .ref 1880, .ref 1881, .int 0, .ref 1882, .ref 1883, .ref 1884, .int 0, .ref 1885, .int 0, .ref 1886, .int (-1), .ref 1887, .int 0, .ref 1888, .int 0, .ref 1889, .ref 1890, .ref 1891, .ref 1892, .ref 1893, .ref 1894, .ref 1895, .ref 1896, .ref 1897, .ref 1898, .int 0, .int 0, .int 0]))) := ⟨_, rfl⟩
          show am_G at_P at_cl at_ty _ mt_165 54 [(1, .int (-1)), (0, .ref 1826)] [] (am_set S19 1826 (115, some (.inr (13, [.int 0, .int 0, .ref 1827, .int 0, .ref 1828, .ref 1829, .ref 1830, .ref 1831, .int 0, .ref 1832, .ref 1833, .ref 1834, .ref 1835, .int 0, .ref 1836, .ref 1837, .ref 1838, .ref 1839, .ref 1840, .int 0, .ref 1841, .ref 1842, .ref 1843, .ref 1844, .ref 1845, .ref 1846, .ref 1847, .ref 1848, .int 0, .int 0, .int 0, .int 0, .int 0, .long 0, .int 0, .int 0, .int 0, .ref 1849, .ref 1850, .int 0, .int 0, .int 0, .ref 1851, .int 0, .int 0, .ref 1852, .ref 1853, .int 0, .ref 1854, .ref 1855, .int 0, .int 0, .ref 1856, .int 0, .ref 1857, .int 0, .int 0, .int 0, .ref 1858, .int 0, .ref 1859, .ref 1860, .ref 1861, .ref 1862, .ref 1863, .ref 1864, .ref 1865, .int (-1), .ref 1866, .ref 1867, .ref 1868, .ref 1869, .int 0, .ref 1870, .int (-1), .int 0, .int 0, .int 0, .ref 1871, .ref 1872, .ref 1873, .ref 1874, .ref 1875, .ref 1876, .ref 1877, .ref 1878, .ref 1879, .ref 1880, .ref 1881, .int 0, .ref 1882, .ref 1883, .ref 1884, .int 0, .ref 1885, .int 0, .ref 1886, .int (-1), .ref 1887, .int 0, .ref 1888, .int 0, .ref 1889, .ref 1890, .ref 1891, .ref 1892, .ref 1893, .ref 1894, .ref 1895, .ref 1896, .ref 1897, .ref 1898, .int 0, .int 0, .int 0])))) _
          rw [← eS20]
          have hs20 : am_same [2, 4, 5, 6, 361, 1824, 1826] S S20 := by rw [eS20]; exact am_same_set hs19 g19_1826 (by decide)
          have g20_1 : am_nth S20 1 = some (9, some (.inr (0, [.ref 2, .ref 7, .ref 361, .ref 363, .ref 366, .ref 372, .ref 406, .ref 1824, .int 0]))) := by rw [eS20]; exact am_nth_ne g19_1826 (by decide) g19_1
          have g20_2 : am_nth S20 2 = some (6, some (.inr (1, [.ref 3, .int 0, .ref 4, .ref 5, .ref 6, .int 1]))) := by rw [eS20]; exact am_nth_ne g19_1826 (by decide) g19_2
          have g20_4 : am_nth S20 4 = some (1001, some (.inl (.int, 1001, .int 0, [(0, .int 0)]))) := by rw [eS20]; exact am_nth_ne g19_1826 (by decide) g19_4
          have g20_5 : am_nth S20 5 = some (1001, some (.inl (.int, 1001, .int 0, [(0, .int 0)]))) := by rw [eS20]; exact am_nth_ne g19_1826 (by decide) g19_5
          have g20_6 : am_nth S20 6 = some (1001, some (.inl (.long, 1001, .long 0, [(0, .long 0)]))) := by rw [eS20]; exact am_nth_ne g19_1826 (by decide) g19_6
          have g20_361 : am_nth S20 361 = some (10, some (.inr (6, [.ref 2, .ref 7, .ref 362, .int 0, .int 2, .int 0, .int 2, .ref 25, .ref 1824, .int 0]))) := by rw [eS20]; exact am_nth_ne g19_1826 (by decide) g19_361
          have g20_1824 : am_nth S20 1824 = some (2, some (.inr (5, [.ref 1825, .int 0]))) := by rw [eS20]; exact am_nth_ne g19_1826 (by decide) g19_1824
          have g20_1826 : am_nth S20 1826 = some (115, some (.inr (13, [.int 0, .int 0, .ref 1827, .int 0, .ref 1828, .ref 1829, .ref 1830, .ref 1831, .int 0, .ref 1832, .ref 1833, .ref 1834, .ref 1835, .int 0, .ref 1836, .ref 1837, .ref 1838, .ref 1839, .ref 1840, .int 0, .ref 1841, .ref 1842, .ref 1843, .ref 1844, .ref 1845, .ref 1846, .ref 1847, .ref 1848, .int 0, .int 0, .int 0, .int 0, .int 0, .long 0, .int 0, .int 0, .int 0, .ref 1849, .ref 1850, .int 0, .int 0, .int 0, .ref 1851, .int 0, .int 0, .ref 1852, .ref 1853, .int 0, .ref 1854, .ref 1855, .int 0, .int 0, .ref 1856, .int 0, .ref 1857, .int 0, .int 0, .int 0, .ref 1858, .int 0, .ref 1859, .ref 1860, .ref 1861, .ref 1862, .ref 1863, .ref 1864, .ref 1865, .int (-1), .ref 1866, .ref 1867, .ref 1868, .ref 1869, .int 0, .ref 1870, .int (-1), .int 0, .int 0, .int 0, .ref 1871, .ref 1872, .ref 1873, .ref 1874, .ref 1875, .ref 1876, .ref 1877, .ref 1878, .ref 1879, .ref 1880, .ref 1881, .int 0, .ref 1882, .ref 1883, .ref 1884, .int 0, .ref 1885, .int 0, .ref 1886, .int (-1), .ref 1887, .int 0, .ref 1888, .int 0, .ref 1889, .ref 1890, .ref 1891, .ref 1892, .ref 1893, .ref 1894, .ref 1895, .ref 1896, .ref 1897, .ref 1898, .int 0, .int 0, .int 0]))) := by rw [eS20]; exact am_nth_self g19_1826
          have g20_0 : am_nth S20 0 = some (6, some (.inl (.int, 6, .int 0, [(0, .int y0), (1, .int y1), (2, .int y2), (3, .int y3), (4, .int y4), (5, .int y5)]))) := by rw [eS20]; exact g19_0
          refine G_ret rfl rfl rfl ?_
          show am_G at_P at_cl at_ty _ mt_191 27 [(0, .ref 1826)] [] _ _
          refine G_ret rfl rfl rfl ?_
          show am_G at_P at_cl at_ty _ mt_201 23 [(0, .ref 1826), (1, .int y1)] [] _ _
          refine G_ps 1 (pc' := 24) (l' := [(0, .ref 1826), (1, .int y1)]) (st' := [.ref 1826]) rfl ?_
          refine G_cv (i := 379) (j := 185) (b := 1826) (M' := mt_185) (xs := []) (rest := []) rfl rfl rfl rfl g20_1826 (Nat.le_of_ble_eq_true rfl) (Nat.le_of_ble_eq_true rfl) ?_ (fun _ _ _ _ h9 => h9)
          show am_G at_P at_cl at_ty _ mt_185 0 [(0, .ref 1826)] [] _ _
          refine G_ps 2 (pc' := 2) (l' := [(0, .ref 1826)]) (st' := [.int 0, .ref 1826]) rfl ?_
          refine G_put (i := 338) (ci := 13) (k := 39) (v := .int 0) rfl rfl g20_1826 rfl rfl ?_
          obtain ⟨S21, eS21⟩ : ∃ T9 : am_S, T9 = am_set S20 1826 (115, some (.inr (13, [.int 0, .int 0, .ref 1827, .int 0, .ref 1828, .ref 1829, .ref 1830, .ref 1831, .int 0, .ref 1832, .ref 1833, .ref 1834, .ref 1835, .int 0, .ref 1836, .ref 1837, .ref 1838, .ref 1839, .ref 1840, .int 0, .ref 1841, .ref 1842, .ref 1843, .ref 1844, .ref 1845, .ref 1846, .ref 1847, .ref 1848, .int 0, .int 0, .int 0, .int 0, .int 0, .long 0, .int 0, .int 0, .int 0, .ref 1849, .ref 1850, .int 0, .int 0, .int 0, .ref 1851, .int 0, .int 0, .ref 1852, .ref 1853, .int 0, .ref 1854, .ref 1855, .int 0, .int 0, .ref 1856, .int 0, .ref 1857, .int 0, .int 0, .int 0, .ref 1858, .int 0, .ref 1859, .ref 1860, .ref 1861, .ref 1862, .ref 1863, .ref 1864, .ref 1865, .int (-1), .ref 1866, .ref 1867, .ref 1868, .ref 1869, .int 0, .ref 1870, .int (-1), .int 0, .int 0, .int 0, .ref 1871, .ref 1872, .ref 1873, .ref 1874, .ref 1875, .ref 1876, .ref 1877, .ref 1878, .ref 1879, .ref 1880, .ref 1881, .int 0, .ref 1882, .ref 1883, .ref 1884, .int 0, .ref 1885, .int 0, .ref 1886, .int (-1), .ref 1887, .int 0, .ref 1888, .int 0, .ref 1889, .ref 1890, .ref 1891, .ref 1892, .ref 1893, .ref 1894, .ref 1895, .ref 1896, .ref 1897, .ref 1898, .int 0, .int 0, .int 0]))) := ⟨_, rfl⟩
          show am_G at_P at_cl at_ty _ mt_185 5 [(0, .ref 1826)] [] (am_set S20 1826 (115, some (.inr (13, [.int 0, .int 0, .ref 1827, .int 0, .ref 1828, .ref 1829, .ref 1830, .ref 1831, .int 0, .ref 1832, .ref 1833, .ref 1834, .ref 1835, .int 0, .ref 1836, .ref 1837, .ref 1838, .ref 1839, .ref 1840, .int 0, .ref 1841, .ref 1842, .ref 1843, .ref 1844, .ref 1845, .ref 1846, .ref 1847, .ref 1848, .int 0, .int 0, .int 0, .int 0, .int 0, .long 0, .int 0, .int 0, .int 0, .ref 1849, .ref 1850, .int 0, .int 0, .int 0, .ref 1851, .int 0, .int 0, .ref 1852, .ref 1853, .int 0, .ref 1854, .ref 1855, .int 0, .int 0, .ref 1856, .int 0, .ref 1857, .int 0, .int 0, .int 0, .ref 1858, .int 0, .ref 1859, .ref 1860, .ref 1861, .ref 1862, .ref 1863, .ref 1864, .ref 1865, .int (-1), .ref 1866, .ref 1867, .ref 1868, .ref 1869, .int 0, .ref 1870, .int (-1), .int 0, .int 0, .int 0, .ref 1871, .ref 1872, .ref 1873, .ref 1874, .ref 1875, .ref 1876, .ref 1877, .ref 1878, .ref 1879, .ref 1880, .ref 1881, .int 0, .ref 1882, .ref 1883, .ref 1884, .int 0, .ref 1885, .int 0, .ref 1886, .int (-1), .ref 1887, .int 0, .ref 1888, .int 0, .ref 1889, .ref 1890, .ref 1891, .ref 1892, .ref 1893, .ref 1894, .ref 1895, .ref 1896, .ref 1897, .ref 1898, .int 0, .int 0, .int 0])))) _
          rw [← eS21]
          have hs21 : am_same [2, 4, 5, 6, 361, 1824, 1826] S S21 := by rw [eS21]; exact am_same_set hs20 g20_1826 (by decide)
          have g21_1 : am_nth S21 1 = some (9, some (.inr (0, [.ref 2, .ref 7, .ref 361, .ref 363, .ref 366, .ref 372, .ref 406, .ref 1824, .int 0]))) := by rw [eS21]; exact am_nth_ne g20_1826 (by decide) g20_1
          have g21_2 : am_nth S21 2 = some (6, some (.inr (1, [.ref 3, .int 0, .ref 4, .ref 5, .ref 6, .int 1]))) := by rw [eS21]; exact am_nth_ne g20_1826 (by decide) g20_2
          have g21_4 : am_nth S21 4 = some (1001, some (.inl (.int, 1001, .int 0, [(0, .int 0)]))) := by rw [eS21]; exact am_nth_ne g20_1826 (by decide) g20_4
          have g21_5 : am_nth S21 5 = some (1001, some (.inl (.int, 1001, .int 0, [(0, .int 0)]))) := by rw [eS21]; exact am_nth_ne g20_1826 (by decide) g20_5
          have g21_6 : am_nth S21 6 = some (1001, some (.inl (.long, 1001, .long 0, [(0, .long 0)]))) := by rw [eS21]; exact am_nth_ne g20_1826 (by decide) g20_6
          have g21_361 : am_nth S21 361 = some (10, some (.inr (6, [.ref 2, .ref 7, .ref 362, .int 0, .int 2, .int 0, .int 2, .ref 25, .ref 1824, .int 0]))) := by rw [eS21]; exact am_nth_ne g20_1826 (by decide) g20_361
          have g21_1824 : am_nth S21 1824 = some (2, some (.inr (5, [.ref 1825, .int 0]))) := by rw [eS21]; exact am_nth_ne g20_1826 (by decide) g20_1824
          have g21_1826 : am_nth S21 1826 = some (115, some (.inr (13, [.int 0, .int 0, .ref 1827, .int 0, .ref 1828, .ref 1829, .ref 1830, .ref 1831, .int 0, .ref 1832, .ref 1833, .ref 1834, .ref 1835, .int 0, .ref 1836, .ref 1837, .ref 1838, .ref 1839, .ref 1840, .int 0, .ref 1841, .ref 1842, .ref 1843, .ref 1844, .ref 1845, .ref 1846, .ref 1847, .ref 1848, .int 0, .int 0, .int 0, .int 0, .int 0, .long 0, .int 0, .int 0, .int 0, .ref 1849, .ref 1850, .int 0, .int 0, .int 0, .ref 1851, .int 0, .int 0, .ref 1852, .ref 1853, .int 0, .ref 1854, .ref 1855, .int 0, .int 0, .ref 1856, .int 0, .ref 1857, .int 0, .int 0, .int 0, .ref 1858, .int 0, .ref 1859, .ref 1860, .ref 1861, .ref 1862, .ref 1863, .ref 1864, .ref 1865, .int (-1), .ref 1866, .ref 1867, .ref 1868, .ref 1869, .int 0, .ref 1870, .int (-1), .int 0, .int 0, .int 0, .ref 1871, .ref 1872, .ref 1873, .ref 1874, .ref 1875, .ref 1876, .ref 1877, .ref 1878, .ref 1879, .ref 1880, .ref 1881, .int 0, .ref 1882, .ref 1883, .ref 1884, .int 0, .ref 1885, .int 0, .ref 1886, .int (-1), .ref 1887, .int 0, .ref 1888, .int 0, .ref 1889, .ref 1890, .ref 1891, .ref 1892, .ref 1893, .ref 1894, .ref 1895, .ref 1896, .ref 1897, .ref 1898, .int 0, .int 0, .int 0]))) := by rw [eS21]; exact am_nth_self g20_1826
          have g21_0 : am_nth S21 0 = some (6, some (.inl (.int, 6, .int 0, [(0, .int y0), (1, .int y1), (2, .int y2), (3, .int y3), (4, .int y4), (5, .int y5)]))) := by rw [eS21]; exact g20_0
          refine G_ps 2 (pc' := 7) (l' := [(0, .ref 1826)]) (st' := [.int 0, .ref 1826]) rfl ?_
          refine G_put (i := 300) (ci := 13) (k := 40) (v := .int 0) rfl rfl g21_1826 rfl rfl ?_
          obtain ⟨S22, eS22⟩ : ∃ T9 : am_S, T9 = am_set S21 1826 (115, some (.inr (13, [.int 0, .int 0, .ref 1827, .int 0, .ref 1828, .ref 1829, .ref 1830, .ref 1831, .int 0, .ref 1832, .ref 1833, .ref 1834, .ref 1835, .int 0, .ref 1836, .ref 1837, .ref 1838, .ref 1839, .ref 1840, .int 0, .ref 1841, .ref 1842, .ref 1843, .ref 1844, .ref 1845, .ref 1846, .ref 1847, .ref 1848, .int 0, .int 0, .int 0, .int 0, .int 0, .long 0, .int 0, .int 0, .int 0, .ref 1849, .ref 1850, .int 0, .int 0, .int 0, .ref 1851, .int 0, .int 0, .ref 1852, .ref 1853, .int 0, .ref 1854, .ref 1855, .int 0, .int 0, .ref 1856, .int 0, .ref 1857, .int 0, .int 0, .int 0, .ref 1858, .int 0, .ref 1859, .ref 1860, .ref 1861, .ref 1862, .ref 1863, .ref 1864, .ref 1865, .int (-1), .ref 1866, .ref 1867, .ref 1868, .ref 1869, .int 0, .ref 1870, .int (-1), .int 0, .int 0, .int 0, .ref 1871, .ref 1872, .ref 1873, .ref 1874, .ref 1875, .ref 1876, .ref 1877, .ref 1878, .ref 1879, .ref 1880, .ref 1881, .int 0, .ref 1882, .ref 1883, .ref 1884, .int 0, .ref 1885, .int 0, .ref 1886, .int (-1), .ref 1887, .int 0, .ref 1888, .int 0, .ref 1889, .ref 1890, .ref 1891, .ref 1892, .ref 1893, .ref 1894, .ref 1895, .ref 1896, .ref 1897, .ref 1898, .int 0, .int 0, .int 0]))) := ⟨_, rfl⟩
          show am_G at_P at_cl at_ty _ mt_185 10 [(0, .ref 1826)] [] (am_set S21 1826 (115, some (.inr (13, [.int 0, .int 0, .ref 1827, .int 0, .ref 1828, .ref 1829, .ref 1830, .ref 1831, .int 0, .ref 1832, .ref 1833, .ref 1834, .ref 1835, .int 0, .ref 1836, .ref 1837, .ref 1838, .ref 1839, .ref 1840, .int 0, .ref 1841, .ref 1842, .ref 1843, .ref 1844, .ref 1845, .ref 1846, .ref 1847, .ref 1848, .int 0, .int 0, .int 0, .int 0, .int 0, .long 0, .int 0, .int 0, .int 0, .ref 1849, .ref 1850, .int 0, .int 0, .int 0, .ref 1851, .int 0, .int 0, .ref 1852, .ref 1853, .int 0, .ref 1854, .ref 1855, .int 0, .int 0, .ref 1856, .int 0, .ref 1857, .int 0, .int 0, .int 0, .ref 1858, .int 0, .ref 1859, .ref 1860, .ref 1861, .ref 1862, .ref 1863, .ref 1864, .ref 1865, .int (-1), .ref 1866, .ref 1867, .ref 1868, .ref 1869, .int 0, .ref 1870, .int (-1), .int 0, .int 0, .int 0, .ref 1871, .ref 1872, .ref 1873, .ref 1874, .ref 1875, .ref 1876, .ref 1877, .ref 1878, .ref 1879, .ref 1880, .ref 1881, .int 0, .ref 1882, .ref 1883, .ref 1884, .int 0, .ref 1885, .int 0, .ref 1886, .int (-1), .ref 1887, .int 0, .ref 1888, .int 0, .ref 1889, .ref 1890, .ref 1891, .ref 1892, .ref 1893, .ref 1894, .ref 1895, .ref 1896, .ref 1897, .ref 1898, .int 0, .int 0, .int 0])))) _
          rw [← eS22]
          have hs22 : am_same [2, 4, 5, 6, 361, 1824, 1826] S S22 := by rw [eS22]; exact am_same_set hs21 g21_1826 (by decide)
          have g22_1 : am_nth S22 1 = some (9, some (.inr (0, [.ref 2, .ref 7, .ref 361, .ref 363, .ref 366, .ref 372, .ref 406, .ref 1824, .int 0]))) := by rw [eS22]; exact am_nth_ne g21_1826 (by decide) g21_1
          have g22_2 : am_nth S22 2 = some (6, some (.inr (1, [.ref 3, .int 0, .ref 4, .ref 5, .ref 6, .int 1]))) := by rw [eS22]; exact am_nth_ne g21_1826 (by decide) g21_2
          have g22_4 : am_nth S22 4 = some (1001, some (.inl (.int, 1001, .int 0, [(0, .int 0)]))) := by rw [eS22]; exact am_nth_ne g21_1826 (by decide) g21_4
          have g22_5 : am_nth S22 5 = some (1001, some (.inl (.int, 1001, .int 0, [(0, .int 0)]))) := by rw [eS22]; exact am_nth_ne g21_1826 (by decide) g21_5
          have g22_6 : am_nth S22 6 = some (1001, some (.inl (.long, 1001, .long 0, [(0, .long 0)]))) := by rw [eS22]; exact am_nth_ne g21_1826 (by decide) g21_6
          have g22_361 : am_nth S22 361 = some (10, some (.inr (6, [.ref 2, .ref 7, .ref 362, .int 0, .int 2, .int 0, .int 2, .ref 25, .ref 1824, .int 0]))) := by rw [eS22]; exact am_nth_ne g21_1826 (by decide) g21_361
          have g22_1824 : am_nth S22 1824 = some (2, some (.inr (5, [.ref 1825, .int 0]))) := by rw [eS22]; exact am_nth_ne g21_1826 (by decide) g21_1824
          have g22_1826 : am_nth S22 1826 = some (115, some (.inr (13, [.int 0, .int 0, .ref 1827, .int 0, .ref 1828, .ref 1829, .ref 1830, .ref 1831, .int 0, .ref 1832, .ref 1833, .ref 1834, .ref 1835, .int 0, .ref 1836, .ref 1837, .ref 1838, .ref 1839, .ref 1840, .int 0, .ref 1841, .ref 1842, .ref 1843, .ref 1844, .ref 1845, .ref 1846, .ref 1847, .ref 1848, .int 0, .int 0, .int 0, .int 0, .int 0, .long 0, .int 0, .int 0, .int 0, .ref 1849, .ref 1850, .int 0, .int 0, .int 0, .ref 1851, .int 0, .int 0, .ref 1852, .ref 1853, .int 0, .ref 1854, .ref 1855, .int 0, .int 0, .ref 1856, .int 0, .ref 1857, .int 0, .int 0, .int 0, .ref 1858, .int 0, .ref 1859, .ref 1860, .ref 1861, .ref 1862, .ref 1863, .ref 1864, .ref 1865, .int (-1), .ref 1866, .ref 1867, .ref 1868, .ref 1869, .int 0, .ref 1870, .int (-1), .int 0, .int 0, .int 0, .ref 1871, .ref 1872, .ref 1873, .ref 1874, .ref 1875, .ref 1876, .ref 1877, .ref 1878, .ref 1879, .ref 1880, .ref 1881, .int 0, .ref 1882, .ref 1883, .ref 1884, .int 0, .ref 1885, .int 0, .ref 1886, .int (-1), .ref 1887, .int 0, .ref 1888, .int 0, .ref 1889, .ref 1890, .ref 1891, .ref 1892, .ref 1893, .ref 1894, .ref 1895, .ref 1896, .ref 1897, .ref 1898, .int 0, .int 0, .int 0]))) := by rw [eS22]; exact am_nth_self g21_1826
          have g22_0 : am_nth S22 0 = some (6, some (.inl (.int, 6, .int 0, [(0, .int y0), (1, .int y1), (2, .int y2), (3, .int y3), (4, .int y4), (5, .int y5)]))) := by rw [eS22]; exact g21_0
          refine G_ps 2 (pc' := 12) (l' := [(0, .ref 1826)]) (st' := [.int 0, .ref 1826]) rfl ?_
          refine G_put (i := 335) (ci := 13) (k := 41) (v := .int 0) rfl rfl g22_1826 rfl rfl ?_
          obtain ⟨S23, eS23⟩ : ∃ T9 : am_S, T9 = am_set S22 1826 (115, some (.inr (13, [.int 0, .int 0, .ref 1827, .int 0, .ref 1828, .ref 1829, .ref 1830, .ref 1831, .int 0, .ref 1832, .ref 1833, .ref 1834, .ref 1835, .int 0, .ref 1836, .ref 1837, .ref 1838, .ref 1839, .ref 1840, .int 0, .ref 1841, .ref 1842, .ref 1843, .ref 1844, .ref 1845, .ref 1846, .ref 1847, .ref 1848, .int 0, .int 0, .int 0, .int 0, .int 0, .long 0, .int 0, .int 0, .int 0, .ref 1849, .ref 1850, .int 0, .int 0, .int 0, .ref 1851, .int 0, .int 0, .ref 1852, .ref 1853, .int 0, .ref 1854, .ref 1855, .int 0, .int 0, .ref 1856, .int 0, .ref 1857, .int 0, .int 0, .int 0, .ref 1858, .int 0, .ref 1859, .ref 1860, .ref 1861, .ref 1862, .ref 1863, .ref 1864, .ref 1865, .int (-1), .ref 1866, .ref 1867, .ref 1868, .ref 1869, .int 0, .ref 1870, .int (-1), .int 0, .int 0, .int 0, .ref 1871, .ref 1872, .ref 1873, .ref 1874, .ref 1875, .ref 1876, .ref 1877, .ref 1878, .ref 1879, .ref 1880, .ref 1881, .int 0, .ref 1882, .ref 1883, .ref 1884, .int 0, .ref 1885, .int 0, .ref 1886, .int (-1), .ref 1887, .int 0, .ref 1888, .int 0, .ref 1889, .ref 1890, .ref 1891, .ref 1892, .ref 1893, .ref 1894, .ref 1895, .ref 1896, .ref 1897, .ref 1898, .int 0, .int 0, .int 0]))) := ⟨_, rfl⟩
          show am_G at_P at_cl at_ty _ mt_185 15 [(0, .ref 1826)] [] (am_set S22 1826 (115, some (.inr (13, [.int 0, .int 0, .ref 1827, .int 0, .ref 1828, .ref 1829, .ref 1830, .ref 1831, .int 0, .ref 1832, .ref 1833, .ref 1834, .ref 1835, .int 0, .ref 1836, .ref 1837, .ref 1838, .ref 1839, .ref 1840, .int 0, .ref 1841, .ref 1842, .ref 1843, .ref 1844, .ref 1845, .ref 1846, .ref 1847, .ref 1848, .int 0, .int 0, .int 0, .int 0, .int 0, .long 0, .int 0, .int 0, .int 0, .ref 1849, .ref 1850, .int 0, .int 0, .int 0, .ref 1851, .int 0, .int 0, .ref 1852, .ref 1853, .int 0, .ref 1854, .ref 1855, .int 0, .int 0, .ref 1856, .int 0, .ref 1857, .int 0, .int 0, .int 0, .ref 1858, .int 0, .ref 1859, .ref 1860, .ref 1861, .ref 1862, .ref 1863, .ref 1864, .ref 1865, .int (-1), .ref 1866, .ref 1867, .ref 1868, .ref 1869, .int 0, .ref 1870, .int (-1), .int 0, .int 0, .int 0, .ref 1871, .ref 1872, .ref 1873, .ref 1874, .ref 1875, .ref 1876, .ref 1877, .ref 1878, .ref 1879, .ref 1880, .ref 1881, .int 0, .ref 1882, .ref 1883, .ref 1884, .int 0, .ref 1885, .int 0, .ref 1886, .int (-1), .ref 1887, .int 0, .ref 1888, .int 0, .ref 1889, .ref 1890, .ref 1891, .ref 1892, .ref 1893, .ref 1894, .ref 1895, .ref 1896, .ref 1897, .ref 1898, .int 0, .int 0, .int 0])))) _
          rw [← eS23]
          have hs23 : am_same [2, 4, 5, 6, 361, 1824, 1826] S S23 := by rw [eS23]; exact am_same_set hs22 g22_1826 (by decide)
          have g23_1 : am_nth S23 1 = some (9, some (.inr (0, [.ref 2, .ref 7, .ref 361, .ref 363, .ref 366, .ref 372, .ref 406, .ref 1824, .int 0]))) := by rw [eS23]; exact am_nth_ne g22_1826 (by decide) g22_1
          have g23_2 : am_nth S23 2 = some (6, some (.inr (1, [.ref 3, .int 0, .ref 4, .ref 5, .ref 6, .int 1]))) := by rw [eS23]; exact am_nth_ne g22_1826 (by decide) g22_2
          have g23_4 : am_nth S23 4 = some (1001, some (.inl (.int, 1001, .int 0, [(0, .int 0)]))) := by rw [eS23]; exact am_nth_ne g22_1826 (by decide) g22_4
          have g23_5 : am_nth S23 5 = some (1001, some (.inl (.int, 1001, .int 0, [(0, .int 0)]))) := by rw [eS23]; exact am_nth_ne g22_1826 (by decide) g22_5
          have g23_6 : am_nth S23 6 = some (1001, some (.inl (.long, 1001, .long 0, [(0, .long 0)]))) := by rw [eS23]; exact am_nth_ne g22_1826 (by decide) g22_6
          have g23_361 : am_nth S23 361 = some (10, some (.inr (6, [.ref 2, .ref 7, .ref 362, .int 0, .int 2, .int 0, .int 2, .ref 25, .ref 1824, .int 0]))) := by rw [eS23]; exact am_nth_ne g22_1826 (by decide) g22_361
          have g23_1824 : am_nth S23 1824 = some (2, some (.inr (5, [.ref 1825, .int 0]))) := by rw [eS23]; exact am_nth_ne g22_1826 (by decide) g22_1824
          have g23_1826 : am_nth S23 1826 = some (115, some (.inr (13, [.int 0, .int 0, .ref 1827, .int 0, .ref 1828, .ref 1829, .ref 1830, .ref 1831, .int 0, .ref 1832, .ref 1833, .ref 1834, .ref 1835, .int 0, .ref 1836, .ref 1837, .ref 1838, .ref 1839, .ref 1840, .int 0, .ref 1841, .ref 1842, .ref 1843, .ref 1844, .ref 1845, .ref 1846, .ref 1847, .ref 1848, .int 0, .int 0, .int 0, .int 0, .int 0, .long 0, .int 0, .int 0, .int 0, .ref 1849, .ref 1850, .int 0, .int 0, .int 0, .ref 1851, .int 0, .int 0, .ref 1852, .ref 1853, .int 0, .ref 1854, .ref 1855, .int 0, .int 0, .ref 1856, .int 0, .ref 1857, .int 0, .int 0, .int 0, .ref 1858, .int 0, .ref 1859, .ref 1860, .ref 1861, .ref 1862, .ref 1863, .ref 1864, .ref 1865, .int (-1), .ref 1866, .ref 1867, .ref 1868, .ref 1869, .int 0, .ref 1870, .int (-1), .int 0, .int 0, .int 0, .ref 1871, .ref 1872, .ref 1873, .ref 1874, .ref 1875, .ref 1876, .ref 1877, .ref 1878, .ref 1879, .ref 1880, .ref 1881, .int 0, .ref 1882, .ref 1883, .ref 1884, .int 0, .ref 1885, .int 0, .ref 1886, .int (-1), .ref 1887, .int 0, .ref 1888, .int 0, .ref 1889, .ref 1890, .ref 1891, .ref 1892, .ref 1893, .ref 1894, .ref 1895, .ref 1896, .ref 1897, .ref 1898, .int 0, .int 0, .int 0]))) := by rw [eS23]; exact am_nth_self g22_1826
          have g23_0 : am_nth S23 0 = some (6, some (.inl (.int, 6, .int 0, [(0, .int y0), (1, .int y1), (2, .int y2), (3, .int y3), (4, .int y4), (5, .int y5)]))) := by rw [eS23]; exact g22_0
          refine G_ps 2 (pc' := 17) (l' := [(0, .ref 1826)]) (st' := [.int 0, .ref 1826]) rfl ?_
          refine G_put (i := 303) (ci := 13) (k := 43) (v := .int 0) rfl rfl g23_1826 rfl rfl ?_
          obtain ⟨S24, eS24⟩ : ∃ T9 : am_S, T9 = am_set S23 1826 (115, some (.inr (13, [.int 0, .int 0, .ref 1827, .int 0, .ref 1828, .ref 1829, .ref 1830, .ref 1831, .int 0, .ref 1832, .ref 1833, .ref 1834, .ref 1835, .int 0, .ref 1836, .ref 1837, .ref 1838, .ref 1839, .ref 1840, .int 0, .ref 1841, .ref 1842, .ref 1843, .ref 1844, .ref 1845, .ref 1846, .ref 1847, .ref 1848, .int 0, .int 0, .int 0, .int 0, .int 0, .long 0, .int 0, .int 0, .int 0, .ref 1849, .ref 1850, .int 0, .int 0, .int 0, .ref 1851, .int 0, .int 0, .ref 1852, .ref 1853, .int 0, .ref 1854, .ref 1855, .int 0, .int 0, .ref 1856, .int 0, .ref 1857, .int 0, .int 0, .int 0, .ref 1858, .int 0, .ref 1859, .ref 1860, .ref 1861, .ref 1862, .ref 1863, .ref 1864, .ref 1865, .int (-1), .ref 1866, .ref 1867, .ref 1868, .ref 1869, .int 0, .ref 1870, .int (-1), .int 0, .int 0, .int 0, .ref 1871, .ref 1872, .ref 1873, .ref 1874, .ref 1875, .ref 1876, .ref 1877, .ref 1878, .ref 1879, .ref 1880, .ref 1881, .int 0, .ref 1882, .ref 1883, .ref 1884, .int 0, .ref 1885, .int 0, .ref 1886, .int (-1), .ref 1887, .int 0, .ref 1888, .int 0, .ref 1889, .ref 1890, .ref 1891, .ref 1892, .ref 1893, .ref 1894, .ref 1895, .ref 1896, .ref 1897, .ref 1898, .int 0, .int 0, .int 0]))) := ⟨_, rfl⟩
          show am_G at_P at_cl at_ty _ mt_185 20 [(0, .ref 1826)] [] (am_set S23 1826 (115, some (.inr (13, [.int 0, .int 0, .ref 1827, .int 0, .ref 1828, .ref 1829, .ref 1830, .ref 1831, .int 0, .ref 1832, .ref 1833, .ref 1834, .ref 1835, .int 0, .ref 1836, .ref 1837, .ref 1838, .ref 1839, .ref 1840, .int 0, .ref 1841, .ref 1842, .ref 1843, .ref 1844, .ref 1845, .ref 1846, .ref 1847, .ref 1848, .int 0, .int 0, .int 0, .int 0, .int 0, .long 0, .int 0, .int 0, .int 0, .ref 1849, .ref 1850, .int 0, .int 0, .int 0, .ref 1851, .int 0, .int 0, .ref 1852, .ref 1853, .int 0, .ref 1854, .ref 1855, .int 0, .int 0, .ref 1856, .int 0, .ref 1857, .int 0, .int 0, .int 0, .ref 1858, .int 0, .ref 1859, .ref 1860, .ref 1861, .ref 1862, .ref 1863, .ref 1864, .ref 1865, .int (-1), .ref 1866, .ref 1867, .ref 1868, .ref 1869, .int 0, .ref 1870, .int (-1), .int 0, .int 0, .int 0, .ref 1871, .ref 1872, .ref 1873, .ref 1874, .ref 1875, .ref 1876, .ref 1877, .ref 1878, .ref 1879, .ref 1880, .ref 1881, .int 0, .ref 1882, .ref 1883, .ref 1884, .int 0, .ref 1885, .int 0, .ref 1886, .int (-1), .ref 1887, .int 0, .ref 1888, .int 0, .ref 1889, .ref 1890, .ref 1891, .ref 1892, .ref 1893, .ref 1894, .ref 1895, .ref 1896, .ref 1897, .ref 1898, .int 0, .int 0, .int 0])))) _
          rw [← eS24]
          have hs24 : am_same [2, 4, 5, 6, 361, 1824, 1826] S S24 := by rw [eS24]; exact am_same_set hs23 g23_1826 (by decide)
          have g24_1 : am_nth S24 1 = some (9, some (.inr (0, [.ref 2, .ref 7, .ref 361, .ref 363, .ref 366, .ref 372, .ref 406, .ref 1824, .int 0]))) := by rw [eS24]; exact am_nth_ne g23_1826 (by decide) g23_1
          have g24_2 : am_nth S24 2 = some (6, some (.inr (1, [.ref 3, .int 0, .ref 4, .ref 5, .ref 6, .int 1]))) := by rw [eS24]; exact am_nth_ne g23_1826 (by decide) g23_2
          have g24_4 : am_nth S24 4 = some (1001, some (.inl (.int, 1001, .int 0, [(0, .int 0)]))) := by rw [eS24]; exact am_nth_ne g23_1826 (by decide) g23_4
          have g24_5 : am_nth S24 5 = some (1001, some (.inl (.int, 1001, .int 0, [(0, .int 0)]))) := by rw [eS24]; exact am_nth_ne g23_1826 (by decide) g23_5
          have g24_6 : am_nth S24 6 = some (1001, some (.inl (.long, 1001, .long 0, [(0, .long 0)]))) := by rw [eS24]; exact am_nth_ne g23_1826 (by decide) g23_6
          have g24_361 : am_nth S24 361 = some (10, some (.inr (6, [.ref 2, .ref 7, .ref 362, .int 0, .int 2, .int 0, .int 2, .ref 25, .ref 1824, .int 0]))) := by rw [eS24]; exact am_nth_ne g23_1826 (by decide) g23_361
          have g24_1824 : am_nth S24 1824 = some (2, some (.inr (5, [.ref 1825, .int 0]))) := by rw [eS24]; exact am_nth_ne g23_1826 (by decide) g23_1824
          have g24_1826 : am_nth S24 1826 = some (115, some (.inr (13, [.int 0, .int 0, .ref 1827, .int 0, .ref 1828, .ref 1829, .ref 1830, .ref 1831, .int 0, .ref 1832, .ref 1833, .ref 1834, .ref 1835, .int 0, .ref 1836, .ref 1837, .ref 1838, .ref 1839, .ref 1840, .int 0, .ref 1841, .ref 1842, .ref 1843, .ref 1844, .ref 1845, .ref 1846, .ref 1847, .ref 1848, .int 0, .int 0, .int 0, .int 0, .int 0, .long 0, .int 0, .int 0, .int 0, .ref 1849, .ref 1850, .int 0, .int 0, .int 0, .ref 1851, .int 0, .int 0, .ref 1852, .ref 1853, .int 0, .ref 1854, .ref 1855, .int 0, .int 0, .ref 1856, .int 0, .ref 1857, .int 0, .int 0, .int 0, .ref 1858, .int 0, .ref 1859, .ref 1860, .ref 1861, .ref 1862, .ref 1863, .ref 1864, .ref 1865, .int (-1), .ref 1866, .ref 1867, .ref 1868, .ref 1869, .int 0, .ref 1870, .int (-1), .int 0, .int 0, .int 0, .ref 1871, .ref 1872, .ref 1873, .ref 1874, .ref 1875, .ref 1876, .ref 1877, .ref 1878, .ref 1879, .ref 1880, .ref 1881, .int 0, .ref 1882, .ref 1883, .ref 1884, .int 0, .ref 1885, .int 0, .ref 1886, .int (-1), .ref 1887, .int 0, .ref 1888, .int 0, .ref 1889, .ref 1890, .ref 1891, .ref 1892, .ref 1893, .ref 1894, .ref 1895, .ref 1896, .ref 1897, .ref 1898, .int 0, .int 0, .int 0]))) := by rw [eS24]; exact am_nth_self g23_1826
          have g24_0 : am_nth S24 0 = some (6, some (.inl (.int, 6, .int 0, [(0, .int y0), (1, .int y1), (2, .int y2), (3, .int y3), (4, .int y4), (5, .int y5)]))) := by rw [eS24]; exact g23_0
          refine G_ret rfl rfl rfl ?_
          show am_G at_P at_cl at_ty _ mt_201 27 [(0, .ref 1826), (1, .int y1)] [] _ _
          refine G_ps 2 (pc' := 29) (l' := [(0, .ref 1826), (1, .int y1)]) (st' := [.int 3, .ref 1826]) rfl ?_
          refine G_put (i := 367) (ci := 13) (k := 44) (v := .int 3) rfl rfl g24_1826 rfl rfl ?_
          obtain ⟨S25, eS25⟩ : ∃ T9 : am_S, T9 = am_set S24 1826 (115, some (.inr (13, [.int 0, .int 0, .ref 1827, .int 0, .ref 1828, .ref 1829, .ref 1830, .ref 1831, .int 0, .ref 1832, .ref 1833, .ref 1834, .ref 1835, .int 0, .ref 1836, .ref 1837, .ref 1838, .ref 1839, .ref 1840, .int 0, .ref 1841, .ref 1842, .ref 1843, .ref 1844, .ref 1845, .ref 1846, .ref 1847, .ref 1848, .int 0, .int 0, .int 0, .int 0, .int 0, .long 0, .int 0, .int 0, .int 0, .ref 1849, .ref 1850, .int 0, .int 0, .int 0, .ref 1851, .int 0, .int 3, .ref 1852, .ref 1853, .int 0, .ref 1854, .ref 1855, .int 0, .int 0, .ref 1856, .int 0, .ref 1857, .int 0, .int 0, .int 0, .ref 1858, .int 0, .ref 1859, .ref 1860, .ref 1861, .ref 1862, .ref 1863, .ref 1864, .ref 1865, .int (-1), .ref 1866, .ref 1867, .ref 1868, .ref 1869, .int 0, .ref 1870, .int (-1), .int 0, .int 0, .int 0, .ref 1871, .ref 1872, .ref 1873, .ref 1874, .ref 1875, .ref 1876, .ref 1877, .ref 1878, .ref 1879, .ref 1880, .ref 1881, .int 0, .ref 1882, .ref 1883, .ref 1884, .int 0, .ref 1885, .int 0, .ref 1886, .int (-1), .ref 1887, .int 0, .ref 1888, .int 0, .ref 1889, .ref 1890, .ref 1891, .ref 1892, .ref 1893, .ref 1894, .ref 1895, .ref 1896, .ref 1897, .ref 1898, .int 0, .int 0, .int 0]))) := ⟨_, rfl⟩
          show am_G at_P at_cl at_ty _ mt_201 32 [(0, .ref 1826), (1, .int y1)] [] (am_set S24 1826 (115, some (.inr (13, [.int 0, .int 0, .ref 1827, .int 0, .ref 1828, .ref 1829, .ref 1830, .ref 1831, .int 0, .ref 1832, .ref 1833, .ref 1834, .ref 1835, .int 0, .ref 1836, .ref 1837, .ref 1838, .ref 1839, .ref 1840, .int 0, .ref 1841, .ref 1842, .ref 1843, .ref 1844, .ref 1845, .ref 1846, .ref 1847, .ref 1848, .int 0, .int 0, .int 0, .int 0, .int 0, .long 0, .int 0, .int 0, .int 0, .ref 1849, .ref 1850, .int 0, .int 0, .int 0, .ref 1851, .int 0, .int 3, .ref 1852, .ref 1853, .int 0, .ref 1854, .ref 1855, .int 0, .int 0, .ref 1856, .int 0, .ref 1857, .int 0, .int 0, .int 0, .ref 1858, .int 0, .ref 1859, .ref 1860, .ref 1861, .ref 1862, .ref 1863, .ref 1864, .ref 1865, .int (-1), .ref 1866, .ref 1867, .ref 1868, .ref 1869, .int 0, .ref 1870, .int (-1), .int 0, .int 0, .int 0, .ref 1871, .ref 1872, .ref 1873, .ref 1874, .ref 1875, .ref 1876, .ref 1877, .ref 1878, .ref 1879, .ref 1880, .ref 1881, .int 0, .ref 1882, .ref 1883, .ref 1884, .int 0, .ref 1885, .int 0, .ref 1886, .int (-1), .ref 1887, .int 0, .ref 1888, .int 0, .ref 1889, .ref 1890, .ref 1891, .ref 1892, .ref 1893, .ref 1894, .ref 1895, .ref 1896, .ref 1897, .ref 1898, .int 0, .int 0, .int 0])))) _
          rw [← eS25]
          have hs25 : am_same [2, 4, 5, 6, 361, 1824, 1826] S S25 := by rw [eS25]; exact am_same_set hs24 g24_1826 (by decide)
          have g25_1 : am_nth S25 1 = some (9, some (.inr (0, [.ref 2, .ref 7, .ref 361, .ref 363, .ref 366, .ref 372, .ref 406, .ref 1824, .int 0]))) := by rw [eS25]; exact am_nth_ne g24_1826 (by decide) g24_1
          have g25_2 : am_nth S25 2 = some (6, some (.inr (1, [.ref 3, .int 0, .ref 4, .ref 5, .ref 6, .int 1]))) := by rw [eS25]; exact am_nth_ne g24_1826 (by decide) g24_2
          have g25_4 : am_nth S25 4 = some (1001, some (.inl (.int, 1001, .int 0, [(0, .int 0)]))) := by rw [eS25]; exact am_nth_ne g24_1826 (by decide) g24_4
          have g25_5 : am_nth S25 5 = some (1001, some (.inl (.int, 1001, .int 0, [(0, .int 0)]))) := by rw [eS25]; exact am_nth_ne g24_1826 (by decide) g24_5
          have g25_6 : am_nth S25 6 = some (1001, some (.inl (.long, 1001, .long 0, [(0, .long 0)]))) := by rw [eS25]; exact am_nth_ne g24_1826 (by decide) g24_6
          have g25_361 : am_nth S25 361 = some (10, some (.inr (6, [.ref 2, .ref 7, .ref 362, .int 0, .int 2, .int 0, .int 2, .ref 25, .ref 1824, .int 0]))) := by rw [eS25]; exact am_nth_ne g24_1826 (by decide) g24_361
          have g25_1824 : am_nth S25 1824 = some (2, some (.inr (5, [.ref 1825, .int 0]))) := by rw [eS25]; exact am_nth_ne g24_1826 (by decide) g24_1824
          have g25_1826 : am_nth S25 1826 = some (115, some (.inr (13, [.int 0, .int 0, .ref 1827, .int 0, .ref 1828, .ref 1829, .ref 1830, .ref 1831, .int 0, .ref 1832, .ref 1833, .ref 1834, .ref 1835, .int 0, .ref 1836, .ref 1837, .ref 1838, .ref 1839, .ref 1840, .int 0, .ref 1841, .ref 1842, .ref 1843, .ref 1844, .ref 1845, .ref 1846, .ref 1847, .ref 1848, .int 0, .int 0, .int 0, .int 0, .int 0, .long 0, .int 0, .int 0, .int 0, .ref 1849, .ref 1850, .int 0, .int 0, .int 0, .ref 1851, .int 0, .int 3, .ref 1852, .ref 1853, .int 0, .ref 1854, .ref 1855, .int 0, .int 0, .ref 1856, .int 0, .ref 1857, .int 0, .int 0, .int 0, .ref 1858, .int 0, .ref 1859, .ref 1860, .ref 1861, .ref 1862, .ref 1863, .ref 1864, .ref 1865, .int (-1), .ref 1866, .ref 1867, .ref 1868, .ref 1869, .int 0, .ref 1870, .int (-1), .int 0, .int 0, .int 0, .ref 1871, .ref 1872, .ref 1873, .ref 1874, .ref 1875, .ref 1876, .ref 1877, .ref 1878, .ref 1879, .ref 1880, .ref 1881, .int 0, .ref 1882, .ref 1883, .ref 1884, .int 0, .ref 1885, .int 0, .ref 1886, .int (-1), .ref 1887, .int 0, .ref 1888, .int 0, .ref 1889, .ref 1890, .ref 1891, .ref 1892, .ref 1893, .ref 1894, .ref 1895, .ref 1896, .ref 1897, .ref 1898, .int 0, .int 0, .int 0]))) := by rw [eS25]; exact am_nth_self g24_1826
          have g25_0 : am_nth S25 0 = some (6, some (.inl (.int, 6, .int 0, [(0, .int y0), (1, .int y1), (2, .int y2), (3, .int y3), (4, .int y4), (5, .int y5)]))) := by rw [eS25]; exact g24_0
          refine G_ps 1 (pc' := 33) (l' := [(0, .ref 1826), (1, .int y1)]) (st' := [.ref 1826]) rfl ?_
          refine G_cv (i := 293) (j := 158) (b := 1826) (M' := mt_158) (xs := []) (rest := []) rfl rfl rfl rfl g25_1826 (Nat.le_of_ble_eq_true rfl) (Nat.le_of_ble_eq_true rfl) ?_ (fun _ _ _ _ h9 => h9)
          show am_G at_P at_cl at_ty _ mt_158 0 [(0, .ref 1826)] [] _ _
          refine G_ps 1 (pc' := 1) (l' := [(0, .ref 1826)]) (st' := [.ref 1826]) rfl ?_
          refine G_get (i := 248) (ci := 13) (k := 35) (v := .int 0) rfl rfl g25_1826 rfl ?_
          show am_G at_P at_cl at_ty _ mt_158 4 [(0, .ref 1826)] [.int 0] _ _
          refine G_ps 3 (pc' := 12) (l' := [(0, .ref 1826)]) (st' := [.int 1]) rfl ?_
          refine G_ret rfl rfl rfl ?_
          show am_G at_P at_cl at_ty _ mt_201 36 [(0, .ref 1826), (1, .int y1)] [.int 1] _ _
          refine G_ps 3 (pc' := 41) (l' := [(0, .ref 1826), (1, .int y1)]) (st' := [.int (-1), .ref 1826]) rfl ?_
          refine G_cv (i := 385) (j := 180) (b := 1826) (M' := mt_180) (xs := [.int (-1)]) (rest := []) rfl rfl rfl rfl g25_1826 (Nat.le_of_ble_eq_true rfl) (Nat.le_of_ble_eq_true rfl) ?_ (fun _ _ _ _ h9 => h9)
          show am_G at_P at_cl at_ty _ mt_180 0 [(0, .ref 1826), (1, .int (-1))] [] _ _
          refine G_ps 4 (pc' := 4) (l' := [(2, .int (-1)), (0, .ref 1826), (1, .int (-1))]) (st' := [.int 0, .ref 1826]) rfl ?_
          refine G_put (i := 328) (ci := 13) (k := 47) (v := .int 0) rfl rfl g25_1826 rfl rfl ?_
          obtain ⟨S26, eS26⟩ : ∃ T9 : am_S, T9 = am_set S25 1826 (115, some (.inr (13, [.int 0, .int 0, .ref 1827, .int 0, .ref 1828, .ref 1829, .ref 1830, .ref 1831, .int 0, .ref 1832, .ref 1833, .ref 1834, .ref 1835, .int 0, .ref 1836, .ref 1837, .ref 1838, .ref 1839, .ref 1840, .int 0, .ref 1841, .ref 1842, .ref 1843, .ref 1844, .ref 1845, .ref 1846, .ref 1847, .ref 1848, .int 0, .int 0, .int 0, .int 0, .int 0, .long 0, .int 0, .int 0, .int 0, .ref 1849, .ref 1850, .int 0, .int 0, .int 0, .ref 1851, .int 0, .int 3, .ref 1852, .ref 1853, .int 0, .ref 1854, .ref 1855, .int 0, .int 0, .ref 1856, .int 0, .ref 1857, .int 0, .int 0, .int 0, .ref 1858, .int 0, .ref 1859, .ref 1860, .ref 1861, .ref 1862, .ref 1863, .ref 1864, .ref 1865, .int (-1), .ref 1866, .ref 1867, .ref 1868, .ref 1869, .int 0, .ref 1870, .int (-1), .int 0, .int 0, .int 0, .ref 1871, .ref 1872, .ref 1873, .ref 1874, .ref 1875, .ref 1876, .ref 1877, .ref 1878, .ref 1879, .ref 1880, .ref 1881, .int 0, .ref 1882, .ref 1883, .ref 1884, .int 0, .ref 1885, .int 0, .ref 1886, .int (-1), .ref 1887, .int 0, .ref 1888, .int 0, .ref 1889, .ref 1890, .ref 1891, .ref 1892, .ref 1893, .ref 1894, .ref 1895, .ref 1896, .ref 1897, .ref 1898, .int 0, .int 0, .int 0]))) := ⟨_, rfl⟩
          show am_G at_P at_cl at_ty _ mt_180 7 [(2, .int (-1)), (0, .ref 1826), (1, .int (-1))] [] (am_set S25 1826 (115, some (.inr (13, [.int 0, .int 0, .ref 1827, .int 0, .ref 1828, .ref 1829, .ref 1830, .ref 1831, .int 0, .ref 1832, .ref 1833, .ref 1834, .ref 1835, .int 0, .ref 1836, .ref 1837, .ref 1838, .ref 1839, .ref 1840, .int 0, .ref 1841, .ref 1842, .ref 1843, .ref 1844, .ref 1845, .ref 1846, .ref 1847, .ref 1848, .int 0, .int 0, .int 0, .int 0, .int 0, .long 0, .int 0, .int 0, .int 0, .ref 1849, .ref 1850, .int 0, .int 0, .int 0, .ref 1851, .int 0, .int 3, .ref 1852, .ref 1853, .int 0, .ref 1854, .ref 1855, .int 0, .int 0, .ref 1856, .int 0, .ref 1857, .int 0, .int 0, .int 0, .ref 1858, .int 0, .ref 1859, .ref 1860, .ref 1861, .ref 1862, .ref 1863, .ref 1864, .ref 1865, .int (-1), .ref 1866, .ref 1867, .ref 1868, .ref 1869, .int 0, .ref 1870, .int (-1), .int 0, .int 0, .int 0, .ref 1871, .ref 1872, .ref 1873, .ref 1874, .ref 1875, .ref 1876, .ref 1877, .ref 1878, .ref 1879, .ref 1880, .ref 1881, .int 0, .ref 1882, .ref 1883, .ref 1884, .int 0, .ref 1885, .int 0, .ref 1886, .int (-1), .ref 1887, .int 0, .ref 1888, .int 0, .ref 1889, .ref 1890, .ref 1891, .ref 1892, .ref 1893, .ref 1894, .ref 1895, .ref 1896, .ref 1897, .ref 1898, .int 0, .int 0, .int 0])))) _
          rw [← eS26]
          have hs26 : am_same [2, 4, 5, 6, 361, 1824, 1826] S S26 := by rw [eS26]; exact am_same_set hs25 g25_1826 (by decide)
          have g26_1 : am_nth S26 1 = some (9, some (.inr (0, [.ref 2, .ref 7, .ref 361, .ref 363, .ref 366, .ref 372, .ref 406, .ref 1824, .int 0]))) := by rw [eS26]; exact am_nth_ne g25_1826 (by decide) g25_1
          have g26_2 : am_nth S26 2 = some (6, some (.inr (1, [.ref 3, .int 0, .ref 4, .ref 5, .ref 6, .int 1]))) := by rw [eS26]; exact am_nth_ne g25_1826 (by decide) g25_2
          have g26_4 : am_nth S26 4 = some (1001, some (.inl (.int, 1001, .int 0, [(0, .int 0)]))) := by rw [eS26]; exact am_nth_ne g25_1826 (by decide) g25_4
          have g26_5 : am_nth S26 5 = some (1001, some (.inl (.int, 1001, .int 0, [(0, .int 0)]))) := by rw [eS26]; exact am_nth_ne g25_1826 (by decide) g25_5
          have g26_6 : am_nth S26 6 = some (1001, some (.inl (.long, 1001, .long 0, [(0, .long 0)]))) := by rw [eS26]; exact am_nth_ne g25_1826 (by decide) g25_6
          have g26_361 : am_nth S26 361 = some (10, some (.inr (6, [.ref 2, .ref 7, .ref 362, .int 0, .int 2, .int 0, .int 2, .ref 25, .ref 1824, .int 0]))) := by rw [eS26]; exact am_nth_ne g25_1826 (by decide) g25_361
          have g26_1824 : am_nth S26 1824 = some (2, some (.inr (5, [.ref 1825, .int 0]))) := by rw [eS26]; exact am_nth_ne g25_1826 (by decide) g25_1824
          have g26_1826 : am_nth S26 1826 = some (115, some (.inr (13, [.int 0, .int 0, .ref 1827, .int 0, .ref 1828, .ref 1829, .ref 1830, .ref 1831, .int 0, .ref 1832, .ref 1833, .ref 1834, .ref 1835, .int 0, .ref 1836, .ref 1837, .ref 1838, .ref 1839, .ref 1840, .int 0, .ref 1841, .ref 1842, .ref 1843, .ref 1844, .ref 1845, .ref 1846, .ref 1847, .ref 1848, .int 0, .int 0, .int 0, .int 0, .int 0, .long 0, .int 0, .int 0, .int 0, .ref 1849, .ref 1850, .int 0, .int 0, .int 0, .ref 1851, .int 0, .int 3, .ref 1852, .ref 1853, .int 0, .ref 1854, .ref 1855, .int 0, .int 0, .ref 1856, .int 0, .ref 1857, .int 0, .int 0, .int 0, .ref 1858, .int 0, .ref 1859, .ref 1860, .ref 1861, .ref 1862, .ref 1863, .ref 1864, .ref 1865, .int (-1), .ref 1866, .ref 1867, .ref 1868, .ref 1869, .int 0, .ref 1870, .int (-1), .int 0, .int 0, .int 0, .ref 1871, .ref 1872, .ref 1873, .ref 1874, .ref 1875, .ref 1876, .ref 1877, .ref 1878, .ref 1879, .ref 1880, .ref 1881, .int 0, .ref 1882, .ref 1883, .ref 1884, .int 0, .ref 1885, .int 0, .ref 1886, .int (-1), .ref 1887, .int 0, .ref 1888, .int 0, .ref 1889, .ref 1890, .ref 1891, .ref 1892, .ref 1893, .ref 1894, .ref 1895, .ref 1896, .ref 1897, .ref 1898, .int 0, .int 0, .int 0]))) := by rw [eS26]; exact am_nth_self g25_1826
          have g26_0 : am_nth S26 0 = some (6, some (.inl (.int, 6, .int 0, [(0, .int y0), (1, .int y1), (2, .int y2), (3, .int y3), (4, .int y4), (5, .int y5)]))) := by rw [eS26]; exact g25_0
          refine G_ps 7 (pc' := 16) (l' := [(5, .int 1), (4, .int (-1)), (3, .int 1), (2, .int (-1)), (0, .ref 1826), (1, .int (-1))]) (st' := [.ref 1826]) rfl ?_
          refine G_get (i := 335) (ci := 13) (k := 41) (v := .int 0) rfl rfl g26_1826 rfl ?_
          show am_G at_P at_cl at_ty _ mt_180 19 [(5, .int 1), (4, .int (-1)), (3, .int 1), (2, .int (-1)), (0, .ref 1826), (1, .int (-1))] [.int 0] _ _
          refine G_ps 2 (pc' := 22) (l' := [(6, .int 0), (5, .int 1), (4, .int (-1)), (3, .int 1), (2, .int (-1)), (0, .ref 1826), (1, .int (-1))]) (st' := [.ref 1826]) rfl ?_
          refine G_cv (i := 293) (j := 158) (b := 1826) (M' := mt_158) (xs := []) (rest := []) rfl rfl rfl rfl g26_1826 (Nat.le_of_ble_eq_true rfl) (Nat.le_of_ble_eq_true rfl) ?_ (fun _ _ _ _ h9 => h9)
          show am_G at_P at_cl at_ty _ mt_158 0 [(0, .ref 1826)] [] _ _
          refine G_ps 1 (pc' := 1) (l' := [(0, .ref 1826)]) (st' := [.ref 1826]) rfl ?_
          refine G_get (i := 248) (ci := 13) (k := 35) (v := .int 0) rfl rfl g26_1826 rfl ?_
          show am_G at_P at_cl at_ty _ mt_158 4 [(0, .ref 1826)] [.int 0] _ _
          refine G_ps 3 (pc' := 12) (l' := [(0, .ref 1826)]) (st' := [.int 1]) rfl ?_
          refine G_ret rfl rfl rfl ?_
          show am_G at_P at_cl at_ty _ mt_180 25 [(6, .int 0), (5, .int 1), (4, .int (-1)), (3, .int 1), (2, .int (-1)), (0, .ref 1826), (1, .int (-1))] [.int 1] _ _
          refine G_ps 6 (pc' := 37) (l' := [(6, .int 0), (5, .int 1), (4, .int (-1)), (3, .int 1), (2, .int (-1)), (0, .ref 1826), (1, .int (-1))]) (st' := [.int 1, .int (-1), .ref 1826]) rfl ?_
          refine G_cv (i := 360) (j := 182) (b := 1826) (M' := mt_182) (xs := [.int 1, .int (-1)]) (rest := []) rfl rfl rfl rfl g26_1826 (Nat.le_of_ble_eq_true rfl) (Nat.le_of_ble_eq_true rfl) ?_ (fun _ _ _ _ h9 => h9)
          show am_G at_P at_cl at_ty _ mt_182 0 [(0, .ref 1826), (1, .int (-1)), (2, .int 1)] [] _ _
          refine G_ps 1 (pc' := 1) (l' := [(0, .ref 1826), (1, .int (-1)), (2, .int 1)]) (st' := [.ref 1826]) rfl ?_
          refine G_get (i := 271) (ci := 13) (k := 31) (v := .int 0) rfl rfl g26_1826 rfl ?_
          show am_G at_P at_cl at_ty _ mt_182 4 [(0, .ref 1826), (1, .int (-1)), (2, .int 1)] [.int 0] _ _
          refine G_ps 3 (pc' := 35) (l' := [(0, .ref 1826), (1, .int (-1)), (2, .int 1)]) (st' := [.ref 1826]) rfl ?_
          refine G_get (i := 271) (ci := 13) (k := 31) (v := .int 0) rfl rfl g26_1826 rfl ?_
          show am_G at_P at_cl at_ty _ mt_182 38 [(0, .ref 1826), (1, .int (-1)), (2, .int 1)] [.int 0] _ _
          refine G_ps 3 (pc' := 84) (l' := [(0, .ref 1826), (1, .int (-1)), (2, .int 1)]) (st' := [.ref 1826]) rfl ?_
          refine G_get (i := 271) (ci := 13) (k := 31) (v := .int 0) rfl rfl g26_1826 rfl ?_
          show am_G at_P at_cl at_ty _ mt_182 87 [(0, .ref 1826), (1, .int (-1)), (2, .int 1)] [.int 0] _ _
          refine G_ps 3 (pc' := 92) (l' := [(0, .ref 1826), (1, .int (-1)), (2, .int 1)]) (st' := [.ref 1826]) rfl ?_
          refine G_get (i := 271) (ci := 13) (k := 31) (v := .int 0) rfl rfl g26_1826 rfl ?_
          show am_G at_P at_cl at_ty _ mt_182 95 [(0, .ref 1826), (1, .int (-1)), (2, .int 1)] [.int 0] _ _
          refine G_ps 4 (pc' := 101) (l' := [(0, .ref 1826), (1, .int (-1)), (2, .int 1)]) (st' := [.int 2, .ref 1826]) rfl ?_
          refine G_cv (i := 278) (j := 159) (b := 1826) (M' := mt_159) (xs := [.int 2]) (rest := []) rfl rfl rfl rfl g26_1826 (Nat.le_of_ble_eq_true rfl) (Nat.le_of_ble_eq_true rfl) ?_ (fun _ _ _ _ h9 => h9)
          show am_G at_P at_cl at_ty _ mt_159 0 [(0, .ref 1826), (1, .int 2)] [] _ _
          refine G_ps 3 (pc' := 3) (l' := [(0, .ref 1826), (1, .int 2)]) (st' := [.ref 1826, .int 2, .ref 1826]) rfl ?_
          refine G_get (i := 251) (ci := 13) (k := 32) (v := .int 0) rfl rfl g26_1826 rfl ?_
          show am_G at_P at_cl at_ty _ mt_159 6 [(0, .ref 1826), (1, .int 2)] [.int 0, .int 2, .ref 1826] _ _
          refine G_cv (i := 254) (j := 160) (b := 1826) (M' := mt_160) (xs := [.int 0, .int 2]) (rest := []) rfl rfl rfl rfl g26_1826 (Nat.le_of_ble_eq_true rfl) (Nat.le_of_ble_eq_true rfl) ?_ (fun _ _ _ _ h9 => h9)
          show am_G at_P at_cl at_ty _ mt_160 0 [(0, .ref 1826), (1, .int 2), (2, .int 0)] [] _ _
          refine G_ps 1 (pc' := 1) (l' := [(0, .ref 1826), (1, .int 2), (2, .int 0)]) (st' := [.ref 1826]) rfl ?_
          refine G_get (i := 248) (ci := 13) (k := 35) (v := .int 0) rfl rfl g26_1826 rfl ?_
          show am_G at_P at_cl at_ty _ mt_160 4 [(0, .ref 1826), (1, .int 2), (2, .int 0)] [.int 0] _ _
          refine G_ps 3 (pc' := 9) (l' := [(0, .ref 1826), (1, .int 2), (2, .int 0)]) (st' := [.int 2, .ref 1826]) rfl ?_
          refine G_put (i := 248) (ci := 13) (k := 35) (v := .int 2) rfl rfl g26_1826 rfl rfl ?_
          obtain ⟨S27, eS27⟩ : ∃ T9 : am_S, T9 = am_set S26 1826 (115, some (.inr (13, [.int 0, .int 0, .ref 1827, .int 0, .ref 1828, .ref 1829, .ref 1830, .ref 1831, .int 0, .ref 1832, .ref 1833, .ref 1834, .ref 1835, .int 0, .ref 1836, .ref 1837, .ref 1838, .ref 1839, .ref 1840, .int 0, .ref 1841, .ref 1842, .ref 1843, .ref 1844, .ref 1845, .ref 1846, .ref 1847, .ref 1848, .int 0, .int 0, .int 0, .int 0, .int 0, .long 0, .int 0, .int 2, .int 0, .ref 1849, .ref 1850, .int 0, .int 0, .int 0, .ref 1851, .int 0, .int 3, .ref 1852, .ref 1853, .int 0, .ref 1854, .ref 1855, .int 0, .int 0, .ref 1856, .int 0, .ref 1857, .int 0, .int 0, .int 0, .ref 1858, .int 0, .ref 1859, .ref 1860, .ref 1861, .ref 1862, .ref 1863, .ref 1864, .ref 1865, .int (-1), .ref 1866, .ref 1867, .ref 1868, .ref 1869, .int 0, .ref 1870, .int (-1), .int 0, .int 0, .int 0, .ref 1871, .ref 1872, .ref 1873, .ref 1874, .ref 1875, .ref 1876, .ref 1877, .ref 1878, .ref 1879, .ref 1880, .ref 1881, .int 0, .ref 1882, .ref 1883, .ref 1884, .int 0, .ref 1885, .int 0, .ref 1886, .int (-1), .ref 1887, .int 0, .ref 1888, .int 0, .ref 1889, .ref 1890, .ref 1891, .ref 1892, .ref 1893, .ref 1894, .ref 1895, .ref 1896, .ref 1897, .ref 1898, .int 0, .int 0, .int 0]))) := ⟨_, rfl⟩
          show am_G at_P at_cl at_ty _ mt_160 12 [(0, .ref 1826), (1, .int 2), (2, .int 0)] [] (am_set S26 1826 (115, some (.inr (13, [.int 0, .int 0, .ref 1827, .int 0, .ref 1828, .ref 1829, .ref 1830, .ref 1831, .int 0, .ref 1832, .ref 1833, .ref 1834, .ref 1835, .int 0, .ref 1836, .ref 1837, .ref 1838, .ref 1839, .ref 1840, .int 0, .ref 1841, .ref 1842, .ref 1843, .ref 1844, .ref 1845, .ref 1846, .ref 1847, .ref 1848, .int 0, .int 0, .int 0, .int 0, .int 0, .long 0, .int 0, .int 2, .int 0, .ref 1849, .ref 1850, .int 0, .int 0, .int 0, .ref 1851, .int 0, .int 3, .ref 1852, .ref 1853, .int 0, .ref 1854, .ref 1855, .int 0, .int 0, .ref 1856, .int 0, .ref 1857, .int 0, .int 0, .int 0, .ref 1858, .int 0, .ref 1859, .ref 1860, .ref 1861, .ref 1862, .ref 1863, .ref 1864, .ref 1865, .int (-1), .ref 1866, .ref 1867, .ref 1868, .ref 1869, .int 0, .ref 1870, .int (-1), .int 0, .int 0, .int 0, .ref 1871, .ref 1872, .ref 1873, .ref 1874, .ref 1875, .ref 1876, .ref 1877, .ref 1878, .ref 1879, .ref 1880, .ref 1881, .int 0, .ref 1882, .ref 1883, .ref 1884, .int 0, .ref 1885, .int 0, .ref 1886, .int (-1), .ref 1887, .int 0, .ref 1888, .int 0, .ref 1889, .ref 1890, .ref 1891, .ref 1892, .ref 1893, .ref 1894, .ref 1895, .ref 1896, .ref 1897, .ref 1898, .int 0, .int 0, .int 0])))) _
          rw [← eS27]
          have hs27 : am_same [2, 4, 5, 6, 361, 1824, 1826] S S27 := by rw [eS27]; exact am_same_set hs26 g26_1826 (by decide)
          have g27_1 : am_nth S27 1 = some (9, some (.inr (0, [.ref 2, .ref 7, .ref 361, .ref 363, .ref 366, .ref 372, .ref 406, .ref 1824, .int 0]))) := by rw [eS27]; exact am_nth_ne g26_1826 (by decide) g26_1
          have g27_2 : am_nth S27 2 = some (6, some (.inr (1, [.ref 3, .int 0, .ref 4, .ref 5, .ref 6, .int 1]))) := by rw [eS27]; exact am_nth_ne g26_1826 (by decide) g26_2
          have g27_4 : am_nth S27 4 = some (1001, some (.inl (.int, 1001, .int 0, [(0, .int 0)]))) := by rw [eS27]; exact am_nth_ne g26_1826 (by decide) g26_4
          have g27_5 : am_nth S27 5 = some (1001, some (.inl (.int, 1001, .int 0, [(0, .int 0)]))) := by rw [eS27]; exact am_nth_ne g26_1826 (by decide) g26_5
          have g27_6 : am_nth S27 6 = some (1001, some (.inl (.long, 1001, .long 0, [(0, .long 0)]))) := by rw [eS27]; exact am_nth_ne g26_1826 (by decide) g26_6
          have g27_361 : am_nth S27 361 = some (10, some (.inr (6, [.ref 2, .ref 7, .ref 362, .int 0, .int 2, .int 0, .int 2, .ref 25, .ref 1824, .int 0]))) := by rw [eS27]; exact am_nth_ne g26_1826 (by decide) g26_361
          have g27_1824 : am_nth S27 1824 = some (2, some (.inr (5, [.ref 1825, .int 0]))) := by rw [eS27]; exact am_nth_ne g26_1826 (by decide) g26_1824
          have g27_1826 : am_nth S27 1826 = some (115, some (.inr (13, [.int 0, .int 0, .ref 1827, .int 0, .ref 1828, .ref 1829, .ref 1830, .ref 1831, .int 0, .ref 1832, .ref 1833, .ref 1834, .ref 1835, .int 0, .ref 1836, .ref 1837, .ref 1838, .ref 1839, .ref 1840, .int 0, .ref 1841, .ref 1842, .ref 1843, .ref 1844, .ref 1845, .ref 1846, .ref 1847, .ref 1848, .int 0, .int 0, .int 0, .int 0, .int 0, .long 0, .int 0, .int 2, .int 0, .ref 1849, .ref 1850, .int 0, .int 0, .int 0, .ref 1851, .int 0, .int 3, .ref 1852, .ref 1853, .int 0, .ref 1854, .ref 1855, .int 0, .int 0, .ref 1856, .int 0, .ref 1857, .int 0, .int 0, .int 0, .ref 1858, .int 0, .ref 1859, .ref 1860, .ref 1861, .ref 1862, .ref 1863, .ref 1864, .ref 1865, .int (-1), .ref 1866, .ref 1867, .ref 1868, .ref 1869, .int 0, .ref 1870, .int (-1), .int 0, .int 0, .int 0, .ref 1871, .ref 1872, .ref 1873, .ref 1874, .ref 1875, .ref 1876, .ref 1877, .ref 1878, .ref 1879, .ref 1880, .ref 1881, .int 0, .ref 1882, .ref 1883, .ref 1884, .int 0, .ref 1885, .int 0, .ref 1886, .int (-1), .ref 1887, .int 0, .ref 1888, .int 0, .ref 1889, .ref 1890, .ref 1891, .ref 1892, .ref 1893, .ref 1894, .ref 1895, .ref 1896, .ref 1897, .ref 1898, .int 0, .int 0, .int 0]))) := by rw [eS27]; exact am_nth_self g26_1826
          have g27_0 : am_nth S27 0 = some (6, some (.inl (.int, 6, .int 0, [(0, .int y0), (1, .int y1), (2, .int y2), (3, .int y3), (4, .int y4), (5, .int y5)]))) := by rw [eS27]; exact g26_0
          refine G_ps 2 (pc' := 14) (l' := [(0, .ref 1826), (1, .int 2), (2, .int 0)]) (st' := [.int 0, .ref 1826]) rfl ?_
          refine G_put (i := 258) (ci := 13) (k := 36) (v := .int 0) rfl rfl g27_1826 rfl rfl ?_
          obtain ⟨S28, eS28⟩ : ∃ T9 : am_S, T9 = am_set S27 1826 (115, some (.inr (13, [.int 0, .int 0, .ref 1827, .int 0, .ref 1828, .ref 1829, .ref 1830, .ref 1831, .int 0, .ref 1832, .ref 1833, .ref 1834, .ref 1835, .int 0, .ref 1836, .ref 1837, .ref 1838, .ref 1839, .ref 1840, .int 0, .ref 1841, .ref 1842, .ref 1843, .ref 1844, .ref 1845, .ref 1846, .ref 1847, .ref 1848, .int 0, .int 0, .int 0, .int 0, .int 0, .long 0, .int 0, .int 2, .int 0, .ref 1849, .ref 1850, .int 0, .int 0, .int 0, .ref 1851, .int 0, .int 3, .ref 1852, .ref 1853, .int 0, .ref 1854, .ref 1855, .int 0, .int 0, .ref 1856, .int 0, .ref 1857, .int 0, .int 0, .int 0, .ref 1858, .int 0, .ref 1859, .ref 1860, .ref 1861, .ref 1862, .ref 1863, .ref 1864, .ref 1865, .int (-1), .ref 1866, .ref 1867, .ref 1868, .ref 1869, .int 0, .ref 1870, .int (-1), .int 0, .int 0, .int 0, .ref 1871, .ref 1872, .ref 1873, .ref 1874, .ref 1875, .ref 1876, .ref 1877, .ref 1878, .ref 1879, .ref 1880, .ref 1881, .int 0, .ref 1882, .ref 1883, .ref 1884, .int 0, .ref 1885, .int 0, .ref 1886, .int (-1), .ref 1887, .int 0, .ref 1888, .int 0, .ref 1889, .ref 1890, .ref 1891, .ref 1892, .ref 1893, .ref 1894, .ref 1895, .ref 1896, .ref 1897, .ref 1898, .int 0, .int 0, .int 0]))) := ⟨_, rfl⟩
          show am_G at_P at_cl at_ty _ mt_160 17 [(0, .ref 1826), (1, .int 2), (2, .int 0)] [] (am_set S27 1826 (115, some (.inr (13, [.int 0, .int 0, .ref 1827, .int 0, .ref 1828, .ref 1829, .ref 1830, .ref 1831, .int 0, .ref 1832, .ref 1833, .ref 1834, .ref 1835, .int 0, .ref 1836, .ref 1837, .ref 1838, .ref 1839, .ref 1840, .int 0, .ref 1841, .ref 1842, .ref 1843, .ref 1844, .ref 1845, .ref 1846, .ref 1847, .ref 1848, .int 0, .int 0, .int 0, .int 0, .int 0, .long 0, .int 0, .int 2, .int 0, .ref 1849, .ref 1850, .int 0, .int 0, .int 0, .ref 1851, .int 0, .int 3, .ref 1852, .ref 1853, .int 0, .ref 1854, .ref 1855, .int 0, .int 0, .ref 1856, .int 0, .ref 1857, .int 0, .int 0, .int 0, .ref 1858, .int 0, .ref 1859, .ref 1860, .ref 1861, .ref 1862, .ref 1863, .ref 1864, .ref 1865, .int (-1), .ref 1866, .ref 1867, .ref 1868, .ref 1869, .int 0, .ref 1870, .int (-1), .int 0, .int 0, .int 0, .ref 1871, .ref 1872, .ref 1873, .ref 1874, .ref 1875, .ref 1876, .ref 1877, .ref 1878, .ref 1879, .ref 1880, .ref 1881, .int 0, .ref 1882, .ref 1883, .ref 1884, .int 0, .ref 1885, .int 0, .ref 1886, .int (-1), .ref 1887, .int 0, .ref 1888, .int 0, .ref 1889, .ref 1890, .ref 1891, .ref 1892, .ref 1893, .ref 1894, .ref 1895, .ref 1896, .ref 1897, .ref 1898, .int 0, .int 0, .int 0])))) _
          rw [← eS28]
          have hs28 : am_same [2, 4, 5, 6, 361, 1824, 1826] S S28 := by rw [eS28]; exact am_same_set hs27 g27_1826 (by decide)
          have g28_1 : am_nth S28 1 = some (9, some (.inr (0, [.ref 2, .ref 7, .ref 361, .ref 363, .ref 366, .ref 372, .ref 406, .ref 1824, .int 0]))) := by rw [eS28]; exact am_nth_ne g27_1826 (by decide) g27_1
          have g28_2 : am_nth S28 2 = some (6, some (.inr (1, [.ref 3, .int 0, .ref 4, .ref 5, .ref 6, .int 1]))) := by rw [eS28]; exact am_nth_ne g27_1826 (by decide) g27_2
          have g28_4 : am_nth S28 4 = some (1001, some (.inl (.int, 1001, .int 0, [(0, .int 0)]))) := by rw [eS28]; exact am_nth_ne g27_1826 (by decide) g27_4
          have g28_5 : am_nth S28 5 = some (1001, some (.inl (.int, 1001, .int 0, [(0, .int 0)]))) := by rw [eS28]; exact am_nth_ne g27_1826 (by decide) g27_5
          have g28_6 : am_nth S28 6 = some (1001, some (.inl (.long, 1001, .long 0, [(0, .long 0)]))) := by rw [eS28]; exact am_nth_ne g27_1826 (by decide) g27_6
          have g28_361 : am_nth S28 361 = some (10, some (.inr (6, [.ref 2, .ref 7, .ref 362, .int 0, .int 2, .int 0, .int 2, .ref 25, .ref 1824, .int 0]))) := by rw [eS28]; exact am_nth_ne g27_1826 (by decide) g27_361
          have g28_1824 : am_nth S28 1824 = some (2, some (.inr (5, [.ref 1825, .int 0]))) := by rw [eS28]; exact am_nth_ne g27_1826 (by decide) g27_1824
          have g28_1826 : am_nth S28 1826 = some (115, some (.inr (13, [.int 0, .int 0, .ref 1827, .int 0, .ref 1828, .ref 1829, .ref 1830, .ref 1831, .int 0, .ref 1832, .ref 1833, .ref 1834, .ref 1835, .int 0, .ref 1836, .ref 1837, .ref 1838, .ref 1839, .ref 1840, .int 0, .ref 1841, .ref 1842, .ref 1843, .ref 1844, .ref 1845, .ref 1846, .ref 1847, .ref 1848, .int 0, .int 0, .int 0, .int 0, .int 0, .long 0, .int 0, .int 2, .int 0, .ref 1849, .ref 1850, .int 0, .int 0, .int 0, .ref 1851, .int 0, .int 3, .ref 1852, .ref 1853, .int 0, .ref 1854, .ref 1855, .int 0, .int 0, .ref 1856, .int 0, .ref 1857, .int 0, .int 0, .int 0, .ref 1858, .int 0, .ref 1859, .ref 1860, .ref 1861, .ref 1862, .ref 1863, .ref 1864, .ref 1865, .int (-1), .ref 1866, .ref 1867, .ref 1868, .ref 1869, .int 0, .ref 1870, .int (-1), .int 0, .int 0, .int 0, .ref 1871, .ref 1872, .ref 1873, .ref 1874, .ref 1875, .ref 1876, .ref 1877, .ref 1878, .ref 1879, .ref 1880, .ref 1881, .int 0, .ref 1882, .ref 1883, .ref 1884, .int 0, .ref 1885, .int 0, .ref 1886, .int (-1), .ref 1887, .int 0, .ref 1888, .int 0, .ref 1889, .ref 1890, .ref 1891, .ref 1892, .ref 1893, .ref 1894, .ref 1895, .ref 1896, .ref 1897, .ref 1898, .int 0, .int 0, .int 0]))) := by rw [eS28]; exact am_nth_self g27_1826
          have g28_0 : am_nth S28 0 = some (6, some (.inl (.int, 6, .int 0, [(0, .int y0), (1, .int y1), (2, .int y2), (3, .int y3), (4, .int y4), (5, .int y5)]))) := by rw [eS28]; exact g27_0
          refine G_ret rfl rfl rfl ?_
          show am_G at_P at_cl at_ty _ mt_159 9 [(0, .ref 1826), (1, .int 2)] [] _ _
          refine G_ret rfl rfl rfl ?_
          show am_G at_P at_cl at_ty _ mt_182 104 [(0, .ref 1826), (1, .int (-1)), (2, .int 1)] [] _ _
          refine G_ps 1 (pc' := 105) (l' := [(0, .ref 1826), (1, .int (-1)), (2, .int 1)]) (st' := [.int (-1)]) rfl ?_
          refine G_ret rfl rfl rfl ?_
          show am_G at_P at_cl at_ty _ mt_180 40 [(6, .int 0), (5, .int 1), (4, .int (-1)), (3, .int 1), (2, .int (-1)), (0, .ref 1826), (1, .int (-1))] [.int (-1)] _ _
          refine G_ps 10 (pc' := 57) (l' := [(3, .int 0), (2, .int (-1)), (7, .int (-1)), (6, .int 0), (5, .int 1), (4, .int (-1)), (0, .ref 1826), (1, .int (-1))]) (st' := [.ref 1826]) rfl ?_
          refine G_cv (i := 293) (j := 158) (b := 1826) (M' := mt_158) (xs := []) (rest := []) rfl rfl rfl rfl g28_1826 (Nat.le_of_ble_eq_true rfl) (Nat.le_of_ble_eq_true rfl) ?_ (fun _ _ _ _ h9 => h9)
          show am_G at_P at_cl at_ty _ mt_158 0 [(0, .ref 1826)] [] _ _
          refine G_ps 1 (pc' := 1) (l' := [(0, .ref 1826)]) (st' := [.ref 1826]) rfl ?_
          refine G_get (i := 248) (ci := 13) (k := 35) (v := .int 2) rfl rfl g28_1826 rfl ?_
          show am_G at_P at_cl at_ty _ mt_158 4 [(0, .ref 1826)] [.int 2] _ _
          refine G_ps 2 (pc' := 12) (l' := [(0, .ref 1826)]) (st' := [.int 0]) rfl ?_
          refine G_ret rfl rfl rfl ?_
          show am_G at_P at_cl at_ty _ mt_180 60 [(3, .int 0), (2, .int (-1)), (7, .int (-1)), (6, .int 0), (5, .int 1), (4, .int (-1)), (0, .ref 1826), (1, .int (-1))] [.int 0] _ _
          refine G_ps 4 (pc' := 251) (l' := [(3, .int 0), (2, .int (-1)), (7, .int (-1)), (6, .int 0), (5, .int 1), (4, .int (-1)), (0, .ref 1826), (1, .int (-1))]) (st' := [.int (-1)]) rfl ?_
          refine G_ret rfl rfl rfl ?_
          show am_G at_P at_cl at_ty _ mt_201 44 [(0, .ref 1826), (1, .int y1)] [.int (-1)] _ _
          refine G_ps 2 (pc' := 46) (l' := [(0, .ref 1826), (1, .int y1)]) (st' := [.ref 1826]) rfl ?_
          refine G_cv (i := 293) (j := 158) (b := 1826) (M' := mt_158) (xs := []) (rest := []) rfl rfl rfl rfl g28_1826 (Nat.le_of_ble_eq_true rfl) (Nat.le_of_ble_eq_true rfl) ?_ (fun _ _ _ _ h9 => h9)
          show am_G at_P at_cl at_ty _ mt_158 0 [(0, .ref 1826)] [] _ _
          refine G_ps 1 (pc' := 1) (l' := [(0, .ref 1826)]) (st' := [.ref 1826]) rfl ?_
          refine G_get (i := 248) (ci := 13) (k := 35) (v := .int 2) rfl rfl g28_1826 rfl ?_
          show am_G at_P at_cl at_ty _ mt_158 4 [(0, .ref 1826)] [.int 2] _ _
          refine G_ps 2 (pc' := 12) (l' := [(0, .ref 1826)]) (st' := [.int 0]) rfl ?_
          refine G_ret rfl rfl rfl ?_
          show am_G at_P at_cl at_ty _ mt_201 49 [(0, .ref 1826), (1, .int y1)] [.int 0] _ _
          refine G_ps 2 (pc' := 65) (l' := [(0, .ref 1826), (1, .int y1)]) (st' := [.ref 1826]) rfl ?_
          refine G_cv (i := 293) (j := 158) (b := 1826) (M' := mt_158) (xs := []) (rest := []) rfl rfl rfl rfl g28_1826 (Nat.le_of_ble_eq_true rfl) (Nat.le_of_ble_eq_true rfl) ?_ (fun _ _ _ _ h9 => h9)
          show am_G at_P at_cl at_ty _ mt_158 0 [(0, .ref 1826)] [] _ _
          refine G_ps 1 (pc' := 1) (l' := [(0, .ref 1826)]) (st' := [.ref 1826]) rfl ?_
          refine G_get (i := 248) (ci := 13) (k := 35) (v := .int 2) rfl rfl g28_1826 rfl ?_
          show am_G at_P at_cl at_ty _ mt_158 4 [(0, .ref 1826)] [.int 2] _ _
          refine G_ps 2 (pc' := 12) (l' := [(0, .ref 1826)]) (st' := [.int 0]) rfl ?_
          refine G_ret rfl rfl rfl ?_
          show am_G at_P at_cl at_ty _ mt_201 68 [(0, .ref 1826), (1, .int y1)] [.int 0] _ _
          refine G_ps 3 (pc' := 73) (l' := [(0, .ref 1826), (1, .int y1)]) (st' := [.ref 1826, .ref 1826]) rfl ?_
          refine G_get (i := 248) (ci := 13) (k := 35) (v := .int 2) rfl rfl g28_1826 rfl ?_
          show am_G at_P at_cl at_ty _ mt_201 76 [(0, .ref 1826), (1, .int y1)] [.int 2, .ref 1826] _ _
          refine G_put (i := 411) (ci := 13) (k := 34) (v := .int 2) rfl rfl g28_1826 rfl rfl ?_
          obtain ⟨S29, eS29⟩ : ∃ T9 : am_S, T9 = am_set S28 1826 (115, some (.inr (13, [.int 0, .int 0, .ref 1827, .int 0, .ref 1828, .ref 1829, .ref 1830, .ref 1831, .int 0, .ref 1832, .ref 1833, .ref 1834, .ref 1835, .int 0, .ref 1836, .ref 1837, .ref 1838, .ref 1839, .ref 1840, .int 0, .ref 1841, .ref 1842, .ref 1843, .ref 1844, .ref 1845, .ref 1846, .ref 1847, .ref 1848, .int 0, .int 0, .int 0, .int 0, .int 0, .long 0, .int 2, .int 2, .int 0, .ref 1849, .ref 1850, .int 0, .int 0, .int 0, .ref 1851, .int 0, .int 3, .ref 1852, .ref 1853, .int 0, .ref 1854, .ref 1855, .int 0, .int 0, .ref 1856, .int 0, .ref 1857, .int 0, .int 0, .int 0, .ref 1858, .int 0, .ref 1859, .ref 1860, .ref 1861, .ref 1862, .ref 1863, .ref 1864, .ref 1865, .int (-1), .ref 1866, .ref 1867, .ref 1868, .ref 1869, .int 0, .ref 1870, .int (-1), .int 0, .int 0, .int 0, .ref 1871, .ref 1872, .ref 1873, .ref 1874, .ref 1875, .ref 1876, .ref 1877, .ref 1878, .ref 1879, .ref 1880, .ref 1881, .int 0, .ref 1882, .ref 1883, .ref 1884, .int 0, .ref 1885, .int 0, .ref 1886, .int (-1), .ref 1887, .int 0, .ref 1888, .int 0, .ref 1889, .ref 1890, .ref 1891, .ref 1892, .ref 1893, .ref 1894, .ref 1895, .ref 1896, .ref 1897, .ref 1898, .int 0, .int 0, .int 0]))) := ⟨_, rfl⟩
          show am_G at_P at_cl at_ty _ mt_201 79 [(0, .ref 1826), (1, .int y1)] [] (am_set S28 1826 (115, some (.inr (13, [.int 0, .int 0, .ref 1827, .int 0, .ref 1828, .ref 1829, .ref 1830, .ref 1831, .int 0, .ref 1832, .ref 1833, .ref 1834, .ref 1835, .int 0, .ref 1836, .ref 1837, .ref 1838, .ref 1839, .ref 1840, .int 0, .ref 1841, .ref 1842, .ref 1843, .ref 1844, .ref 1845, .ref 1846, .ref 1847, .ref 1848, .int 0, .int 0, .int 0, .int 0, .int 0, .long 0, .int 2, .int 2, .int 0, .ref 1849, .ref 1850, .int 0, .int 0, .int 0, .ref 1851, .int 0, .int 3, .ref 1852, .ref 1853, .int 0, .ref 1854, .ref 1855, .int 0, .int 0, .ref 1856, .int 0, .ref 1857, .int 0, .int 0, .int 0, .ref 1858, .int 0, .ref 1859, .ref 1860, .ref 1861, .ref 1862, .ref 1863, .ref 1864, .ref 1865, .int (-1), .ref 1866, .ref 1867, .ref 1868, .ref 1869, .int 0, .ref 1870, .int (-1), .int 0, .int 0, .int 0, .ref 1871, .ref 1872, .ref 1873, .ref 1874, .ref 1875, .ref 1876, .ref 1877, .ref 1878, .ref 1879, .ref 1880, .ref 1881, .int 0, .ref 1882, .ref 1883, .ref 1884, .int 0, .ref 1885, .int 0, .ref 1886, .int (-1), .ref 1887, .int 0, .ref 1888, .int 0, .ref 1889, .ref 1890, .ref 1891, .ref 1892, .ref 1893, .ref 1894, .ref 1895, .ref 1896, .ref 1897, .ref 1898, .int 0, .int 0, .int 0])))) _
          rw [← eS29]
          have hs29 : am_same [2, 4, 5, 6, 361, 1824, 1826] S S29 := by rw [eS29]; exact am_same_set hs28 g28_1826 (by decide)
          have g29_1 : am_nth S29 1 = some (9, some (.inr (0, [.ref 2, .ref 7, .ref 361, .ref 363, .ref 366, .ref 372, .ref 406, .ref 1824, .int 0]))) := by rw [eS29]; exact am_nth_ne g28_1826 (by decide) g28_1
          have g29_2 : am_nth S29 2 = some (6, some (.inr (1, [.ref 3, .int 0, .ref 4, .ref 5, .ref 6, .int 1]))) := by rw [eS29]; exact am_nth_ne g28_1826 (by decide) g28_2
          have g29_4 : am_nth S29 4 = some (1001, some (.inl (.int, 1001, .int 0, [(0, .int 0)]))) := by rw [eS29]; exact am_nth_ne g28_1826 (by decide) g28_4
          have g29_5 : am_nth S29 5 = some (1001, some (.inl (.int, 1001, .int 0, [(0, .int 0)]))) := by rw [eS29]; exact am_nth_ne g28_1826 (by decide) g28_5
          have g29_6 : am_nth S29 6 = some (1001, some (.inl (.long, 1001, .long 0, [(0, .long 0)]))) := by rw [eS29]; exact am_nth_ne g28_1826 (by decide) g28_6
          have g29_361 : am_nth S29 361 = some (10, some (.inr (6, [.ref 2, .ref 7, .ref 362, .int 0, .int 2, .int 0, .int 2, .ref 25, .ref 1824, .int 0]))) := by rw [eS29]; exact am_nth_ne g28_1826 (by decide) g28_361
          have g29_1824 : am_nth S29 1824 = some (2, some (.inr (5, [.ref 1825, .int 0]))) := by rw [eS29]; exact am_nth_ne g28_1826 (by decide) g28_1824
          have g29_1826 : am_nth S29 1826 = some (115, some (.inr (13, [.int 0, .int 0, .ref 1827, .int 0, .ref 1828, .ref 1829, .ref 1830, .ref 1831, .int 0, .ref 1832, .ref 1833, .ref 1834, .ref 1835, .int 0, .ref 1836, .ref 1837, .ref 1838, .ref 1839, .ref 1840, .int 0, .ref 1841, .ref 1842, .ref 1843, .ref 1844, .ref 1845, .ref 1846, .ref 1847, .ref 1848, .int 0, .int 0, .int 0, .int 0, .int 0, .long 0, .int 2, .int 2, .int 0, .ref 1849, .ref 1850, .int 0, .int 0, .int 0, .ref 1851, .int 0, .int 3, .ref 1852, .ref 1853, .int 0, .ref 1854, .ref 1855, .int 0, .int 0, .ref 1856, .int 0, .ref 1857, .int 0, .int 0, .int 0, .ref 1858, .int 0, .ref 1859, .ref 1860, .ref 1861, .ref 1862, .ref 1863, .ref 1864, .ref 1865, .int (-1), .ref 1866, .ref 1867, .ref 1868, .ref 1869, .int 0, .ref 1870, .int (-1), .int 0, .int 0, .int 0, .ref 1871, .ref 1872, .ref 1873, .ref 1874, .ref 1875, .ref 1876, .ref 1877, .ref 1878, .ref 1879, .ref 1880, .ref 1881, .int 0, .ref 1882, .ref 1883, .ref 1884, .int 0, .ref 1885, .int 0, .ref 1886, .int (-1), .ref 1887, .int 0, .ref 1888, .int 0, .ref 1889, .ref 1890, .ref 1891, .ref 1892, .ref 1893, .ref 1894, .ref 1895, .ref 1896, .ref 1897, .ref 1898, .int 0, .int 0, .int 0]))) := by rw [eS29]; exact am_nth_self g28_1826
          have g29_0 : am_nth S29 0 = some (6, some (.inl (.int, 6, .int 0, [(0, .int y0), (1, .int y1), (2, .int y2), (3, .int y3), (4, .int y4), (5, .int y5)]))) := by rw [eS29]; exact g28_0
          refine G_ps 2 (pc' := 83) (l' := [(0, .ref 1826), (1, .int y1)]) (st' := [.ref 1826, .int (-1000)]) rfl ?_
          refine G_get (i := 258) (ci := 13) (k := 36) (v := .int 0) rfl rfl g29_1826 rfl ?_
          show am_G at_P at_cl at_ty _ mt_201 86 [(0, .ref 1826), (1, .int y1)] [.int 0, .int (-1000)] _ _
          refine G_ps 1 (pc' := 87) (l' := [(0, .ref 1826), (1, .int y1)]) (st' := [.int (-1000)]) rfl ?_
          refine G_ret rfl rfl rfl ?_
          show am_G at_P at_cl at_ty _ mt_law 396 [(4, .int 0), (3, .ref 1899), (2, .ref 1826), (1, .ref 1), (0, .ref 0)] [.int (-1000), .int (-1000)] _ _
          refine G_ps 5 (pc' := 26) (l' := [(4, .int 6), (3, .ref 1899), (2, .ref 1826), (1, .ref 1), (0, .ref 0)]) (st' := [.ref 0, .int 6]) rfl ?_
          refine G_alen rfl g29_0 ?_
          show am_G at_P at_cl at_ty _ mt_law 27 [(4, .int 6), (3, .ref 1899), (2, .ref 1826), (1, .ref 1), (0, .ref 0)] [.int 6, .int 6] _ _
          refine G_ps 4 (pc' := 1004) (l' := [(4, .int 6), (3, .ref 1899), (2, .ref 1826), (1, .ref 1), (0, .ref 0)]) (st' := [.int 1]) rfl ?_
          refine G_ret rfl rfl rfl ?_
          exact ⟨rfl, by simp, by simp⟩
        · rw [if_neg hc5]
          exfalso
          simp only [Int32.lt_iff_toInt_lt, Int32.le_iff_toInt_le, show (0 : Int32).toInt = 0 by decide, show (2000 : Int32).toInt = 2000 by decide] at hc1 hc3 hc4 hc5
          omega
    · rw [if_neg hc3]
      refine G_ps 9 (pc' := 39) (l' := [(3, .int (-102)), (2, .int 1), (0, .ref 1), (1, .int y1)]) (st' := [.ref 1]) rfl ?_
      refine G_get (i := 10) (ci := 0) (k := 0) (v := .ref 2) rfl rfl g0_1 rfl ?_
      show am_G at_P at_cl at_ty _ mt_7 42 [(3, .int (-102)), (2, .int 1), (0, .ref 1), (1, .int y1)] [.ref 2] _ _
      refine G_ps 1 (pc' := 43) (l' := [(3, .int (-102)), (2, .int 1), (0, .ref 1), (1, .int y1)]) (st' := [.int 0, .ref 2]) rfl ?_
      refine G_put (i := 73) (ci := 1) (k := 1) (v := .int 0) rfl rfl g0_2 rfl rfl ?_
      obtain ⟨S30, eS30⟩ : ∃ T9 : am_S, T9 = am_set S 2 (6, some (.inr (1, [.ref 3, .int 0, .ref 4, .ref 5, .ref 6, .int 0]))) := ⟨_, rfl⟩
      show am_G at_P at_cl at_ty _ mt_7 46 [(3, .int (-102)), (2, .int 1), (0, .ref 1), (1, .int y1)] [] (am_set S 2 (6, some (.inr (1, [.ref 3, .int 0, .ref 4, .ref 5, .ref 6, .int 0])))) _
      rw [← eS30]
      have hs30 : am_same [2, 4, 5, 6, 361, 1824, 1826] S S30 := by rw [eS30]; exact am_same_set hs0 g0_2 (by decide)
      have g30_1 : am_nth S30 1 = some (9, some (.inr (0, [.ref 2, .ref 7, .ref 361, .ref 363, .ref 366, .ref 372, .ref 406, .ref 1824, .int 0]))) := by rw [eS30]; exact am_nth_ne g0_2 (by decide) g0_1
      have g30_2 : am_nth S30 2 = some (6, some (.inr (1, [.ref 3, .int 0, .ref 4, .ref 5, .ref 6, .int 0]))) := by rw [eS30]; exact am_nth_self g0_2
      have g30_4 : am_nth S30 4 = some (1001, some (.inl (.int, 1001, .int 0, []))) := by rw [eS30]; exact am_nth_ne g0_2 (by decide) g0_4
      have g30_5 : am_nth S30 5 = some (1001, some (.inl (.int, 1001, .int 0, []))) := by rw [eS30]; exact am_nth_ne g0_2 (by decide) g0_5
      have g30_6 : am_nth S30 6 = some (1001, some (.inl (.long, 1001, .long 0, []))) := by rw [eS30]; exact am_nth_ne g0_2 (by decide) g0_6
      have g30_361 : am_nth S30 361 = some (10, some (.inr (6, [.ref 2, .ref 7, .ref 362, .int 0, .int 0, .int 0, .int 0, .ref 25, .ref 26, .int 0]))) := by rw [eS30]; exact am_nth_ne g0_2 (by decide) g0_361
      have g30_1824 : am_nth S30 1824 = some (2, some (.inr (5, [.ref 1825, .int 0]))) := by rw [eS30]; exact am_nth_ne g0_2 (by decide) g0_1824
      have g30_1826 : am_nth S30 1826 = some (115, some (.inr (13, [.int 0, .int 0, .ref 1827, .int 0, .ref 1828, .ref 1829, .ref 1830, .ref 1831, .int 0, .ref 1832, .ref 1833, .ref 1834, .ref 1835, .int 0, .ref 1836, .ref 1837, .ref 1838, .ref 1839, .ref 1840, .int 0, .ref 1841, .ref 1842, .ref 1843, .ref 1844, .ref 1845, .ref 1846, .ref 1847, .ref 1848, .int 0, .int 0, .int 0, .int 0, .int 0, .long 0, .int 0, .int 0, .int 0, .ref 1849, .ref 1850, .int 0, .int 0, .int 0, .ref 1851, .int 0, .int 0, .ref 1852, .ref 1853, .int 0, .ref 1854, .ref 1855, .int 0, .int 0, .ref 1856, .int 0, .ref 1857, .int 0, .int 0, .int 0, .ref 1858, .int 0, .ref 1859, .ref 1860, .ref 1861, .ref 1862, .ref 1863, .ref 1864, .ref 1865, .int (-1), .ref 1866, .ref 1867, .ref 1868, .ref 1869, .int 0, .ref 1870, .int (-1), .int 0, .int 0, .int 0, .ref 1871, .ref 1872, .ref 1873, .ref 1874, .ref 1875, .ref 1876, .ref 1877, .ref 1878, .ref 1879, .ref 1880, .ref 1881, .int 0, .ref 1882, .ref 1883, .ref 1884, .int 0, .ref 1885, .int 0, .ref 1886, .int (-1), .ref 1887, .int 0, .ref 1888, .int 0, .ref 1889, .ref 1890, .ref 1891, .ref 1892, .ref 1893, .ref 1894, .ref 1895, .ref 1896, .ref 1897, .ref 1898, .int 0, .int 0, .int 0]))) := by rw [eS30]; exact am_nth_ne g0_2 (by decide) g0_1826
      have g30_0 : am_nth S30 0 = some (6, some (.inl (.int, 6, .int 0, [(0, .int y0), (1, .int y1), (2, .int y2), (3, .int y3), (4, .int y4), (5, .int y5)]))) := by rw [eS30]; exact g0_0
      refine G_ps 3 (pc' := 51) (l' := [(3, .int (-102)), (2, .int 1), (0, .ref 1), (1, .int y1)]) (st' := [.int (-102)]) rfl ?_
      refine G_ret rfl rfl rfl ?_
      show am_G at_P at_cl at_ty _ mt_law 386 [(4, .int 0), (3, .ref 1899), (2, .ref 1826), (1, .ref 1), (0, .ref 0)] [.int (-102)] _ _
      refine G_ps 5 (pc' := 392) (l' := [(4, .int 0), (3, .ref 1899), (2, .ref 1826), (1, .ref 1), (0, .ref 0)]) (st' := [.int 1, .ref 0, .ref 1826, .int (-102)]) rfl ?_
      refine G_ild (i := 1) rfl g30_0 (by decide) ?_
      show am_G at_P at_cl at_ty _ mt_law 393 [(4, .int 0), (3, .ref 1899), (2, .ref 1826), (1, .ref 1), (0, .ref 0)] [.int y1, .ref 1826, .int (-102)] _ _
      refine G_cv (i := 60) (j := 201) (b := 1826) (M' := mt_201) (xs := [.int y1]) (rest := [.int (-102)]) rfl rfl rfl rfl g30_1826 (Nat.le_of_ble_eq_true rfl) (Nat.le_of_ble_eq_true rfl) ?_ (fun _ _ _ _ h9 => h9)
      show am_G at_P at_cl at_ty _ mt_201 0 [(0, .ref 1826), (1, .int y1)] [] _ _
      refine G_ps 2 (pc' := if y1 < 0 then 11 else 4) (l' := [(0, .ref 1826), (1, .int y1)]) (st' := []) rfl ?_
      by_cases hc6 : y1 < 0
      · rw [if_pos hc6]
        exfalso
        simp only [Int32.lt_iff_toInt_lt, Int32.le_iff_toInt_le, show (0 : Int32).toInt = 0 by decide, show (2000 : Int32).toInt = 2000 by decide] at hc1 hc3 hc6
        omega
      · rw [if_neg hc6]
        refine G_ps 3 (pc' := if y1 ≤ 2000 then 19 else 11) (l' := [(0, .ref 1826), (1, .int y1)]) (st' := []) rfl ?_
        by_cases hc7 : y1 ≤ 2000
        · rw [if_pos hc7]
          exfalso
          simp only [Int32.lt_iff_toInt_lt, Int32.le_iff_toInt_le, show (0 : Int32).toInt = 0 by decide, show (2000 : Int32).toInt = 2000 by decide] at hc1 hc3 hc6 hc7
          omega
        · rw [if_neg hc7]
          refine G_ps 2 (pc' := 13) (l' := [(0, .ref 1826), (1, .int y1)]) (st' := [.int 0, .ref 1826]) rfl ?_
          refine G_put (i := 393) (ci := 13) (k := 28) (v := .int 0) rfl rfl g30_1826 rfl rfl ?_
          obtain ⟨S31, eS31⟩ : ∃ T9 : am_S, T9 = am_set S30 1826 (115, some (.inr (13, [.int 0, .int 0, .ref 1827, .int 0, .ref 1828, .ref 1829, .ref 1830, .ref 1831, .int 0, .ref 1832, .ref 1833, .ref 1834, .ref 1835, .int 0, .ref 1836, .ref 1837, .ref 1838, .ref 1839, .ref 1840, .int 0, .ref 1841, .ref 1842, .ref 1843, .ref 1844, .ref 1845, .ref 1846, .ref 1847, .ref 1848, .int 0, .int 0, .int 0, .int 0, .int 0, .long 0, .int 0, .int 0, .int 0, .ref 1849, .ref 1850, .int 0, .int 0, .int 0, .ref 1851, .int 0, .int 0, .ref 1852, .ref 1853, .int 0, .ref 1854, .ref 1855, .int 0, .int 0, .ref 1856, .int 0, .ref 1857, .int 0, .int 0, .int 0, .ref 1858, .int 0, .ref 1859, .ref 1860, .ref 1861, .ref 1862, .ref 1863, .ref 1864, .ref 1865, .int (-1), .ref 1866, .ref 1867, .ref 1868, .ref 1869, .int 0, .ref 1870, .int (-1), .int 0, .int 0, .int 0, .ref 1871, .ref 1872, .ref 1873, .ref 1874, .ref 1875, .ref 1876, .ref 1877, .ref 1878, .ref 1879, .ref 1880, .ref 1881, .int 0, .ref 1882, .ref 1883, .ref 1884, .int 0, .ref 1885, .int 0, .ref 1886, .int (-1), .ref 1887, .int 0, .ref 1888, .int 0, .ref 1889, .ref 1890, .ref 1891, .ref 1892, .ref 1893, .ref 1894, .ref 1895, .ref 1896, .ref 1897, .ref 1898, .int 0, .int 0, .int 0]))) := ⟨_, rfl⟩
          show am_G at_P at_cl at_ty _ mt_201 16 [(0, .ref 1826), (1, .int y1)] [] (am_set S30 1826 (115, some (.inr (13, [.int 0, .int 0, .ref 1827, .int 0, .ref 1828, .ref 1829, .ref 1830, .ref 1831, .int 0, .ref 1832, .ref 1833, .ref 1834, .ref 1835, .int 0, .ref 1836, .ref 1837, .ref 1838, .ref 1839, .ref 1840, .int 0, .ref 1841, .ref 1842, .ref 1843, .ref 1844, .ref 1845, .ref 1846, .ref 1847, .ref 1848, .int 0, .int 0, .int 0, .int 0, .int 0, .long 0, .int 0, .int 0, .int 0, .ref 1849, .ref 1850, .int 0, .int 0, .int 0, .ref 1851, .int 0, .int 0, .ref 1852, .ref 1853, .int 0, .ref 1854, .ref 1855, .int 0, .int 0, .ref 1856, .int 0, .ref 1857, .int 0, .int 0, .int 0, .ref 1858, .int 0, .ref 1859, .ref 1860, .ref 1861, .ref 1862, .ref 1863, .ref 1864, .ref 1865, .int (-1), .ref 1866, .ref 1867, .ref 1868, .ref 1869, .int 0, .ref 1870, .int (-1), .int 0, .int 0, .int 0, .ref 1871, .ref 1872, .ref 1873, .ref 1874, .ref 1875, .ref 1876, .ref 1877, .ref 1878, .ref 1879, .ref 1880, .ref 1881, .int 0, .ref 1882, .ref 1883, .ref 1884, .int 0, .ref 1885, .int 0, .ref 1886, .int (-1), .ref 1887, .int 0, .ref 1888, .int 0, .ref 1889, .ref 1890, .ref 1891, .ref 1892, .ref 1893, .ref 1894, .ref 1895, .ref 1896, .ref 1897, .ref 1898, .int 0, .int 0, .int 0])))) _
          rw [← eS31]
          have hs31 : am_same [2, 4, 5, 6, 361, 1824, 1826] S S31 := by rw [eS31]; exact am_same_set hs30 g30_1826 (by decide)
          have g31_1 : am_nth S31 1 = some (9, some (.inr (0, [.ref 2, .ref 7, .ref 361, .ref 363, .ref 366, .ref 372, .ref 406, .ref 1824, .int 0]))) := by rw [eS31]; exact am_nth_ne g30_1826 (by decide) g30_1
          have g31_2 : am_nth S31 2 = some (6, some (.inr (1, [.ref 3, .int 0, .ref 4, .ref 5, .ref 6, .int 0]))) := by rw [eS31]; exact am_nth_ne g30_1826 (by decide) g30_2
          have g31_4 : am_nth S31 4 = some (1001, some (.inl (.int, 1001, .int 0, []))) := by rw [eS31]; exact am_nth_ne g30_1826 (by decide) g30_4
          have g31_5 : am_nth S31 5 = some (1001, some (.inl (.int, 1001, .int 0, []))) := by rw [eS31]; exact am_nth_ne g30_1826 (by decide) g30_5
          have g31_6 : am_nth S31 6 = some (1001, some (.inl (.long, 1001, .long 0, []))) := by rw [eS31]; exact am_nth_ne g30_1826 (by decide) g30_6
          have g31_361 : am_nth S31 361 = some (10, some (.inr (6, [.ref 2, .ref 7, .ref 362, .int 0, .int 0, .int 0, .int 0, .ref 25, .ref 26, .int 0]))) := by rw [eS31]; exact am_nth_ne g30_1826 (by decide) g30_361
          have g31_1824 : am_nth S31 1824 = some (2, some (.inr (5, [.ref 1825, .int 0]))) := by rw [eS31]; exact am_nth_ne g30_1826 (by decide) g30_1824
          have g31_1826 : am_nth S31 1826 = some (115, some (.inr (13, [.int 0, .int 0, .ref 1827, .int 0, .ref 1828, .ref 1829, .ref 1830, .ref 1831, .int 0, .ref 1832, .ref 1833, .ref 1834, .ref 1835, .int 0, .ref 1836, .ref 1837, .ref 1838, .ref 1839, .ref 1840, .int 0, .ref 1841, .ref 1842, .ref 1843, .ref 1844, .ref 1845, .ref 1846, .ref 1847, .ref 1848, .int 0, .int 0, .int 0, .int 0, .int 0, .long 0, .int 0, .int 0, .int 0, .ref 1849, .ref 1850, .int 0, .int 0, .int 0, .ref 1851, .int 0, .int 0, .ref 1852, .ref 1853, .int 0, .ref 1854, .ref 1855, .int 0, .int 0, .ref 1856, .int 0, .ref 1857, .int 0, .int 0, .int 0, .ref 1858, .int 0, .ref 1859, .ref 1860, .ref 1861, .ref 1862, .ref 1863, .ref 1864, .ref 1865, .int (-1), .ref 1866, .ref 1867, .ref 1868, .ref 1869, .int 0, .ref 1870, .int (-1), .int 0, .int 0, .int 0, .ref 1871, .ref 1872, .ref 1873, .ref 1874, .ref 1875, .ref 1876, .ref 1877, .ref 1878, .ref 1879, .ref 1880, .ref 1881, .int 0, .ref 1882, .ref 1883, .ref 1884, .int 0, .ref 1885, .int 0, .ref 1886, .int (-1), .ref 1887, .int 0, .ref 1888, .int 0, .ref 1889, .ref 1890, .ref 1891, .ref 1892, .ref 1893, .ref 1894, .ref 1895, .ref 1896, .ref 1897, .ref 1898, .int 0, .int 0, .int 0]))) := by rw [eS31]; exact am_nth_self g30_1826
          have g31_0 : am_nth S31 0 = some (6, some (.inl (.int, 6, .int 0, [(0, .int y0), (1, .int y1), (2, .int y2), (3, .int y3), (4, .int y4), (5, .int y5)]))) := by rw [eS31]; exact g30_0
          refine G_ps 1 (pc' := 18) (l' := [(0, .ref 1826), (1, .int y1)]) (st' := [.int (-102)]) rfl ?_
          refine G_ret rfl rfl rfl ?_
          show am_G at_P at_cl at_ty _ mt_law 396 [(4, .int 0), (3, .ref 1899), (2, .ref 1826), (1, .ref 1), (0, .ref 0)] [.int (-102), .int (-102)] _ _
          refine G_ps 5 (pc' := 26) (l' := [(4, .int 6), (3, .ref 1899), (2, .ref 1826), (1, .ref 1), (0, .ref 0)]) (st' := [.ref 0, .int 6]) rfl ?_
          refine G_alen rfl g31_0 ?_
          show am_G at_P at_cl at_ty _ mt_law 27 [(4, .int 6), (3, .ref 1899), (2, .ref 1826), (1, .ref 1), (0, .ref 0)] [.int 6, .int 6] _ _
          refine G_ps 4 (pc' := 1004) (l' := [(4, .int 6), (3, .ref 1899), (2, .ref 1826), (1, .ref 1), (0, .ref 0)]) (st' := [.int 1]) rfl ?_
          refine G_ret rfl rfl rfl ?_
          exact ⟨rfl, by simp, by simp⟩
set_option maxRecDepth 100000 in
set_option maxHeartbeats 4000000 in
theorem lc_7 (S : am_S) (y0 y1 y2 y3 y4 y5 : Int32) (g0_0 : am_nth S 0 = some (6, some (.inl (.int, 6, .int 0, [(0, .int y0), (1, .int y1), (2, .int y2), (3, .int y3), (4, .int y4), (5, .int y5)])))) (g0_1 : am_nth S 1 = some (9, some (.inr (0, [.ref 2, .ref 7, .ref 361, .ref 363, .ref 366, .ref 372, .ref 406, .ref 1824, .int 0])))) (g0_1826 : am_nth S 1826 = some (115, some (.inr (13, [.int 0, .int 0, .ref 1827, .int 0, .ref 1828, .ref 1829, .ref 1830, .ref 1831, .int 0, .ref 1832, .ref 1833, .ref 1834, .ref 1835, .int 0, .ref 1836, .ref 1837, .ref 1838, .ref 1839, .ref 1840, .int 0, .ref 1841, .ref 1842, .ref 1843, .ref 1844, .ref 1845, .ref 1846, .ref 1847, .ref 1848, .int 0, .int 0, .int 0, .int 0, .int 0, .long 0, .int 0, .int 0, .int 0, .ref 1849, .ref 1850, .int 0, .int 0, .int 0, .ref 1851, .int 0, .int 0, .ref 1852, .ref 1853, .int 0, .ref 1854, .ref 1855, .int 0, .int 0, .ref 1856, .int 0, .ref 1857, .int 0, .int 0, .int 0, .ref 1858, .int 0, .ref 1859, .ref 1860, .ref 1861, .ref 1862, .ref 1863, .ref 1864, .ref 1865, .int (-1), .ref 1866, .ref 1867, .ref 1868, .ref 1869, .int 0, .ref 1870, .int (-1), .int 0, .int 0, .int 0, .ref 1871, .ref 1872, .ref 1873, .ref 1874, .ref 1875, .ref 1876, .ref 1877, .ref 1878, .ref 1879, .ref 1880, .ref 1881, .int 0, .ref 1882, .ref 1883, .ref 1884, .int 0, .ref 1885, .int 0, .ref 1886, .int (-1), .ref 1887, .int 0, .ref 1888, .int 0, .ref 1889, .ref 1890, .ref 1891, .ref 1892, .ref 1893, .ref 1894, .ref 1895, .ref 1896, .ref 1897, .ref 1898, .int 0, .int 0, .int 0])))) : am_G at_P at_cl at_ty 12 mt_law 401 [(4, .int 0), (3, .ref 1899), (2, .ref 1826), (1, .ref 1), (0, .ref 0)] [] S (fun r _ c n => r = some (.int 1) ∧ c = 0 ∧ n = 0) := by
  have hs0 : am_same [] S S := am_same_rf _ _
  refine G_ps 1 (pc' := 402) (l' := [(4, .int 0), (3, .ref 1899), (2, .ref 1826), (1, .ref 1), (0, .ref 0)]) (st' := [.ref 1]) rfl ?_
  refine G_cv (i := 61) (j := 8) (b := 1) (M' := mt_8) (xs := []) (rest := []) rfl rfl rfl rfl g0_1 (Nat.le_of_ble_eq_true rfl) (Nat.le_of_ble_eq_true rfl) ?_ (fun _ _ _ _ h9 => h9)
  show am_G at_P at_cl at_ty _ mt_8 0 [(0, .ref 1)] [] _ _
  refine G_ps 1 (pc' := 1) (l' := [(0, .ref 1)]) (st' := [.ref 1]) rfl ?_
  refine G_get (i := 180) (ci := 0) (k := 8) (v := .int 0) rfl rfl g0_1 rfl ?_
  show am_G at_P at_cl at_ty _ mt_8 4 [(0, .ref 1)] [.int 0] _ _
  refine G_ret rfl rfl rfl ?_
  show am_G at_P at_cl at_ty _ mt_law 405 [(4, .int 0), (3, .ref 1899), (2, .ref 1826), (1, .ref 1), (0, .ref 0)] [.int 0] _ _
  refine G_ps 1 (pc' := 406) (l' := [(4, .int 0), (3, .ref 1899), (2, .ref 1826), (1, .ref 1), (0, .ref 0)]) (st' := [.ref 1826, .int 0]) rfl ?_
  refine G_cv (i := 64) (j := 202) (b := 1826) (M' := mt_202) (xs := []) (rest := [.int 0]) rfl rfl rfl rfl g0_1826 (Nat.le_of_ble_eq_true rfl) (Nat.le_of_ble_eq_true rfl) ?_ (fun _ _ _ _ h9 => h9)
  show am_G at_P at_cl at_ty _ mt_202 0 [(0, .ref 1826)] [] _ _
  refine G_ps 1 (pc' := 1) (l' := [(0, .ref 1826)]) (st' := [.ref 1826]) rfl ?_
  refine G_get (i := 463) (ci := 13) (k := 57) (v := .int 0) rfl rfl g0_1826 rfl ?_
  show am_G at_P at_cl at_ty _ mt_202 4 [(0, .ref 1826)] [.int 0] _ _
  refine G_ret rfl rfl rfl ?_
  show am_G at_P at_cl at_ty _ mt_law 409 [(4, .int 0), (3, .ref 1899), (2, .ref 1826), (1, .ref 1), (0, .ref 0)] [.int 0, .int 0] _ _
  refine G_ps 5 (pc' := 26) (l' := [(4, .int 6), (3, .ref 1899), (2, .ref 1826), (1, .ref 1), (0, .ref 0)]) (st' := [.ref 0, .int 6]) rfl ?_
  refine G_alen rfl g0_0 ?_
  show am_G at_P at_cl at_ty _ mt_law 27 [(4, .int 6), (3, .ref 1899), (2, .ref 1826), (1, .ref 1), (0, .ref 0)] [.int 6, .int 6] _ _
  refine G_ps 4 (pc' := 1004) (l' := [(4, .int 6), (3, .ref 1899), (2, .ref 1826), (1, .ref 1), (0, .ref 0)]) (st' := [.int 1]) rfl ?_
  refine G_ret rfl rfl rfl ?_
  exact ⟨rfl, by simp, by simp⟩
set_option maxRecDepth 100000 in
set_option maxHeartbeats 4000000 in
theorem lc_8 (S : am_S) (y0 y1 y2 y3 y4 y5 : Int32) (g0_0 : am_nth S 0 = some (6, some (.inl (.int, 6, .int 0, [(0, .int y0), (1, .int y1), (2, .int y2), (3, .int y3), (4, .int y4), (5, .int y5)])))) (g0_1 : am_nth S 1 = some (9, some (.inr (0, [.ref 2, .ref 7, .ref 361, .ref 363, .ref 366, .ref 372, .ref 406, .ref 1824, .int 0])))) (g0_7 : am_nth S 7 = some (7, some (.inr (2, [.ref 8, .ref 13, .ref 18, .ref 23, .ref 24, .int 0, .int 0])))) (g0_1826 : am_nth S 1826 = some (115, some (.inr (13, [.int 0, .int 0, .ref 1827, .int 0, .ref 1828, .ref 1829, .ref 1830, .ref 1831, .int 0, .ref 1832, .ref 1833, .ref 1834, .ref 1835, .int 0, .ref 1836, .ref 1837, .ref 1838, .ref 1839, .ref 1840, .int 0, .ref 1841, .ref 1842, .ref 1843, .ref 1844, .ref 1845, .ref 1846, .ref 1847, .ref 1848, .int 0, .int 0, .int 0, .int 0, .int 0, .long 0, .int 0, .int 0, .int 0, .ref 1849, .ref 1850, .int 0, .int 0, .int 0, .ref 1851, .int 0, .int 0, .ref 1852, .ref 1853, .int 0, .ref 1854, .ref 1855, .int 0, .int 0, .ref 1856, .int 0, .ref 1857, .int 0, .int 0, .int 0, .ref 1858, .int 0, .ref 1859, .ref 1860, .ref 1861, .ref 1862, .ref 1863, .ref 1864, .ref 1865, .int (-1), .ref 1866, .ref 1867, .ref 1868, .ref 1869, .int 0, .ref 1870, .int (-1), .int 0, .int 0, .int 0, .ref 1871, .ref 1872, .ref 1873, .ref 1874, .ref 1875, .ref 1876, .ref 1877, .ref 1878, .ref 1879, .ref 1880, .ref 1881, .int 0, .ref 1882, .ref 1883, .ref 1884, .int 0, .ref 1885, .int 0, .ref 1886, .int (-1), .ref 1887, .int 0, .ref 1888, .int 0, .ref 1889, .ref 1890, .ref 1891, .ref 1892, .ref 1893, .ref 1894, .ref 1895, .ref 1896, .ref 1897, .ref 1898, .int 0, .int 0, .int 0])))) : am_G at_P at_cl at_ty 12 mt_law 414 [(4, .int 0), (3, .ref 1899), (2, .ref 1826), (1, .ref 1), (0, .ref 0)] [] S (fun r _ c n => r = some (.int 1) ∧ c = 0 ∧ n = 0) := by
  have hs0 : am_same [] S S := am_same_rf _ _
  refine G_ps 5 (pc' := 420) (l' := [(4, .int 0), (3, .ref 1899), (2, .ref 1826), (1, .ref 1), (0, .ref 0)]) (st' := [.int 1, .ref 0, .ref 1]) rfl ?_
  refine G_ild (i := 1) rfl g0_0 (by decide) ?_
  show am_G at_P at_cl at_ty _ mt_law 421 [(4, .int 0), (3, .ref 1899), (2, .ref 1826), (1, .ref 1), (0, .ref 0)] [.int y1, .ref 1] _ _
  refine G_ps 4 (pc' := 426) (l' := [(4, .int 0), (3, .ref 1899), (2, .ref 1826), (1, .ref 1), (0, .ref 0)]) (st' := [.int 2, .ref 0, .int y1, .ref 1]) rfl ?_
  refine G_ild (i := 2) rfl g0_0 (by decide) ?_
  show am_G at_P at_cl at_ty _ mt_law 427 [(4, .int 0), (3, .ref 1899), (2, .ref 1826), (1, .ref 1), (0, .ref 0)] [.int y2, .int y1, .ref 1] _ _
  refine G_ps 4 (pc' := 432) (l' := [(4, .int 0), (3, .ref 1899), (2, .ref 1826), (1, .ref 1), (0, .ref 0)]) (st' := [.int 3, .ref 0, .int y2, .int y1, .ref 1]) rfl ?_
  refine G_ild (i := 3) rfl g0_0 (by decide) ?_
  show am_G at_P at_cl at_ty _ mt_law 433 [(4, .int 0), (3, .ref 1899), (2, .ref 1826), (1, .ref 1), (0, .ref 0)] [.int y3, .int y2, .int y1, .ref 1] _ _
  refine G_ps 1 (pc' := if y3 = 0 then 440 else 436) (l' := [(4, .int 0), (3, .ref 1899), (2, .ref 1826), (1, .ref 1), (0, .ref 0)]) (st' := [.int y2, .int y1, .ref 1]) rfl ?_
  by_cases hc1 : y3 = 0
  · rw [if_pos hc1]
    refine G_ps 1 (pc' := 441) (l' := [(4, .int 0), (3, .ref 1899), (2, .ref 1826), (1, .ref 1), (0, .ref 0)]) (st' := [.int 0, .int y2, .int y1, .ref 1]) rfl ?_
    refine G_cv (i := 65) (j := 9) (b := 1) (M' := mt_9) (xs := [.int 0, .int y2, .int y1]) (rest := []) rfl rfl rfl rfl g0_1 (Nat.le_of_ble_eq_true rfl) (Nat.le_of_ble_eq_true rfl) ?_ (fun _ _ _ _ h9 => h9)
    show am_G at_P at_cl at_ty _ mt_9 0 [(0, .ref 1), (1, .int y1), (2, .int y2), (3, .int 0)] [] _ _
    refine G_ps 1 (pc' := 1) (l' := [(0, .ref 1), (1, .int y1), (2, .int y2), (3, .int 0)]) (st' := [.ref 1]) rfl ?_
    refine G_get (i := 19) (ci := 0) (k := 1) (v := .ref 7) rfl rfl g0_1 rfl ?_
    show am_G at_P at_cl at_ty _ mt_9 4 [(0, .ref 1), (1, .int y1), (2, .int y2), (3, .int 0)] [.ref 7] _ _
    refine G_ps 1 (pc' := 5) (l' := [(0, .ref 1), (1, .int y1), (2, .int y2), (3, .int 0)]) (st' := [.int y1, .ref 7]) rfl ?_
    refine G_cv (i := 144) (j := 35) (b := 7) (M' := mt_35) (xs := [.int y1]) (rest := []) rfl rfl rfl rfl g0_7 (Nat.le_of_ble_eq_true rfl) (Nat.le_of_ble_eq_true rfl) ?_ (fun _ _ _ _ h9 => h9)
    show am_G at_P at_cl at_ty _ mt_35 0 [(0, .ref 7), (1, .int y1)] [] _ _
    refine G_ps 2 (pc' := if y1 < 0 then 25 else 4) (l' := [(0, .ref 7), (1, .int y1)]) (st' := []) rfl ?_
    by_cases hc2 : y1 < 0
    · rw [if_pos hc2]
      refine G_ps 1 (pc' := 26) (l' := [(0, .ref 7), (1, .int y1)]) (st' := [.int 0]) rfl ?_
      refine G_ret rfl rfl rfl ?_
      show am_G at_P at_cl at_ty _ mt_9 8 [(0, .ref 1), (1, .int y1), (2, .int y2), (3, .int 0)] [.int 0] _ _
      refine G_ps 2 (pc' := 13) (l' := [(0, .ref 1), (1, .int y1), (2, .int y2), (3, .int 0)]) (st' := [.int (-101)]) rfl ?_
      refine G_ret rfl rfl rfl ?_
      show am_G at_P at_cl at_ty _ mt_law 444 [(4, .int 0), (3, .ref 1899), (2, .ref 1826), (1, .ref 1), (0, .ref 0)] [.int (-101)] _ _
      refine G_ps 5 (pc' := 450) (l' := [(4, .int 0), (3, .ref 1899), (2, .ref 1826), (1, .ref 1), (0, .ref 0)]) (st' := [.int 1, .ref 0, .ref 1826, .int (-101)]) rfl ?_
      refine G_ild (i := 1) rfl g0_0 (by decide) ?_
      show am_G at_P at_cl at_ty _ mt_law 451 [(4, .int 0), (3, .ref 1899), (2, .ref 1826), (1, .ref 1), (0, .ref 0)] [.int y1, .ref 1826, .int (-101)] _ _
      refine G_ps 4 (pc' := 456) (l' := [(4, .int 0), (3, .ref 1899), (2, .ref 1826), (1, .ref 1), (0, .ref 0)]) (st' := [.int 2, .ref 0, .int y1, .ref 1826, .int (-101)]) rfl ?_
      refine G_ild (i := 2) rfl g0_0 (by decide) ?_
      show am_G at_P at_cl at_ty _ mt_law 457 [(4, .int 0), (3, .ref 1899), (2, .ref 1826), (1, .ref 1), (0, .ref 0)] [.int y2, .int y1, .ref 1826, .int (-101)] _ _
      refine G_ps 4 (pc' := 462) (l' := [(4, .int 0), (3, .ref 1899), (2, .ref 1826), (1, .ref 1), (0, .ref 0)]) (st' := [.int 3, .ref 0, .int y2, .int y1, .ref 1826, .int (-101)]) rfl ?_
      refine G_ild (i := 3) rfl g0_0 (by decide) ?_
      show am_G at_P at_cl at_ty _ mt_law 463 [(4, .int 0), (3, .ref 1899), (2, .ref 1826), (1, .ref 1), (0, .ref 0)] [.int y3, .int y2, .int y1, .ref 1826, .int (-101)] _ _
      refine G_ps 1 (pc' := if y3 = 0 then 470 else 466) (l' := [(4, .int 0), (3, .ref 1899), (2, .ref 1826), (1, .ref 1), (0, .ref 0)]) (st' := [.int y2, .int y1, .ref 1826, .int (-101)]) rfl ?_
      by_cases hc3 : y3 = 0
      · rw [if_pos hc3]
        refine G_ps 1 (pc' := 471) (l' := [(4, .int 0), (3, .ref 1899), (2, .ref 1826), (1, .ref 1), (0, .ref 0)]) (st' := [.int 0, .int y2, .int y1, .ref 1826, .int (-101)]) rfl ?_
        refine G_cv (i := 69) (j := 218) (b := 1826) (M' := mt_218) (xs := [.int 0, .int y2, .int y1]) (rest := [.int (-101)]) rfl rfl rfl rfl g0_1826 (Nat.le_of_ble_eq_true rfl) (Nat.le_of_ble_eq_true rfl) ?_ (fun _ _ _ _ h9 => h9)
        show am_G at_P at_cl at_ty _ mt_218 0 [(0, .ref 1826), (1, .int y1), (2, .int y2), (3, .int 0)] [] _ _
        refine G_ps 2 (pc' := if y1 < 0 then 12 else 4) (l' := [(0, .ref 1826), (1, .int y1), (2, .int y2), (3, .int 0)]) (st' := []) rfl ?_
        by_cases hc4 : y1 < 0
        · rw [if_pos hc4]
          refine G_ps 1 (pc' := 14) (l' := [(0, .ref 1826), (1, .int y1), (2, .int y2), (3, .int 0)]) (st' := [.int (-101)]) rfl ?_
          refine G_ret rfl rfl rfl ?_
          show am_G at_P at_cl at_ty _ mt_law 474 [(4, .int 0), (3, .ref 1899), (2, .ref 1826), (1, .ref 1), (0, .ref 0)] [.int (-101), .int (-101)] _ _
          refine G_ps 5 (pc' := 26) (l' := [(4, .int 6), (3, .ref 1899), (2, .ref 1826), (1, .ref 1), (0, .ref 0)]) (st' := [.ref 0, .int 6]) rfl ?_
          refine G_alen rfl g0_0 ?_
          show am_G at_P at_cl at_ty _ mt_law 27 [(4, .int 6), (3, .ref 1899), (2, .ref 1826), (1, .ref 1), (0, .ref 0)] [.int 6, .int 6] _ _
          refine G_ps 4 (pc' := 1004) (l' := [(4, .int 6), (3, .ref 1899), (2, .ref 1826), (1, .ref 1), (0, .ref 0)]) (st' := [.int 1]) rfl ?_
          refine G_ret rfl rfl rfl ?_
          exact ⟨rfl, by simp, by simp⟩
        · rw [if_neg hc4]
          exfalso
          simp only [Int32.lt_iff_toInt_lt, Int32.le_iff_toInt_le, show (0 : Int32).toInt = 0 by decide] at hc2 hc4
          omega
      · rw [if_neg hc3]
        refine G_ps 2 (pc' := 471) (l' := [(4, .int 0), (3, .ref 1899), (2, .ref 1826), (1, .ref 1), (0, .ref 0)]) (st' := [.int 1, .int y2, .int y1, .ref 1826, .int (-101)]) rfl ?_
        refine G_cv (i := 69) (j := 218) (b := 1826) (M' := mt_218) (xs := [.int 1, .int y2, .int y1]) (rest := [.int (-101)]) rfl rfl rfl rfl g0_1826 (Nat.le_of_ble_eq_true rfl) (Nat.le_of_ble_eq_true rfl) ?_ (fun _ _ _ _ h9 => h9)
        show am_G at_P at_cl at_ty _ mt_218 0 [(0, .ref 1826), (1, .int y1), (2, .int y2), (3, .int 1)] [] _ _
        refine G_ps 2 (pc' := if y1 < 0 then 12 else 4) (l' := [(0, .ref 1826), (1, .int y1), (2, .int y2), (3, .int 1)]) (st' := []) rfl ?_
        by_cases hc5 : y1 < 0
        · rw [if_pos hc5]
          refine G_ps 1 (pc' := 14) (l' := [(0, .ref 1826), (1, .int y1), (2, .int y2), (3, .int 1)]) (st' := [.int (-101)]) rfl ?_
          refine G_ret rfl rfl rfl ?_
          show am_G at_P at_cl at_ty _ mt_law 474 [(4, .int 0), (3, .ref 1899), (2, .ref 1826), (1, .ref 1), (0, .ref 0)] [.int (-101), .int (-101)] _ _
          refine G_ps 5 (pc' := 26) (l' := [(4, .int 6), (3, .ref 1899), (2, .ref 1826), (1, .ref 1), (0, .ref 0)]) (st' := [.ref 0, .int 6]) rfl ?_
          refine G_alen rfl g0_0 ?_
          show am_G at_P at_cl at_ty _ mt_law 27 [(4, .int 6), (3, .ref 1899), (2, .ref 1826), (1, .ref 1), (0, .ref 0)] [.int 6, .int 6] _ _
          refine G_ps 4 (pc' := 1004) (l' := [(4, .int 6), (3, .ref 1899), (2, .ref 1826), (1, .ref 1), (0, .ref 0)]) (st' := [.int 1]) rfl ?_
          refine G_ret rfl rfl rfl ?_
          exact ⟨rfl, by simp, by simp⟩
        · rw [if_neg hc5]
          exfalso
          simp only [Int32.lt_iff_toInt_lt, Int32.le_iff_toInt_le, show (0 : Int32).toInt = 0 by decide] at hc2 hc5
          omega
    · rw [if_neg hc2]
      refine G_ps 2 (pc' := 6) (l' := [(0, .ref 7), (1, .int y1)]) (st' := [.ref 7, .int y1]) rfl ?_
      refine G_get (i := 36) (ci := 2) (k := 6) (v := .int 0) rfl rfl g0_7 rfl ?_
      show am_G at_P at_cl at_ty _ mt_35 9 [(0, .ref 7), (1, .int y1)] [.int 0, .int y1] _ _
      refine G_ps 1 (pc' := if 0 ≤ y1 then 25 else 12) (l' := [(0, .ref 7), (1, .int y1)]) (st' := []) rfl ?_
      by_cases hc6 : 0 ≤ y1
      · rw [if_pos hc6]
        refine G_ps 1 (pc' := 26) (l' := [(0, .ref 7), (1, .int y1)]) (st' := [.int 0]) rfl ?_
        refine G_ret rfl rfl rfl ?_
        show am_G at_P at_cl at_ty _ mt_9 8 [(0, .ref 1), (1, .int y1), (2, .int y2), (3, .int 0)] [.int 0] _ _
        refine G_ps 2 (pc' := 13) (l' := [(0, .ref 1), (1, .int y1), (2, .int y2), (3, .int 0)]) (st' := [.int (-101)]) rfl ?_
        refine G_ret rfl rfl rfl ?_
        show am_G at_P at_cl at_ty _ mt_law 444 [(4, .int 0), (3, .ref 1899), (2, .ref 1826), (1, .ref 1), (0, .ref 0)] [.int (-101)] _ _
        refine G_ps 5 (pc' := 450) (l' := [(4, .int 0), (3, .ref 1899), (2, .ref 1826), (1, .ref 1), (0, .ref 0)]) (st' := [.int 1, .ref 0, .ref 1826, .int (-101)]) rfl ?_
        refine G_ild (i := 1) rfl g0_0 (by decide) ?_
        show am_G at_P at_cl at_ty _ mt_law 451 [(4, .int 0), (3, .ref 1899), (2, .ref 1826), (1, .ref 1), (0, .ref 0)] [.int y1, .ref 1826, .int (-101)] _ _
        refine G_ps 4 (pc' := 456) (l' := [(4, .int 0), (3, .ref 1899), (2, .ref 1826), (1, .ref 1), (0, .ref 0)]) (st' := [.int 2, .ref 0, .int y1, .ref 1826, .int (-101)]) rfl ?_
        refine G_ild (i := 2) rfl g0_0 (by decide) ?_
        show am_G at_P at_cl at_ty _ mt_law 457 [(4, .int 0), (3, .ref 1899), (2, .ref 1826), (1, .ref 1), (0, .ref 0)] [.int y2, .int y1, .ref 1826, .int (-101)] _ _
        refine G_ps 4 (pc' := 462) (l' := [(4, .int 0), (3, .ref 1899), (2, .ref 1826), (1, .ref 1), (0, .ref 0)]) (st' := [.int 3, .ref 0, .int y2, .int y1, .ref 1826, .int (-101)]) rfl ?_
        refine G_ild (i := 3) rfl g0_0 (by decide) ?_
        show am_G at_P at_cl at_ty _ mt_law 463 [(4, .int 0), (3, .ref 1899), (2, .ref 1826), (1, .ref 1), (0, .ref 0)] [.int y3, .int y2, .int y1, .ref 1826, .int (-101)] _ _
        refine G_ps 1 (pc' := if y3 = 0 then 470 else 466) (l' := [(4, .int 0), (3, .ref 1899), (2, .ref 1826), (1, .ref 1), (0, .ref 0)]) (st' := [.int y2, .int y1, .ref 1826, .int (-101)]) rfl ?_
        by_cases hc7 : y3 = 0
        · rw [if_pos hc7]
          refine G_ps 1 (pc' := 471) (l' := [(4, .int 0), (3, .ref 1899), (2, .ref 1826), (1, .ref 1), (0, .ref 0)]) (st' := [.int 0, .int y2, .int y1, .ref 1826, .int (-101)]) rfl ?_
          refine G_cv (i := 69) (j := 218) (b := 1826) (M' := mt_218) (xs := [.int 0, .int y2, .int y1]) (rest := [.int (-101)]) rfl rfl rfl rfl g0_1826 (Nat.le_of_ble_eq_true rfl) (Nat.le_of_ble_eq_true rfl) ?_ (fun _ _ _ _ h9 => h9)
          show am_G at_P at_cl at_ty _ mt_218 0 [(0, .ref 1826), (1, .int y1), (2, .int y2), (3, .int 0)] [] _ _
          refine G_ps 2 (pc' := if y1 < 0 then 12 else 4) (l' := [(0, .ref 1826), (1, .int y1), (2, .int y2), (3, .int 0)]) (st' := []) rfl ?_
          by_cases hc8 : y1 < 0
          · rw [if_pos hc8]
            exfalso
            simp only [Int32.lt_iff_toInt_lt, Int32.le_iff_toInt_le, show (0 : Int32).toInt = 0 by decide] at hc2 hc6 hc8
            omega
          · rw [if_neg hc8]
            refine G_ps 2 (pc' := 6) (l' := [(0, .ref 1826), (1, .int y1), (2, .int y2), (3, .int 0)]) (st' := [.ref 1826, .int y1]) rfl ?_
            refine G_get (i := 387) (ci := 13) (k := 19) (v := .int 0) rfl rfl g0_1826 rfl ?_
            show am_G at_P at_cl at_ty _ mt_218 9 [(0, .ref 1826), (1, .int y1), (2, .int y2), (3, .int 0)] [.int 0, .int y1] _ _
            refine G_ps 1 (pc' := if y1 < 0 then 15 else 12) (l' := [(0, .ref 1826), (1, .int y1), (2, .int y2), (3, .int 0)]) (st' := []) rfl ?_
            by_cases hc9 : y1 < 0
            · rw [if_pos hc9]
              exfalso
              simp only [Int32.lt_iff_toInt_lt, Int32.le_iff_toInt_le, show (0 : Int32).toInt = 0 by decide] at hc2 hc6 hc8 hc9
              omega
            · rw [if_neg hc9]
              refine G_ps 1 (pc' := 14) (l' := [(0, .ref 1826), (1, .int y1), (2, .int y2), (3, .int 0)]) (st' := [.int (-101)]) rfl ?_
              refine G_ret rfl rfl rfl ?_
              show am_G at_P at_cl at_ty _ mt_law 474 [(4, .int 0), (3, .ref 1899), (2, .ref 1826), (1, .ref 1), (0, .ref 0)] [.int (-101), .int (-101)] _ _
              refine G_ps 5 (pc' := 26) (l' := [(4, .int 6), (3, .ref 1899), (2, .ref 1826), (1, .ref 1), (0, .ref 0)]) (st' := [.ref 0, .int 6]) rfl ?_
              refine G_alen rfl g0_0 ?_
              show am_G at_P at_cl at_ty _ mt_law 27 [(4, .int 6), (3, .ref 1899), (2, .ref 1826), (1, .ref 1), (0, .ref 0)] [.int 6, .int 6] _ _
              refine G_ps 4 (pc' := 1004) (l' := [(4, .int 6), (3, .ref 1899), (2, .ref 1826), (1, .ref 1), (0, .ref 0)]) (st' := [.int 1]) rfl ?_
              refine G_ret rfl rfl rfl ?_
              exact ⟨rfl, by simp, by simp⟩
        · rw [if_neg hc7]
          refine G_ps 2 (pc' := 471) (l' := [(4, .int 0), (3, .ref 1899), (2, .ref 1826), (1, .ref 1), (0, .ref 0)]) (st' := [.int 1, .int y2, .int y1, .ref 1826, .int (-101)]) rfl ?_
          refine G_cv (i := 69) (j := 218) (b := 1826) (M' := mt_218) (xs := [.int 1, .int y2, .int y1]) (rest := [.int (-101)]) rfl rfl rfl rfl g0_1826 (Nat.le_of_ble_eq_true rfl) (Nat.le_of_ble_eq_true rfl) ?_ (fun _ _ _ _ h9 => h9)
          show am_G at_P at_cl at_ty _ mt_218 0 [(0, .ref 1826), (1, .int y1), (2, .int y2), (3, .int 1)] [] _ _
          refine G_ps 2 (pc' := if y1 < 0 then 12 else 4) (l' := [(0, .ref 1826), (1, .int y1), (2, .int y2), (3, .int 1)]) (st' := []) rfl ?_
          by_cases hc10 : y1 < 0
          · rw [if_pos hc10]
            exfalso
            simp only [Int32.lt_iff_toInt_lt, Int32.le_iff_toInt_le, show (0 : Int32).toInt = 0 by decide] at hc2 hc6 hc10
            omega
          · rw [if_neg hc10]
            refine G_ps 2 (pc' := 6) (l' := [(0, .ref 1826), (1, .int y1), (2, .int y2), (3, .int 1)]) (st' := [.ref 1826, .int y1]) rfl ?_
            refine G_get (i := 387) (ci := 13) (k := 19) (v := .int 0) rfl rfl g0_1826 rfl ?_
            show am_G at_P at_cl at_ty _ mt_218 9 [(0, .ref 1826), (1, .int y1), (2, .int y2), (3, .int 1)] [.int 0, .int y1] _ _
            refine G_ps 1 (pc' := if y1 < 0 then 15 else 12) (l' := [(0, .ref 1826), (1, .int y1), (2, .int y2), (3, .int 1)]) (st' := []) rfl ?_
            by_cases hc11 : y1 < 0
            · rw [if_pos hc11]
              exfalso
              simp only [Int32.lt_iff_toInt_lt, Int32.le_iff_toInt_le, show (0 : Int32).toInt = 0 by decide] at hc2 hc6 hc10 hc11
              omega
            · rw [if_neg hc11]
              refine G_ps 1 (pc' := 14) (l' := [(0, .ref 1826), (1, .int y1), (2, .int y2), (3, .int 1)]) (st' := [.int (-101)]) rfl ?_
              refine G_ret rfl rfl rfl ?_
              show am_G at_P at_cl at_ty _ mt_law 474 [(4, .int 0), (3, .ref 1899), (2, .ref 1826), (1, .ref 1), (0, .ref 0)] [.int (-101), .int (-101)] _ _
              refine G_ps 5 (pc' := 26) (l' := [(4, .int 6), (3, .ref 1899), (2, .ref 1826), (1, .ref 1), (0, .ref 0)]) (st' := [.ref 0, .int 6]) rfl ?_
              refine G_alen rfl g0_0 ?_
              show am_G at_P at_cl at_ty _ mt_law 27 [(4, .int 6), (3, .ref 1899), (2, .ref 1826), (1, .ref 1), (0, .ref 0)] [.int 6, .int 6] _ _
              refine G_ps 4 (pc' := 1004) (l' := [(4, .int 6), (3, .ref 1899), (2, .ref 1826), (1, .ref 1), (0, .ref 0)]) (st' := [.int 1]) rfl ?_
              refine G_ret rfl rfl rfl ?_
              exact ⟨rfl, by simp, by simp⟩
      · rw [if_neg hc6]
        exfalso
        simp only [Int32.lt_iff_toInt_lt, Int32.le_iff_toInt_le, show (0 : Int32).toInt = 0 by decide] at hc2 hc6
        omega
  · rw [if_neg hc1]
    refine G_ps 2 (pc' := 441) (l' := [(4, .int 0), (3, .ref 1899), (2, .ref 1826), (1, .ref 1), (0, .ref 0)]) (st' := [.int 1, .int y2, .int y1, .ref 1]) rfl ?_
    refine G_cv (i := 65) (j := 9) (b := 1) (M' := mt_9) (xs := [.int 1, .int y2, .int y1]) (rest := []) rfl rfl rfl rfl g0_1 (Nat.le_of_ble_eq_true rfl) (Nat.le_of_ble_eq_true rfl) ?_ (fun _ _ _ _ h9 => h9)
    show am_G at_P at_cl at_ty _ mt_9 0 [(0, .ref 1), (1, .int y1), (2, .int y2), (3, .int 1)] [] _ _
    refine G_ps 1 (pc' := 1) (l' := [(0, .ref 1), (1, .int y1), (2, .int y2), (3, .int 1)]) (st' := [.ref 1]) rfl ?_
    refine G_get (i := 19) (ci := 0) (k := 1) (v := .ref 7) rfl rfl g0_1 rfl ?_
    show am_G at_P at_cl at_ty _ mt_9 4 [(0, .ref 1), (1, .int y1), (2, .int y2), (3, .int 1)] [.ref 7] _ _
    refine G_ps 1 (pc' := 5) (l' := [(0, .ref 1), (1, .int y1), (2, .int y2), (3, .int 1)]) (st' := [.int y1, .ref 7]) rfl ?_
    refine G_cv (i := 144) (j := 35) (b := 7) (M' := mt_35) (xs := [.int y1]) (rest := []) rfl rfl rfl rfl g0_7 (Nat.le_of_ble_eq_true rfl) (Nat.le_of_ble_eq_true rfl) ?_ (fun _ _ _ _ h9 => h9)
    show am_G at_P at_cl at_ty _ mt_35 0 [(0, .ref 7), (1, .int y1)] [] _ _
    refine G_ps 2 (pc' := if y1 < 0 then 25 else 4) (l' := [(0, .ref 7), (1, .int y1)]) (st' := []) rfl ?_
    by_cases hc12 : y1 < 0
    · rw [if_pos hc12]
      refine G_ps 1 (pc' := 26) (l' := [(0, .ref 7), (1, .int y1)]) (st' := [.int 0]) rfl ?_
      refine G_ret rfl rfl rfl ?_
      show am_G at_P at_cl at_ty _ mt_9 8 [(0, .ref 1), (1, .int y1), (2, .int y2), (3, .int 1)] [.int 0] _ _
      refine G_ps 2 (pc' := 13) (l' := [(0, .ref 1), (1, .int y1), (2, .int y2), (3, .int 1)]) (st' := [.int (-101)]) rfl ?_
      refine G_ret rfl rfl rfl ?_
      show am_G at_P at_cl at_ty _ mt_law 444 [(4, .int 0), (3, .ref 1899), (2, .ref 1826), (1, .ref 1), (0, .ref 0)] [.int (-101)] _ _
      refine G_ps 5 (pc' := 450) (l' := [(4, .int 0), (3, .ref 1899), (2, .ref 1826), (1, .ref 1), (0, .ref 0)]) (st' := [.int 1, .ref 0, .ref 1826, .int (-101)]) rfl ?_
      refine G_ild (i := 1) rfl g0_0 (by decide) ?_
      show am_G at_P at_cl at_ty _ mt_law 451 [(4, .int 0), (3, .ref 1899), (2, .ref 1826), (1, .ref 1), (0, .ref 0)] [.int y1, .ref 1826, .int (-101)] _ _
      refine G_ps 4 (pc' := 456) (l' := [(4, .int 0), (3, .ref 1899), (2, .ref 1826), (1, .ref 1), (0, .ref 0)]) (st' := [.int 2, .ref 0, .int y1, .ref 1826, .int (-101)]) rfl ?_
      refine G_ild (i := 2) rfl g0_0 (by decide) ?_
      show am_G at_P at_cl at_ty _ mt_law 457 [(4, .int 0), (3, .ref 1899), (2, .ref 1826), (1, .ref 1), (0, .ref 0)] [.int y2, .int y1, .ref 1826, .int (-101)] _ _
      refine G_ps 4 (pc' := 462) (l' := [(4, .int 0), (3, .ref 1899), (2, .ref 1826), (1, .ref 1), (0, .ref 0)]) (st' := [.int 3, .ref 0, .int y2, .int y1, .ref 1826, .int (-101)]) rfl ?_
      refine G_ild (i := 3) rfl g0_0 (by decide) ?_
      show am_G at_P at_cl at_ty _ mt_law 463 [(4, .int 0), (3, .ref 1899), (2, .ref 1826), (1, .ref 1), (0, .ref 0)] [.int y3, .int y2, .int y1, .ref 1826, .int (-101)] _ _
      refine G_ps 1 (pc' := if y3 = 0 then 470 else 466) (l' := [(4, .int 0), (3, .ref 1899), (2, .ref 1826), (1, .ref 1), (0, .ref 0)]) (st' := [.int y2, .int y1, .ref 1826, .int (-101)]) rfl ?_
      by_cases hc13 : y3 = 0
      · rw [if_pos hc13]
        refine G_ps 1 (pc' := 471) (l' := [(4, .int 0), (3, .ref 1899), (2, .ref 1826), (1, .ref 1), (0, .ref 0)]) (st' := [.int 0, .int y2, .int y1, .ref 1826, .int (-101)]) rfl ?_
        refine G_cv (i := 69) (j := 218) (b := 1826) (M' := mt_218) (xs := [.int 0, .int y2, .int y1]) (rest := [.int (-101)]) rfl rfl rfl rfl g0_1826 (Nat.le_of_ble_eq_true rfl) (Nat.le_of_ble_eq_true rfl) ?_ (fun _ _ _ _ h9 => h9)
        show am_G at_P at_cl at_ty _ mt_218 0 [(0, .ref 1826), (1, .int y1), (2, .int y2), (3, .int 0)] [] _ _
        refine G_ps 2 (pc' := if y1 < 0 then 12 else 4) (l' := [(0, .ref 1826), (1, .int y1), (2, .int y2), (3, .int 0)]) (st' := []) rfl ?_
        by_cases hc14 : y1 < 0
        · rw [if_pos hc14]
          refine G_ps 1 (pc' := 14) (l' := [(0, .ref 1826), (1, .int y1), (2, .int y2), (3, .int 0)]) (st' := [.int (-101)]) rfl ?_
          refine G_ret rfl rfl rfl ?_
          show am_G at_P at_cl at_ty _ mt_law 474 [(4, .int 0), (3, .ref 1899), (2, .ref 1826), (1, .ref 1), (0, .ref 0)] [.int (-101), .int (-101)] _ _
          refine G_ps 5 (pc' := 26) (l' := [(4, .int 6), (3, .ref 1899), (2, .ref 1826), (1, .ref 1), (0, .ref 0)]) (st' := [.ref 0, .int 6]) rfl ?_
          refine G_alen rfl g0_0 ?_
          show am_G at_P at_cl at_ty _ mt_law 27 [(4, .int 6), (3, .ref 1899), (2, .ref 1826), (1, .ref 1), (0, .ref 0)] [.int 6, .int 6] _ _
          refine G_ps 4 (pc' := 1004) (l' := [(4, .int 6), (3, .ref 1899), (2, .ref 1826), (1, .ref 1), (0, .ref 0)]) (st' := [.int 1]) rfl ?_
          refine G_ret rfl rfl rfl ?_
          exact ⟨rfl, by simp, by simp⟩
        · rw [if_neg hc14]
          exfalso
          simp only [Int32.lt_iff_toInt_lt, Int32.le_iff_toInt_le, show (0 : Int32).toInt = 0 by decide] at hc12 hc14
          omega
      · rw [if_neg hc13]
        refine G_ps 2 (pc' := 471) (l' := [(4, .int 0), (3, .ref 1899), (2, .ref 1826), (1, .ref 1), (0, .ref 0)]) (st' := [.int 1, .int y2, .int y1, .ref 1826, .int (-101)]) rfl ?_
        refine G_cv (i := 69) (j := 218) (b := 1826) (M' := mt_218) (xs := [.int 1, .int y2, .int y1]) (rest := [.int (-101)]) rfl rfl rfl rfl g0_1826 (Nat.le_of_ble_eq_true rfl) (Nat.le_of_ble_eq_true rfl) ?_ (fun _ _ _ _ h9 => h9)
        show am_G at_P at_cl at_ty _ mt_218 0 [(0, .ref 1826), (1, .int y1), (2, .int y2), (3, .int 1)] [] _ _
        refine G_ps 2 (pc' := if y1 < 0 then 12 else 4) (l' := [(0, .ref 1826), (1, .int y1), (2, .int y2), (3, .int 1)]) (st' := []) rfl ?_
        by_cases hc15 : y1 < 0
        · rw [if_pos hc15]
          refine G_ps 1 (pc' := 14) (l' := [(0, .ref 1826), (1, .int y1), (2, .int y2), (3, .int 1)]) (st' := [.int (-101)]) rfl ?_
          refine G_ret rfl rfl rfl ?_
          show am_G at_P at_cl at_ty _ mt_law 474 [(4, .int 0), (3, .ref 1899), (2, .ref 1826), (1, .ref 1), (0, .ref 0)] [.int (-101), .int (-101)] _ _
          refine G_ps 5 (pc' := 26) (l' := [(4, .int 6), (3, .ref 1899), (2, .ref 1826), (1, .ref 1), (0, .ref 0)]) (st' := [.ref 0, .int 6]) rfl ?_
          refine G_alen rfl g0_0 ?_
          show am_G at_P at_cl at_ty _ mt_law 27 [(4, .int 6), (3, .ref 1899), (2, .ref 1826), (1, .ref 1), (0, .ref 0)] [.int 6, .int 6] _ _
          refine G_ps 4 (pc' := 1004) (l' := [(4, .int 6), (3, .ref 1899), (2, .ref 1826), (1, .ref 1), (0, .ref 0)]) (st' := [.int 1]) rfl ?_
          refine G_ret rfl rfl rfl ?_
          exact ⟨rfl, by simp, by simp⟩
        · rw [if_neg hc15]
          exfalso
          simp only [Int32.lt_iff_toInt_lt, Int32.le_iff_toInt_le, show (0 : Int32).toInt = 0 by decide] at hc12 hc15
          omega
    · rw [if_neg hc12]
      refine G_ps 2 (pc' := 6) (l' := [(0, .ref 7), (1, .int y1)]) (st' := [.ref 7, .int y1]) rfl ?_
      refine G_get (i := 36) (ci := 2) (k := 6) (v := .int 0) rfl rfl g0_7 rfl ?_
      show am_G at_P at_cl at_ty _ mt_35 9 [(0, .ref 7), (1, .int y1)] [.int 0, .int y1] _ _
      refine G_ps 1 (pc' := if 0 ≤ y1 then 25 else 12) (l' := [(0, .ref 7), (1, .int y1)]) (st' := []) rfl ?_
      by_cases hc16 : 0 ≤ y1
      · rw [if_pos hc16]
        refine G_ps 1 (pc' := 26) (l' := [(0, .ref 7), (1, .int y1)]) (st' := [.int 0]) rfl ?_
        refine G_ret rfl rfl rfl ?_
        show am_G at_P at_cl at_ty _ mt_9 8 [(0, .ref 1), (1, .int y1), (2, .int y2), (3, .int 1)] [.int 0] _ _
        refine G_ps 2 (pc' := 13) (l' := [(0, .ref 1), (1, .int y1), (2, .int y2), (3, .int 1)]) (st' := [.int (-101)]) rfl ?_
        refine G_ret rfl rfl rfl ?_
        show am_G at_P at_cl at_ty _ mt_law 444 [(4, .int 0), (3, .ref 1899), (2, .ref 1826), (1, .ref 1), (0, .ref 0)] [.int (-101)] _ _
        refine G_ps 5 (pc' := 450) (l' := [(4, .int 0), (3, .ref 1899), (2, .ref 1826), (1, .ref 1), (0, .ref 0)]) (st' := [.int 1, .ref 0, .ref 1826, .int (-101)]) rfl ?_
        refine G_ild (i := 1) rfl g0_0 (by decide) ?_
        show am_G at_P at_cl at_ty _ mt_law 451 [(4, .int 0), (3, .ref 1899), (2, .ref 1826), (1, .ref 1), (0, .ref 0)] [.int y1, .ref 1826, .int (-101)] _ _
        refine G_ps 4 (pc' := 456) (l' := [(4, .int 0), (3, .ref 1899), (2, .ref 1826), (1, .ref 1), (0, .ref 0)]) (st' := [.int 2, .ref 0, .int y1, .ref 1826, .int (-101)]) rfl ?_
        refine G_ild (i := 2) rfl g0_0 (by decide) ?_
        show am_G at_P at_cl at_ty _ mt_law 457 [(4, .int 0), (3, .ref 1899), (2, .ref 1826), (1, .ref 1), (0, .ref 0)] [.int y2, .int y1, .ref 1826, .int (-101)] _ _
        refine G_ps 4 (pc' := 462) (l' := [(4, .int 0), (3, .ref 1899), (2, .ref 1826), (1, .ref 1), (0, .ref 0)]) (st' := [.int 3, .ref 0, .int y2, .int y1, .ref 1826, .int (-101)]) rfl ?_
        refine G_ild (i := 3) rfl g0_0 (by decide) ?_
        show am_G at_P at_cl at_ty _ mt_law 463 [(4, .int 0), (3, .ref 1899), (2, .ref 1826), (1, .ref 1), (0, .ref 0)] [.int y3, .int y2, .int y1, .ref 1826, .int (-101)] _ _
        refine G_ps 1 (pc' := if y3 = 0 then 470 else 466) (l' := [(4, .int 0), (3, .ref 1899), (2, .ref 1826), (1, .ref 1), (0, .ref 0)]) (st' := [.int y2, .int y1, .ref 1826, .int (-101)]) rfl ?_
        by_cases hc17 : y3 = 0
        · rw [if_pos hc17]
          refine G_ps 1 (pc' := 471) (l' := [(4, .int 0), (3, .ref 1899), (2, .ref 1826), (1, .ref 1), (0, .ref 0)]) (st' := [.int 0, .int y2, .int y1, .ref 1826, .int (-101)]) rfl ?_
          refine G_cv (i := 69) (j := 218) (b := 1826) (M' := mt_218) (xs := [.int 0, .int y2, .int y1]) (rest := [.int (-101)]) rfl rfl rfl rfl g0_1826 (Nat.le_of_ble_eq_true rfl) (Nat.le_of_ble_eq_true rfl) ?_ (fun _ _ _ _ h9 => h9)
          show am_G at_P at_cl at_ty _ mt_218 0 [(0, .ref 1826), (1, .int y1), (2, .int y2), (3, .int 0)] [] _ _
          refine G_ps 2 (pc' := if y1 < 0 then 12 else 4) (l' := [(0, .ref 1826), (1, .int y1), (2, .int y2), (3, .int 0)]) (st' := []) rfl ?_
          by_cases hc18 : y1 < 0
          · rw [if_pos hc18]
            exfalso
            simp only [Int32.lt_iff_toInt_lt, Int32.le_iff_toInt_le, show (0 : Int32).toInt = 0 by decide] at hc12 hc16 hc18
            omega
          · rw [if_neg hc18]
            refine G_ps 2 (pc' := 6) (l' := [(0, .ref 1826), (1, .int y1), (2, .int y2), (3, .int 0)]) (st' := [.ref 1826, .int y1]) rfl ?_
            refine G_get (i := 387) (ci := 13) (k := 19) (v := .int 0) rfl rfl g0_1826 rfl ?_
            show am_G at_P at_cl at_ty _ mt_218 9 [(0, .ref 1826), (1, .int y1), (2, .int y2), (3, .int 0)] [.int 0, .int y1] _ _
            refine G_ps 1 (pc' := if y1 < 0 then 15 else 12) (l' := [(0, .ref 1826), (1, .int y1), (2, .int y2), (3, .int 0)]) (st' := []) rfl ?_
            by_cases hc19 : y1 < 0
            · rw [if_pos hc19]
              exfalso
              simp only [Int32.lt_iff_toInt_lt, Int32.le_iff_toInt_le, show (0 : Int32).toInt = 0 by decide] at hc12 hc16 hc18 hc19
              omega
            · rw [if_neg hc19]
              refine G_ps 1 (pc' := 14) (l' := [(0, .ref 1826), (1, .int y1), (2, .int y2), (3, .int 0)]) (st' := [.int (-101)]) rfl ?_
              refine G_ret rfl rfl rfl ?_
              show am_G at_P at_cl at_ty _ mt_law 474 [(4, .int 0), (3, .ref 1899), (2, .ref 1826), (1, .ref 1), (0, .ref 0)] [.int (-101), .int (-101)] _ _
              refine G_ps 5 (pc' := 26) (l' := [(4, .int 6), (3, .ref 1899), (2, .ref 1826), (1, .ref 1), (0, .ref 0)]) (st' := [.ref 0, .int 6]) rfl ?_
              refine G_alen rfl g0_0 ?_
              show am_G at_P at_cl at_ty _ mt_law 27 [(4, .int 6), (3, .ref 1899), (2, .ref 1826), (1, .ref 1), (0, .ref 0)] [.int 6, .int 6] _ _
              refine G_ps 4 (pc' := 1004) (l' := [(4, .int 6), (3, .ref 1899), (2, .ref 1826), (1, .ref 1), (0, .ref 0)]) (st' := [.int 1]) rfl ?_
              refine G_ret rfl rfl rfl ?_
              exact ⟨rfl, by simp, by simp⟩
        · rw [if_neg hc17]
          refine G_ps 2 (pc' := 471) (l' := [(4, .int 0), (3, .ref 1899), (2, .ref 1826), (1, .ref 1), (0, .ref 0)]) (st' := [.int 1, .int y2, .int y1, .ref 1826, .int (-101)]) rfl ?_
          refine G_cv (i := 69) (j := 218) (b := 1826) (M' := mt_218) (xs := [.int 1, .int y2, .int y1]) (rest := [.int (-101)]) rfl rfl rfl rfl g0_1826 (Nat.le_of_ble_eq_true rfl) (Nat.le_of_ble_eq_true rfl) ?_ (fun _ _ _ _ h9 => h9)
          show am_G at_P at_cl at_ty _ mt_218 0 [(0, .ref 1826), (1, .int y1), (2, .int y2), (3, .int 1)] [] _ _
          refine G_ps 2 (pc' := if y1 < 0 then 12 else 4) (l' := [(0, .ref 1826), (1, .int y1), (2, .int y2), (3, .int 1)]) (st' := []) rfl ?_
          by_cases hc20 : y1 < 0
          · rw [if_pos hc20]
            exfalso
            simp only [Int32.lt_iff_toInt_lt, Int32.le_iff_toInt_le, show (0 : Int32).toInt = 0 by decide] at hc12 hc16 hc20
            omega
          · rw [if_neg hc20]
            refine G_ps 2 (pc' := 6) (l' := [(0, .ref 1826), (1, .int y1), (2, .int y2), (3, .int 1)]) (st' := [.ref 1826, .int y1]) rfl ?_
            refine G_get (i := 387) (ci := 13) (k := 19) (v := .int 0) rfl rfl g0_1826 rfl ?_
            show am_G at_P at_cl at_ty _ mt_218 9 [(0, .ref 1826), (1, .int y1), (2, .int y2), (3, .int 1)] [.int 0, .int y1] _ _
            refine G_ps 1 (pc' := if y1 < 0 then 15 else 12) (l' := [(0, .ref 1826), (1, .int y1), (2, .int y2), (3, .int 1)]) (st' := []) rfl ?_
            by_cases hc21 : y1 < 0
            · rw [if_pos hc21]
              exfalso
              simp only [Int32.lt_iff_toInt_lt, Int32.le_iff_toInt_le, show (0 : Int32).toInt = 0 by decide] at hc12 hc16 hc20 hc21
              omega
            · rw [if_neg hc21]
              refine G_ps 1 (pc' := 14) (l' := [(0, .ref 1826), (1, .int y1), (2, .int y2), (3, .int 1)]) (st' := [.int (-101)]) rfl ?_
              refine G_ret rfl rfl rfl ?_
              show am_G at_P at_cl at_ty _ mt_law 474 [(4, .int 0), (3, .ref 1899), (2, .ref 1826), (1, .ref 1), (0, .ref 0)] [.int (-101), .int (-101)] _ _
              refine G_ps 5 (pc' := 26) (l' := [(4, .int 6), (3, .ref 1899), (2, .ref 1826), (1, .ref 1), (0, .ref 0)]) (st' := [.ref 0, .int 6]) rfl ?_
              refine G_alen rfl g0_0 ?_
              show am_G at_P at_cl at_ty _ mt_law 27 [(4, .int 6), (3, .ref 1899), (2, .ref 1826), (1, .ref 1), (0, .ref 0)] [.int 6, .int 6] _ _
              refine G_ps 4 (pc' := 1004) (l' := [(4, .int 6), (3, .ref 1899), (2, .ref 1826), (1, .ref 1), (0, .ref 0)]) (st' := [.int 1]) rfl ?_
              refine G_ret rfl rfl rfl ?_
              exact ⟨rfl, by simp, by simp⟩
      · rw [if_neg hc16]
        exfalso
        simp only [Int32.lt_iff_toInt_lt, Int32.le_iff_toInt_le, show (0 : Int32).toInt = 0 by decide] at hc12 hc16
        omega
set_option maxRecDepth 100000 in
set_option maxHeartbeats 4000000 in
theorem lc_9 (S : am_S) (y0 y1 y2 y3 y4 y5 : Int32) (g0_0 : am_nth S 0 = some (6, some (.inl (.int, 6, .int 0, [(0, .int y0), (1, .int y1), (2, .int y2), (3, .int y3), (4, .int y4), (5, .int y5)])))) (g0_1 : am_nth S 1 = some (9, some (.inr (0, [.ref 2, .ref 7, .ref 361, .ref 363, .ref 366, .ref 372, .ref 406, .ref 1824, .int 0])))) (g0_372 : am_nth S 372 = some (11, some (.inr (9, [.ref 7, .ref 366, .ref 373, .ref 374, .ref 375, .ref 376, .ref 377, .ref 378, .ref 380, .int 0, .int (-1)])))) (g0_1826 : am_nth S 1826 = some (115, some (.inr (13, [.int 0, .int 0, .ref 1827, .int 0, .ref 1828, .ref 1829, .ref 1830, .ref 1831, .int 0, .ref 1832, .ref 1833, .ref 1834, .ref 1835, .int 0, .ref 1836, .ref 1837, .ref 1838, .ref 1839, .ref 1840, .int 0, .ref 1841, .ref 1842, .ref 1843, .ref 1844, .ref 1845, .ref 1846, .ref 1847, .ref 1848, .int 0, .int 0, .int 0, .int 0, .int 0, .long 0, .int 0, .int 0, .int 0, .ref 1849, .ref 1850, .int 0, .int 0, .int 0, .ref 1851, .int 0, .int 0, .ref 1852, .ref 1853, .int 0, .ref 1854, .ref 1855, .int 0, .int 0, .ref 1856, .int 0, .ref 1857, .int 0, .int 0, .int 0, .ref 1858, .int 0, .ref 1859, .ref 1860, .ref 1861, .ref 1862, .ref 1863, .ref 1864, .ref 1865, .int (-1), .ref 1866, .ref 1867, .ref 1868, .ref 1869, .int 0, .ref 1870, .int (-1), .int 0, .int 0, .int 0, .ref 1871, .ref 1872, .ref 1873, .ref 1874, .ref 1875, .ref 1876, .ref 1877, .ref 1878, .ref 1879, .ref 1880, .ref 1881, .int 0, .ref 1882, .ref 1883, .ref 1884, .int 0, .ref 1885, .int 0, .ref 1886, .int (-1), .ref 1887, .int 0, .ref 1888, .int 0, .ref 1889, .ref 1890, .ref 1891, .ref 1892, .ref 1893, .ref 1894, .ref 1895, .ref 1896, .ref 1897, .ref 1898, .int 0, .int 0, .int 0])))) : am_G at_P at_cl at_ty 12 mt_law 479 [(4, .int 0), (3, .ref 1899), (2, .ref 1826), (1, .ref 1), (0, .ref 0)] [] S (fun r _ c n => r = some (.int 1) ∧ c = 0 ∧ n = 0) := by
  have hs0 : am_same [] S S := am_same_rf _ _
  refine G_ps 5 (pc' := 485) (l' := [(4, .int 0), (3, .ref 1899), (2, .ref 1826), (1, .ref 1), (0, .ref 0)]) (st' := [.int 1, .ref 0, .ref 1]) rfl ?_
  refine G_ild (i := 1) rfl g0_0 (by decide) ?_
  show am_G at_P at_cl at_ty _ mt_law 486 [(4, .int 0), (3, .ref 1899), (2, .ref 1826), (1, .ref 1), (0, .ref 0)] [.int y1, .ref 1] _ _
  refine G_cv (i := 70) (j := 10) (b := 1) (M' := mt_10) (xs := [.int y1]) (rest := []) rfl rfl rfl rfl g0_1 (Nat.le_of_ble_eq_true rfl) (Nat.le_of_ble_eq_true rfl) ?_ (fun _ _ _ _ h9 => h9)
  show am_G at_P at_cl at_ty _ mt_10 0 [(0, .ref 1), (1, .int y1)] [] _ _
  refine G_ps 1 (pc' := 1) (l' := [(0, .ref 1), (1, .int y1)]) (st' := [.ref 1]) rfl ?_
  refine G_get (i := 53) (ci := 0) (k := 5) (v := .ref 372) rfl rfl g0_1 rfl ?_
  show am_G at_P at_cl at_ty _ mt_10 4 [(0, .ref 1), (1, .int y1)] [.ref 372] _ _
  refine G_get (i := 191) (ci := 9) (k := 10) (v := .int (-1)) rfl rfl g0_372 rfl ?_
  show am_G at_P at_cl at_ty _ mt_10 7 [(0, .ref 1), (1, .int y1)] [.int (-1)] _ _
  refine G_ps 2 (pc' := 12) (l' := [(0, .ref 1), (1, .int y1)]) (st' := [.int (-103)]) rfl ?_
  refine G_ret rfl rfl rfl ?_
  show am_G at_P at_cl at_ty _ mt_law 489 [(4, .int 0), (3, .ref 1899), (2, .ref 1826), (1, .ref 1), (0, .ref 0)] [.int (-103)] _ _
  refine G_ps 5 (pc' := 495) (l' := [(4, .int 0), (3, .ref 1899), (2, .ref 1826), (1, .ref 1), (0, .ref 0)]) (st' := [.int 1, .ref 0, .ref 1826, .int (-103)]) rfl ?_
  refine G_ild (i := 1) rfl g0_0 (by decide) ?_
  show am_G at_P at_cl at_ty _ mt_law 496 [(4, .int 0), (3, .ref 1899), (2, .ref 1826), (1, .ref 1), (0, .ref 0)] [.int y1, .ref 1826, .int (-103)] _ _
  refine G_cv (i := 73) (j := 220) (b := 1826) (M' := mt_220) (xs := [.int y1]) (rest := [.int (-103)]) rfl rfl rfl rfl g0_1826 (Nat.le_of_ble_eq_true rfl) (Nat.le_of_ble_eq_true rfl) ?_ (fun _ _ _ _ h9 => h9)
  show am_G at_P at_cl at_ty _ mt_220 0 [(0, .ref 1826), (1, .int y1)] [] _ _
  refine G_ps 1 (pc' := 1) (l' := [(0, .ref 1826), (1, .int y1)]) (st' := [.ref 1826]) rfl ?_
  refine G_get (i := 131) (ci := 13) (k := 67) (v := .int (-1)) rfl rfl g0_1826 rfl ?_
  show am_G at_P at_cl at_ty _ mt_220 4 [(0, .ref 1826), (1, .int y1)] [.int (-1)] _ _
  refine G_ps 3 (pc' := 10) (l' := [(0, .ref 1826), (1, .int y1)]) (st' := [.int (-103)]) rfl ?_
  refine G_ret rfl rfl rfl ?_
  show am_G at_P at_cl at_ty _ mt_law 499 [(4, .int 0), (3, .ref 1899), (2, .ref 1826), (1, .ref 1), (0, .ref 0)] [.int (-103), .int (-103)] _ _
  refine G_ps 5 (pc' := 26) (l' := [(4, .int 6), (3, .ref 1899), (2, .ref 1826), (1, .ref 1), (0, .ref 0)]) (st' := [.ref 0, .int 6]) rfl ?_
  refine G_alen rfl g0_0 ?_
  show am_G at_P at_cl at_ty _ mt_law 27 [(4, .int 6), (3, .ref 1899), (2, .ref 1826), (1, .ref 1), (0, .ref 0)] [.int 6, .int 6] _ _
  refine G_ps 4 (pc' := 1004) (l' := [(4, .int 6), (3, .ref 1899), (2, .ref 1826), (1, .ref 1), (0, .ref 0)]) (st' := [.int 1]) rfl ?_
  refine G_ret rfl rfl rfl ?_
  exact ⟨rfl, by simp, by simp⟩
set_option maxRecDepth 100000 in
set_option maxHeartbeats 4000000 in
theorem lc_10 (S : am_S) (y0 y1 y2 y3 y4 y5 : Int32) (g0_0 : am_nth S 0 = some (6, some (.inl (.int, 6, .int 0, [(0, .int y0), (1, .int y1), (2, .int y2), (3, .int y3), (4, .int y4), (5, .int y5)])))) (g0_1 : am_nth S 1 = some (9, some (.inr (0, [.ref 2, .ref 7, .ref 361, .ref 363, .ref 366, .ref 372, .ref 406, .ref 1824, .int 0])))) (g0_7 : am_nth S 7 = some (7, some (.inr (2, [.ref 8, .ref 13, .ref 18, .ref 23, .ref 24, .int 0, .int 0])))) (g0_1826 : am_nth S 1826 = some (115, some (.inr (13, [.int 0, .int 0, .ref 1827, .int 0, .ref 1828, .ref 1829, .ref 1830, .ref 1831, .int 0, .ref 1832, .ref 1833, .ref 1834, .ref 1835, .int 0, .ref 1836, .ref 1837, .ref 1838, .ref 1839, .ref 1840, .int 0, .ref 1841, .ref 1842, .ref 1843, .ref 1844, .ref 1845, .ref 1846, .ref 1847, .ref 1848, .int 0, .int 0, .int 0, .int 0, .int 0, .long 0, .int 0, .int 0, .int 0, .ref 1849, .ref 1850, .int 0, .int 0, .int 0, .ref 1851, .int 0, .int 0, .ref 1852, .ref 1853, .int 0, .ref 1854, .ref 1855, .int 0, .int 0, .ref 1856, .int 0, .ref 1857, .int 0, .int 0, .int 0, .ref 1858, .int 0, .ref 1859, .ref 1860, .ref 1861, .ref 1862, .ref 1863, .ref 1864, .ref 1865, .int (-1), .ref 1866, .ref 1867, .ref 1868, .ref 1869, .int 0, .ref 1870, .int (-1), .int 0, .int 0, .int 0, .ref 1871, .ref 1872, .ref 1873, .ref 1874, .ref 1875, .ref 1876, .ref 1877, .ref 1878, .ref 1879, .ref 1880, .ref 1881, .int 0, .ref 1882, .ref 1883, .ref 1884, .int 0, .ref 1885, .int 0, .ref 1886, .int (-1), .ref 1887, .int 0, .ref 1888, .int 0, .ref 1889, .ref 1890, .ref 1891, .ref 1892, .ref 1893, .ref 1894, .ref 1895, .ref 1896, .ref 1897, .ref 1898, .int 0, .int 0, .int 0])))) : am_G at_P at_cl at_ty 12 mt_law 504 [(4, .int 0), (3, .ref 1899), (2, .ref 1826), (1, .ref 1), (0, .ref 0)] [] S (fun r _ c n => r = some (.int 1) ∧ c = 0 ∧ n = 0) := by
  have hs0 : am_same [] S S := am_same_rf _ _
  refine G_ps 5 (pc' := 510) (l' := [(4, .int 0), (3, .ref 1899), (2, .ref 1826), (1, .ref 1), (0, .ref 0)]) (st' := [.int 1, .ref 0, .ref 1]) rfl ?_
  refine G_ild (i := 1) rfl g0_0 (by decide) ?_
  show am_G at_P at_cl at_ty _ mt_law 511 [(4, .int 0), (3, .ref 1899), (2, .ref 1826), (1, .ref 1), (0, .ref 0)] [.int y1, .ref 1] _ _
  refine G_ps 4 (pc' := 516) (l' := [(4, .int 0), (3, .ref 1899), (2, .ref 1826), (1, .ref 1), (0, .ref 0)]) (st' := [.int 2, .ref 0, .int y1, .ref 1]) rfl ?_
  refine G_ild (i := 2) rfl g0_0 (by decide) ?_
  show am_G at_P at_cl at_ty _ mt_law 517 [(4, .int 0), (3, .ref 1899), (2, .ref 1826), (1, .ref 1), (0, .ref 0)] [.int y2, .int y1, .ref 1] _ _
  refine G_ps 1 (pc' := if y2 = 0 then 524 else 520) (l' := [(4, .int 0), (3, .ref 1899), (2, .ref 1826), (1, .ref 1), (0, .ref 0)]) (st' := [.int y1, .ref 1]) rfl ?_
  by_cases hc1 : y2 = 0
  · rw [if_pos hc1]
    refine G_ps 1 (pc' := 525) (l' := [(4, .int 0), (3, .ref 1899), (2, .ref 1826), (1, .ref 1), (0, .ref 0)]) (st' := [.int 0, .int y1, .ref 1]) rfl ?_
    refine G_cv (i := 74) (j := 11) (b := 1) (M' := mt_11) (xs := [.int 0, .int y1]) (rest := []) rfl rfl rfl rfl g0_1 (Nat.le_of_ble_eq_true rfl) (Nat.le_of_ble_eq_true rfl) ?_ (fun _ _ _ _ h9 => h9)
    show am_G at_P at_cl at_ty _ mt_11 0 [(0, .ref 1), (1, .int y1), (2, .int 0)] [] _ _
    refine G_ps 1 (pc' := 1) (l' := [(0, .ref 1), (1, .int y1), (2, .int 0)]) (st' := [.ref 1]) rfl ?_
    refine G_get (i := 19) (ci := 0) (k := 1) (v := .ref 7) rfl rfl g0_1 rfl ?_
    show am_G at_P at_cl at_ty _ mt_11 4 [(0, .ref 1), (1, .int y1), (2, .int 0)] [.ref 7] _ _
    refine G_ps 1 (pc' := 5) (l' := [(0, .ref 1), (1, .int y1), (2, .int 0)]) (st' := [.int y1, .ref 7]) rfl ?_
    refine G_cv (i := 144) (j := 35) (b := 7) (M' := mt_35) (xs := [.int y1]) (rest := []) rfl rfl rfl rfl g0_7 (Nat.le_of_ble_eq_true rfl) (Nat.le_of_ble_eq_true rfl) ?_ (fun _ _ _ _ h9 => h9)
    show am_G at_P at_cl at_ty _ mt_35 0 [(0, .ref 7), (1, .int y1)] [] _ _
    refine G_ps 2 (pc' := if y1 < 0 then 25 else 4) (l' := [(0, .ref 7), (1, .int y1)]) (st' := []) rfl ?_
    by_cases hc2 : y1 < 0
    · rw [if_pos hc2]
      refine G_ps 1 (pc' := 26) (l' := [(0, .ref 7), (1, .int y1)]) (st' := [.int 0]) rfl ?_
      refine G_ret rfl rfl rfl ?_
      show am_G at_P at_cl at_ty _ mt_11 8 [(0, .ref 1), (1, .int y1), (2, .int 0)] [.int 0] _ _
      refine G_ps 2 (pc' := 13) (l' := [(0, .ref 1), (1, .int y1), (2, .int 0)]) (st' := [.int (-101)]) rfl ?_
      refine G_ret rfl rfl rfl ?_
      show am_G at_P at_cl at_ty _ mt_law 528 [(4, .int 0), (3, .ref 1899), (2, .ref 1826), (1, .ref 1), (0, .ref 0)] [.int (-101)] _ _
      refine G_ps 5 (pc' := 534) (l' := [(4, .int 0), (3, .ref 1899), (2, .ref 1826), (1, .ref 1), (0, .ref 0)]) (st' := [.int 1, .ref 0, .ref 1826, .int (-101)]) rfl ?_
      refine G_ild (i := 1) rfl g0_0 (by decide) ?_
      show am_G at_P at_cl at_ty _ mt_law 535 [(4, .int 0), (3, .ref 1899), (2, .ref 1826), (1, .ref 1), (0, .ref 0)] [.int y1, .ref 1826, .int (-101)] _ _
      refine G_ps 4 (pc' := 540) (l' := [(4, .int 0), (3, .ref 1899), (2, .ref 1826), (1, .ref 1), (0, .ref 0)]) (st' := [.int 2, .ref 0, .int y1, .ref 1826, .int (-101)]) rfl ?_
      refine G_ild (i := 2) rfl g0_0 (by decide) ?_
      show am_G at_P at_cl at_ty _ mt_law 541 [(4, .int 0), (3, .ref 1899), (2, .ref 1826), (1, .ref 1), (0, .ref 0)] [.int y2, .int y1, .ref 1826, .int (-101)] _ _
      refine G_ps 1 (pc' := if y2 = 0 then 548 else 544) (l' := [(4, .int 0), (3, .ref 1899), (2, .ref 1826), (1, .ref 1), (0, .ref 0)]) (st' := [.int y1, .ref 1826, .int (-101)]) rfl ?_
      by_cases hc3 : y2 = 0
      · rw [if_pos hc3]
        refine G_ps 1 (pc' := 549) (l' := [(4, .int 0), (3, .ref 1899), (2, .ref 1826), (1, .ref 1), (0, .ref 0)]) (st' := [.int 0, .int y1, .ref 1826, .int (-101)]) rfl ?_
        refine G_cv (i := 78) (j := 227) (b := 1826) (M' := mt_227) (xs := [.int 0, .int y1]) (rest := [.int (-101)]) rfl rfl rfl rfl g0_1826 (Nat.le_of_ble_eq_true rfl) (Nat.le_of_ble_eq_true rfl) ?_ (fun _ _ _ _ h9 => h9)
        show am_G at_P at_cl at_ty _ mt_227 0 [(0, .ref 1826), (1, .int y1), (2, .int 0)] [] _ _
        refine G_ps 2 (pc' := if y1 < 0 then 12 else 4) (l' := [(0, .ref 1826), (1, .int y1), (2, .int 0)]) (st' := []) rfl ?_
        by_cases hc4 : y1 < 0
        · rw [if_pos hc4]
          refine G_ps 1 (pc' := 14) (l' := [(0, .ref 1826), (1, .int y1), (2, .int 0)]) (st' := [.int (-101)]) rfl ?_
          refine G_ret rfl rfl rfl ?_
          show am_G at_P at_cl at_ty _ mt_law 552 [(4, .int 0), (3, .ref 1899), (2, .ref 1826), (1, .ref 1), (0, .ref 0)] [.int (-101), .int (-101)] _ _
          refine G_ps 5 (pc' := 26) (l' := [(4, .int 6), (3, .ref 1899), (2, .ref 1826), (1, .ref 1), (0, .ref 0)]) (st' := [.ref 0, .int 6]) rfl ?_
          refine G_alen rfl g0_0 ?_
          show am_G at_P at_cl at_ty _ mt_law 27 [(4, .int 6), (3, .ref 1899), (2, .ref 1826), (1, .ref 1), (0, .ref 0)] [.int 6, .int 6] _ _
          refine G_ps 4 (pc' := 1004) (l' := [(4, .int 6), (3, .ref 1899), (2, .ref 1826), (1, .ref 1), (0, .ref 0)]) (st' := [.int 1]) rfl ?_
          refine G_ret rfl rfl rfl ?_
          exact ⟨rfl, by simp, by simp⟩
        · rw [if_neg hc4]
          exfalso
          simp only [Int32.lt_iff_toInt_lt, Int32.le_iff_toInt_le, show (0 : Int32).toInt = 0 by decide] at hc2 hc4
          omega
      · rw [if_neg hc3]
        refine G_ps 2 (pc' := 549) (l' := [(4, .int 0), (3, .ref 1899), (2, .ref 1826), (1, .ref 1), (0, .ref 0)]) (st' := [.int 1, .int y1, .ref 1826, .int (-101)]) rfl ?_
        refine G_cv (i := 78) (j := 227) (b := 1826) (M' := mt_227) (xs := [.int 1, .int y1]) (rest := [.int (-101)]) rfl rfl rfl rfl g0_1826 (Nat.le_of_ble_eq_true rfl) (Nat.le_of_ble_eq_true rfl) ?_ (fun _ _ _ _ h9 => h9)
        show am_G at_P at_cl at_ty _ mt_227 0 [(0, .ref 1826), (1, .int y1), (2, .int 1)] [] _ _
        refine G_ps 2 (pc' := if y1 < 0 then 12 else 4) (l' := [(0, .ref 1826), (1, .int y1), (2, .int 1)]) (st' := []) rfl ?_
        by_cases hc5 : y1 < 0
        · rw [if_pos hc5]
          refine G_ps 1 (pc' := 14) (l' := [(0, .ref 1826), (1, .int y1), (2, .int 1)]) (st' := [.int (-101)]) rfl ?_
          refine G_ret rfl rfl rfl ?_
          show am_G at_P at_cl at_ty _ mt_law 552 [(4, .int 0), (3, .ref 1899), (2, .ref 1826), (1, .ref 1), (0, .ref 0)] [.int (-101), .int (-101)] _ _
          refine G_ps 5 (pc' := 26) (l' := [(4, .int 6), (3, .ref 1899), (2, .ref 1826), (1, .ref 1), (0, .ref 0)]) (st' := [.ref 0, .int 6]) rfl ?_
          refine G_alen rfl g0_0 ?_
          show am_G at_P at_cl at_ty _ mt_law 27 [(4, .int 6), (3, .ref 1899), (2, .ref 1826), (1, .ref 1), (0, .ref 0)] [.int 6, .int 6] _ _
          refine G_ps 4 (pc' := 1004) (l' := [(4, .int 6), (3, .ref 1899), (2, .ref 1826), (1, .ref 1), (0, .ref 0)]) (st' := [.int 1]) rfl ?_
          refine G_ret rfl rfl rfl ?_
          exact ⟨rfl, by simp, by simp⟩
        · rw [if_neg hc5]
          exfalso
          simp only [Int32.lt_iff_toInt_lt, Int32.le_iff_toInt_le, show (0 : Int32).toInt = 0 by decide] at hc2 hc5
          omega
    · rw [if_neg hc2]
      refine G_ps 2 (pc' := 6) (l' := [(0, .ref 7), (1, .int y1)]) (st' := [.ref 7, .int y1]) rfl ?_
      refine G_get (i := 36) (ci := 2) (k := 6) (v := .int 0) rfl rfl g0_7 rfl ?_
      show am_G at_P at_cl at_ty _ mt_35 9 [(0, .ref 7), (1, .int y1)] [.int 0, .int y1] _ _
      refine G_ps 1 (pc' := if 0 ≤ y1 then 25 else 12) (l' := [(0, .ref 7), (1, .int y1)]) (st' := []) rfl ?_
      by_cases hc6 : 0 ≤ y1
      · rw [if_pos hc6]
        refine G_ps 1 (pc' := 26) (l' := [(0, .ref 7), (1, .int y1)]) (st' := [.int 0]) rfl ?_
        refine G_ret rfl rfl rfl ?_
        show am_G at_P at_cl at_ty _ mt_11 8 [(0, .ref 1), (1, .int y1), (2, .int 0)] [.int 0] _ _
        refine G_ps 2 (pc' := 13) (l' := [(0, .ref 1), (1, .int y1), (2, .int 0)]) (st' := [.int (-101)]) rfl ?_
        refine G_ret rfl rfl rfl ?_
        show am_G at_P at_cl at_ty _ mt_law 528 [(4, .int 0), (3, .ref 1899), (2, .ref 1826), (1, .ref 1), (0, .ref 0)] [.int (-101)] _ _
        refine G_ps 5 (pc' := 534) (l' := [(4, .int 0), (3, .ref 1899), (2, .ref 1826), (1, .ref 1), (0, .ref 0)]) (st' := [.int 1, .ref 0, .ref 1826, .int (-101)]) rfl ?_
        refine G_ild (i := 1) rfl g0_0 (by decide) ?_
        show am_G at_P at_cl at_ty _ mt_law 535 [(4, .int 0), (3, .ref 1899), (2, .ref 1826), (1, .ref 1), (0, .ref 0)] [.int y1, .ref 1826, .int (-101)] _ _
        refine G_ps 4 (pc' := 540) (l' := [(4, .int 0), (3, .ref 1899), (2, .ref 1826), (1, .ref 1), (0, .ref 0)]) (st' := [.int 2, .ref 0, .int y1, .ref 1826, .int (-101)]) rfl ?_
        refine G_ild (i := 2) rfl g0_0 (by decide) ?_
        show am_G at_P at_cl at_ty _ mt_law 541 [(4, .int 0), (3, .ref 1899), (2, .ref 1826), (1, .ref 1), (0, .ref 0)] [.int y2, .int y1, .ref 1826, .int (-101)] _ _
        refine G_ps 1 (pc' := if y2 = 0 then 548 else 544) (l' := [(4, .int 0), (3, .ref 1899), (2, .ref 1826), (1, .ref 1), (0, .ref 0)]) (st' := [.int y1, .ref 1826, .int (-101)]) rfl ?_
        by_cases hc7 : y2 = 0
        · rw [if_pos hc7]
          refine G_ps 1 (pc' := 549) (l' := [(4, .int 0), (3, .ref 1899), (2, .ref 1826), (1, .ref 1), (0, .ref 0)]) (st' := [.int 0, .int y1, .ref 1826, .int (-101)]) rfl ?_
          refine G_cv (i := 78) (j := 227) (b := 1826) (M' := mt_227) (xs := [.int 0, .int y1]) (rest := [.int (-101)]) rfl rfl rfl rfl g0_1826 (Nat.le_of_ble_eq_true rfl) (Nat.le_of_ble_eq_true rfl) ?_ (fun _ _ _ _ h9 => h9)
          show am_G at_P at_cl at_ty _ mt_227 0 [(0, .ref 1826), (1, .int y1), (2, .int 0)] [] _ _
          refine G_ps 2 (pc' := if y1 < 0 then 12 else 4) (l' := [(0, .ref 1826), (1, .int y1), (2, .int 0)]) (st' := []) rfl ?_
          by_cases hc8 : y1 < 0
          · rw [if_pos hc8]
            exfalso
            simp only [Int32.lt_iff_toInt_lt, Int32.le_iff_toInt_le, show (0 : Int32).toInt = 0 by decide] at hc2 hc6 hc8
            omega
          · rw [if_neg hc8]
            refine G_ps 2 (pc' := 6) (l' := [(0, .ref 1826), (1, .int y1), (2, .int 0)]) (st' := [.ref 1826, .int y1]) rfl ?_
            refine G_get (i := 387) (ci := 13) (k := 19) (v := .int 0) rfl rfl g0_1826 rfl ?_
            show am_G at_P at_cl at_ty _ mt_227 9 [(0, .ref 1826), (1, .int y1), (2, .int 0)] [.int 0, .int y1] _ _
            refine G_ps 1 (pc' := if y1 < 0 then 15 else 12) (l' := [(0, .ref 1826), (1, .int y1), (2, .int 0)]) (st' := []) rfl ?_
            by_cases hc9 : y1 < 0
            · rw [if_pos hc9]
              exfalso
              simp only [Int32.lt_iff_toInt_lt, Int32.le_iff_toInt_le, show (0 : Int32).toInt = 0 by decide] at hc2 hc6 hc8 hc9
              omega
            · rw [if_neg hc9]
              refine G_ps 1 (pc' := 14) (l' := [(0, .ref 1826), (1, .int y1), (2, .int 0)]) (st' := [.int (-101)]) rfl ?_
              refine G_ret rfl rfl rfl ?_
              show am_G at_P at_cl at_ty _ mt_law 552 [(4, .int 0), (3, .ref 1899), (2, .ref 1826), (1, .ref 1), (0, .ref 0)] [.int (-101), .int (-101)] _ _
              refine G_ps 5 (pc' := 26) (l' := [(4, .int 6), (3, .ref 1899), (2, .ref 1826), (1, .ref 1), (0, .ref 0)]) (st' := [.ref 0, .int 6]) rfl ?_
              refine G_alen rfl g0_0 ?_
              show am_G at_P at_cl at_ty _ mt_law 27 [(4, .int 6), (3, .ref 1899), (2, .ref 1826), (1, .ref 1), (0, .ref 0)] [.int 6, .int 6] _ _
              refine G_ps 4 (pc' := 1004) (l' := [(4, .int 6), (3, .ref 1899), (2, .ref 1826), (1, .ref 1), (0, .ref 0)]) (st' := [.int 1]) rfl ?_
              refine G_ret rfl rfl rfl ?_
              exact ⟨rfl, by simp, by simp⟩
        · rw [if_neg hc7]
          refine G_ps 2 (pc' := 549) (l' := [(4, .int 0), (3, .ref 1899), (2, .ref 1826), (1, .ref 1), (0, .ref 0)]) (st' := [.int 1, .int y1, .ref 1826, .int (-101)]) rfl ?_
          refine G_cv (i := 78) (j := 227) (b := 1826) (M' := mt_227) (xs := [.int 1, .int y1]) (rest := [.int (-101)]) rfl rfl rfl rfl g0_1826 (Nat.le_of_ble_eq_true rfl) (Nat.le_of_ble_eq_true rfl) ?_ (fun _ _ _ _ h9 => h9)
          show am_G at_P at_cl at_ty _ mt_227 0 [(0, .ref 1826), (1, .int y1), (2, .int 1)] [] _ _
          refine G_ps 2 (pc' := if y1 < 0 then 12 else 4) (l' := [(0, .ref 1826), (1, .int y1), (2, .int 1)]) (st' := []) rfl ?_
          by_cases hc10 : y1 < 0
          · rw [if_pos hc10]
            exfalso
            simp only [Int32.lt_iff_toInt_lt, Int32.le_iff_toInt_le, show (0 : Int32).toInt = 0 by decide] at hc2 hc6 hc10
            omega
          · rw [if_neg hc10]
            refine G_ps 2 (pc' := 6) (l' := [(0, .ref 1826), (1, .int y1), (2, .int 1)]) (st' := [.ref 1826, .int y1]) rfl ?_
            refine G_get (i := 387) (ci := 13) (k := 19) (v := .int 0) rfl rfl g0_1826 rfl ?_
            show am_G at_P at_cl at_ty _ mt_227 9 [(0, .ref 1826), (1, .int y1), (2, .int 1)] [.int 0, .int y1] _ _
            refine G_ps 1 (pc' := if y1 < 0 then 15 else 12) (l' := [(0, .ref 1826), (1, .int y1), (2, .int 1)]) (st' := []) rfl ?_
            by_cases hc11 : y1 < 0
            · rw [if_pos hc11]
              exfalso
              simp only [Int32.lt_iff_toInt_lt, Int32.le_iff_toInt_le, show (0 : Int32).toInt = 0 by decide] at hc2 hc6 hc10 hc11
              omega
            · rw [if_neg hc11]
              refine G_ps 1 (pc' := 14) (l' := [(0, .ref 1826), (1, .int y1), (2, .int 1)]) (st' := [.int (-101)]) rfl ?_
              refine G_ret rfl rfl rfl ?_
              show am_G at_P at_cl at_ty _ mt_law 552 [(4, .int 0), (3, .ref 1899), (2, .ref 1826), (1, .ref 1), (0, .ref 0)] [.int (-101), .int (-101)] _ _
              refine G_ps 5 (pc' := 26) (l' := [(4, .int 6), (3, .ref 1899), (2, .ref 1826), (1, .ref 1), (0, .ref 0)]) (st' := [.ref 0, .int 6]) rfl ?_
              refine G_alen rfl g0_0 ?_
              show am_G at_P at_cl at_ty _ mt_law 27 [(4, .int 6), (3, .ref 1899), (2, .ref 1826), (1, .ref 1), (0, .ref 0)] [.int 6, .int 6] _ _
              refine G_ps 4 (pc' := 1004) (l' := [(4, .int 6), (3, .ref 1899), (2, .ref 1826), (1, .ref 1), (0, .ref 0)]) (st' := [.int 1]) rfl ?_
              refine G_ret rfl rfl rfl ?_
              exact ⟨rfl, by simp, by simp⟩
      · rw [if_neg hc6]
        exfalso
        simp only [Int32.lt_iff_toInt_lt, Int32.le_iff_toInt_le, show (0 : Int32).toInt = 0 by decide] at hc2 hc6
        omega
  · rw [if_neg hc1]
    refine G_ps 2 (pc' := 525) (l' := [(4, .int 0), (3, .ref 1899), (2, .ref 1826), (1, .ref 1), (0, .ref 0)]) (st' := [.int 1, .int y1, .ref 1]) rfl ?_
    refine G_cv (i := 74) (j := 11) (b := 1) (M' := mt_11) (xs := [.int 1, .int y1]) (rest := []) rfl rfl rfl rfl g0_1 (Nat.le_of_ble_eq_true rfl) (Nat.le_of_ble_eq_true rfl) ?_ (fun _ _ _ _ h9 => h9)
    show am_G at_P at_cl at_ty _ mt_11 0 [(0, .ref 1), (1, .int y1), (2, .int 1)] [] _ _
    refine G_ps 1 (pc' := 1) (l' := [(0, .ref 1), (1, .int y1), (2, .int 1)]) (st' := [.ref 1]) rfl ?_
    refine G_get (i := 19) (ci := 0) (k := 1) (v := .ref 7) rfl rfl g0_1 rfl ?_
    show am_G at_P at_cl at_ty _ mt_11 4 [(0, .ref 1), (1, .int y1), (2, .int 1)] [.ref 7] _ _
    refine G_ps 1 (pc' := 5) (l' := [(0, .ref 1), (1, .int y1), (2, .int 1)]) (st' := [.int y1, .ref 7]) rfl ?_
    refine G_cv (i := 144) (j := 35) (b := 7) (M' := mt_35) (xs := [.int y1]) (rest := []) rfl rfl rfl rfl g0_7 (Nat.le_of_ble_eq_true rfl) (Nat.le_of_ble_eq_true rfl) ?_ (fun _ _ _ _ h9 => h9)
    show am_G at_P at_cl at_ty _ mt_35 0 [(0, .ref 7), (1, .int y1)] [] _ _
    refine G_ps 2 (pc' := if y1 < 0 then 25 else 4) (l' := [(0, .ref 7), (1, .int y1)]) (st' := []) rfl ?_
    by_cases hc12 : y1 < 0
    · rw [if_pos hc12]
      refine G_ps 1 (pc' := 26) (l' := [(0, .ref 7), (1, .int y1)]) (st' := [.int 0]) rfl ?_
      refine G_ret rfl rfl rfl ?_
      show am_G at_P at_cl at_ty _ mt_11 8 [(0, .ref 1), (1, .int y1), (2, .int 1)] [.int 0] _ _
      refine G_ps 2 (pc' := 13) (l' := [(0, .ref 1), (1, .int y1), (2, .int 1)]) (st' := [.int (-101)]) rfl ?_
      refine G_ret rfl rfl rfl ?_
      show am_G at_P at_cl at_ty _ mt_law 528 [(4, .int 0), (3, .ref 1899), (2, .ref 1826), (1, .ref 1), (0, .ref 0)] [.int (-101)] _ _
      refine G_ps 5 (pc' := 534) (l' := [(4, .int 0), (3, .ref 1899), (2, .ref 1826), (1, .ref 1), (0, .ref 0)]) (st' := [.int 1, .ref 0, .ref 1826, .int (-101)]) rfl ?_
      refine G_ild (i := 1) rfl g0_0 (by decide) ?_
      show am_G at_P at_cl at_ty _ mt_law 535 [(4, .int 0), (3, .ref 1899), (2, .ref 1826), (1, .ref 1), (0, .ref 0)] [.int y1, .ref 1826, .int (-101)] _ _
      refine G_ps 4 (pc' := 540) (l' := [(4, .int 0), (3, .ref 1899), (2, .ref 1826), (1, .ref 1), (0, .ref 0)]) (st' := [.int 2, .ref 0, .int y1, .ref 1826, .int (-101)]) rfl ?_
      refine G_ild (i := 2) rfl g0_0 (by decide) ?_
      show am_G at_P at_cl at_ty _ mt_law 541 [(4, .int 0), (3, .ref 1899), (2, .ref 1826), (1, .ref 1), (0, .ref 0)] [.int y2, .int y1, .ref 1826, .int (-101)] _ _
      refine G_ps 1 (pc' := if y2 = 0 then 548 else 544) (l' := [(4, .int 0), (3, .ref 1899), (2, .ref 1826), (1, .ref 1), (0, .ref 0)]) (st' := [.int y1, .ref 1826, .int (-101)]) rfl ?_
      by_cases hc13 : y2 = 0
      · rw [if_pos hc13]
        refine G_ps 1 (pc' := 549) (l' := [(4, .int 0), (3, .ref 1899), (2, .ref 1826), (1, .ref 1), (0, .ref 0)]) (st' := [.int 0, .int y1, .ref 1826, .int (-101)]) rfl ?_
        refine G_cv (i := 78) (j := 227) (b := 1826) (M' := mt_227) (xs := [.int 0, .int y1]) (rest := [.int (-101)]) rfl rfl rfl rfl g0_1826 (Nat.le_of_ble_eq_true rfl) (Nat.le_of_ble_eq_true rfl) ?_ (fun _ _ _ _ h9 => h9)
        show am_G at_P at_cl at_ty _ mt_227 0 [(0, .ref 1826), (1, .int y1), (2, .int 0)] [] _ _
        refine G_ps 2 (pc' := if y1 < 0 then 12 else 4) (l' := [(0, .ref 1826), (1, .int y1), (2, .int 0)]) (st' := []) rfl ?_
        by_cases hc14 : y1 < 0
        · rw [if_pos hc14]
          refine G_ps 1 (pc' := 14) (l' := [(0, .ref 1826), (1, .int y1), (2, .int 0)]) (st' := [.int (-101)]) rfl ?_
          refine G_ret rfl rfl rfl ?_
          show am_G at_P at_cl at_ty _ mt_law 552 [(4, .int 0), (3, .ref 1899), (2, .ref 1826), (1, .ref 1), (0, .ref 0)] [.int (-101), .int (-101)] _ _
          refine G_ps 5 (pc' := 26) (l' := [(4, .int 6), (3, .ref 1899), (2, .ref 1826), (1, .ref 1), (0, .ref 0)]) (st' := [.ref 0, .int 6]) rfl ?_
          refine G_alen rfl g0_0 ?_
          show am_G at_P at_cl at_ty _ mt_law 27 [(4, .int 6), (3, .ref 1899), (2, .ref 1826), (1, .ref 1), (0, .ref 0)] [.int 6, .int 6] _ _
          refine G_ps 4 (pc' := 1004) (l' := [(4, .int 6), (3, .ref 1899), (2, .ref 1826), (1, .ref 1), (0, .ref 0)]) (st' := [.int 1]) rfl ?_
          refine G_ret rfl rfl rfl ?_
          exact ⟨rfl, by simp, by simp⟩
        · rw [if_neg hc14]
          exfalso
          simp only [Int32.lt_iff_toInt_lt, Int32.le_iff_toInt_le, show (0 : Int32).toInt = 0 by decide] at hc12 hc14
          omega
      · rw [if_neg hc13]
        refine G_ps 2 (pc' := 549) (l' := [(4, .int 0), (3, .ref 1899), (2, .ref 1826), (1, .ref 1), (0, .ref 0)]) (st' := [.int 1, .int y1, .ref 1826, .int (-101)]) rfl ?_
        refine G_cv (i := 78) (j := 227) (b := 1826) (M' := mt_227) (xs := [.int 1, .int y1]) (rest := [.int (-101)]) rfl rfl rfl rfl g0_1826 (Nat.le_of_ble_eq_true rfl) (Nat.le_of_ble_eq_true rfl) ?_ (fun _ _ _ _ h9 => h9)
        show am_G at_P at_cl at_ty _ mt_227 0 [(0, .ref 1826), (1, .int y1), (2, .int 1)] [] _ _
        refine G_ps 2 (pc' := if y1 < 0 then 12 else 4) (l' := [(0, .ref 1826), (1, .int y1), (2, .int 1)]) (st' := []) rfl ?_
        by_cases hc15 : y1 < 0
        · rw [if_pos hc15]
          refine G_ps 1 (pc' := 14) (l' := [(0, .ref 1826), (1, .int y1), (2, .int 1)]) (st' := [.int (-101)]) rfl ?_
          refine G_ret rfl rfl rfl ?_
          show am_G at_P at_cl at_ty _ mt_law 552 [(4, .int 0), (3, .ref 1899), (2, .ref 1826), (1, .ref 1), (0, .ref 0)] [.int (-101), .int (-101)] _ _
          refine G_ps 5 (pc' := 26) (l' := [(4, .int 6), (3, .ref 1899), (2, .ref 1826), (1, .ref 1), (0, .ref 0)]) (st' := [.ref 0, .int 6]) rfl ?_
          refine G_alen rfl g0_0 ?_
          show am_G at_P at_cl at_ty _ mt_law 27 [(4, .int 6), (3, .ref 1899), (2, .ref 1826), (1, .ref 1), (0, .ref 0)] [.int 6, .int 6] _ _
          refine G_ps 4 (pc' := 1004) (l' := [(4, .int 6), (3, .ref 1899), (2, .ref 1826), (1, .ref 1), (0, .ref 0)]) (st' := [.int 1]) rfl ?_
          refine G_ret rfl rfl rfl ?_
          exact ⟨rfl, by simp, by simp⟩
        · rw [if_neg hc15]
          exfalso
          simp only [Int32.lt_iff_toInt_lt, Int32.le_iff_toInt_le, show (0 : Int32).toInt = 0 by decide] at hc12 hc15
          omega
    · rw [if_neg hc12]
      refine G_ps 2 (pc' := 6) (l' := [(0, .ref 7), (1, .int y1)]) (st' := [.ref 7, .int y1]) rfl ?_
      refine G_get (i := 36) (ci := 2) (k := 6) (v := .int 0) rfl rfl g0_7 rfl ?_
      show am_G at_P at_cl at_ty _ mt_35 9 [(0, .ref 7), (1, .int y1)] [.int 0, .int y1] _ _
      refine G_ps 1 (pc' := if 0 ≤ y1 then 25 else 12) (l' := [(0, .ref 7), (1, .int y1)]) (st' := []) rfl ?_
      by_cases hc16 : 0 ≤ y1
      · rw [if_pos hc16]
        refine G_ps 1 (pc' := 26) (l' := [(0, .ref 7), (1, .int y1)]) (st' := [.int 0]) rfl ?_
        refine G_ret rfl rfl rfl ?_
        show am_G at_P at_cl at_ty _ mt_11 8 [(0, .ref 1), (1, .int y1), (2, .int 1)] [.int 0] _ _
        refine G_ps 2 (pc' := 13) (l' := [(0, .ref 1), (1, .int y1), (2, .int 1)]) (st' := [.int (-101)]) rfl ?_
        refine G_ret rfl rfl rfl ?_
        show am_G at_P at_cl at_ty _ mt_law 528 [(4, .int 0), (3, .ref 1899), (2, .ref 1826), (1, .ref 1), (0, .ref 0)] [.int (-101)] _ _
        refine G_ps 5 (pc' := 534) (l' := [(4, .int 0), (3, .ref 1899), (2, .ref 1826), (1, .ref 1), (0, .ref 0)]) (st' := [.int 1, .ref 0, .ref 1826, .int (-101)]) rfl ?_
        refine G_ild (i := 1) rfl g0_0 (by decide) ?_
        show am_G at_P at_cl at_ty _ mt_law 535 [(4, .int 0), (3, .ref 1899), (2, .ref 1826), (1, .ref 1), (0, .ref 0)] [.int y1, .ref 1826, .int (-101)] _ _
        refine G_ps 4 (pc' := 540) (l' := [(4, .int 0), (3, .ref 1899), (2, .ref 1826), (1, .ref 1), (0, .ref 0)]) (st' := [.int 2, .ref 0, .int y1, .ref 1826, .int (-101)]) rfl ?_
        refine G_ild (i := 2) rfl g0_0 (by decide) ?_
        show am_G at_P at_cl at_ty _ mt_law 541 [(4, .int 0), (3, .ref 1899), (2, .ref 1826), (1, .ref 1), (0, .ref 0)] [.int y2, .int y1, .ref 1826, .int (-101)] _ _
        refine G_ps 1 (pc' := if y2 = 0 then 548 else 544) (l' := [(4, .int 0), (3, .ref 1899), (2, .ref 1826), (1, .ref 1), (0, .ref 0)]) (st' := [.int y1, .ref 1826, .int (-101)]) rfl ?_
        by_cases hc17 : y2 = 0
        · rw [if_pos hc17]
          refine G_ps 1 (pc' := 549) (l' := [(4, .int 0), (3, .ref 1899), (2, .ref 1826), (1, .ref 1), (0, .ref 0)]) (st' := [.int 0, .int y1, .ref 1826, .int (-101)]) rfl ?_
          refine G_cv (i := 78) (j := 227) (b := 1826) (M' := mt_227) (xs := [.int 0, .int y1]) (rest := [.int (-101)]) rfl rfl rfl rfl g0_1826 (Nat.le_of_ble_eq_true rfl) (Nat.le_of_ble_eq_true rfl) ?_ (fun _ _ _ _ h9 => h9)
          show am_G at_P at_cl at_ty _ mt_227 0 [(0, .ref 1826), (1, .int y1), (2, .int 0)] [] _ _
          refine G_ps 2 (pc' := if y1 < 0 then 12 else 4) (l' := [(0, .ref 1826), (1, .int y1), (2, .int 0)]) (st' := []) rfl ?_
          by_cases hc18 : y1 < 0
          · rw [if_pos hc18]
            exfalso
            simp only [Int32.lt_iff_toInt_lt, Int32.le_iff_toInt_le, show (0 : Int32).toInt = 0 by decide] at hc12 hc16 hc18
            omega
          · rw [if_neg hc18]
            refine G_ps 2 (pc' := 6) (l' := [(0, .ref 1826), (1, .int y1), (2, .int 0)]) (st' := [.ref 1826, .int y1]) rfl ?_
            refine G_get (i := 387) (ci := 13) (k := 19) (v := .int 0) rfl rfl g0_1826 rfl ?_
            show am_G at_P at_cl at_ty _ mt_227 9 [(0, .ref 1826), (1, .int y1), (2, .int 0)] [.int 0, .int y1] _ _
            refine G_ps 1 (pc' := if y1 < 0 then 15 else 12) (l' := [(0, .ref 1826), (1, .int y1), (2, .int 0)]) (st' := []) rfl ?_
            by_cases hc19 : y1 < 0
            · rw [if_pos hc19]
              exfalso
              simp only [Int32.lt_iff_toInt_lt, Int32.le_iff_toInt_le, show (0 : Int32).toInt = 0 by decide] at hc12 hc16 hc18 hc19
              omega
            · rw [if_neg hc19]
              refine G_ps 1 (pc' := 14) (l' := [(0, .ref 1826), (1, .int y1), (2, .int 0)]) (st' := [.int (-101)]) rfl ?_
              refine G_ret rfl rfl rfl ?_
              show am_G at_P at_cl at_ty _ mt_law 552 [(4, .int 0), (3, .ref 1899), (2, .ref 1826), (1, .ref 1), (0, .ref 0)] [.int (-101), .int (-101)] _ _
              refine G_ps 5 (pc' := 26) (l' := [(4, .int 6), (3, .ref 1899), (2, .ref 1826), (1, .ref 1), (0, .ref 0)]) (st' := [.ref 0, .int 6]) rfl ?_
              refine G_alen rfl g0_0 ?_
              show am_G at_P at_cl at_ty _ mt_law 27 [(4, .int 6), (3, .ref 1899), (2, .ref 1826), (1, .ref 1), (0, .ref 0)] [.int 6, .int 6] _ _
              refine G_ps 4 (pc' := 1004) (l' := [(4, .int 6), (3, .ref 1899), (2, .ref 1826), (1, .ref 1), (0, .ref 0)]) (st' := [.int 1]) rfl ?_
              refine G_ret rfl rfl rfl ?_
              exact ⟨rfl, by simp, by simp⟩
        · rw [if_neg hc17]
          refine G_ps 2 (pc' := 549) (l' := [(4, .int 0), (3, .ref 1899), (2, .ref 1826), (1, .ref 1), (0, .ref 0)]) (st' := [.int 1, .int y1, .ref 1826, .int (-101)]) rfl ?_
          refine G_cv (i := 78) (j := 227) (b := 1826) (M' := mt_227) (xs := [.int 1, .int y1]) (rest := [.int (-101)]) rfl rfl rfl rfl g0_1826 (Nat.le_of_ble_eq_true rfl) (Nat.le_of_ble_eq_true rfl) ?_ (fun _ _ _ _ h9 => h9)
          show am_G at_P at_cl at_ty _ mt_227 0 [(0, .ref 1826), (1, .int y1), (2, .int 1)] [] _ _
          refine G_ps 2 (pc' := if y1 < 0 then 12 else 4) (l' := [(0, .ref 1826), (1, .int y1), (2, .int 1)]) (st' := []) rfl ?_
          by_cases hc20 : y1 < 0
          · rw [if_pos hc20]
            exfalso
            simp only [Int32.lt_iff_toInt_lt, Int32.le_iff_toInt_le, show (0 : Int32).toInt = 0 by decide] at hc12 hc16 hc20
            omega
          · rw [if_neg hc20]
            refine G_ps 2 (pc' := 6) (l' := [(0, .ref 1826), (1, .int y1), (2, .int 1)]) (st' := [.ref 1826, .int y1]) rfl ?_
            refine G_get (i := 387) (ci := 13) (k := 19) (v := .int 0) rfl rfl g0_1826 rfl ?_
            show am_G at_P at_cl at_ty _ mt_227 9 [(0, .ref 1826), (1, .int y1), (2, .int 1)] [.int 0, .int y1] _ _
            refine G_ps 1 (pc' := if y1 < 0 then 15 else 12) (l' := [(0, .ref 1826), (1, .int y1), (2, .int 1)]) (st' := []) rfl ?_
            by_cases hc21 : y1 < 0
            · rw [if_pos hc21]
              exfalso
              simp only [Int32.lt_iff_toInt_lt, Int32.le_iff_toInt_le, show (0 : Int32).toInt = 0 by decide] at hc12 hc16 hc20 hc21
              omega
            · rw [if_neg hc21]
              refine G_ps 1 (pc' := 14) (l' := [(0, .ref 1826), (1, .int y1), (2, .int 1)]) (st' := [.int (-101)]) rfl ?_
              refine G_ret rfl rfl rfl ?_
              show am_G at_P at_cl at_ty _ mt_law 552 [(4, .int 0), (3, .ref 1899), (2, .ref 1826), (1, .ref 1), (0, .ref 0)] [.int (-101), .int (-101)] _ _
              refine G_ps 5 (pc' := 26) (l' := [(4, .int 6), (3, .ref 1899), (2, .ref 1826), (1, .ref 1), (0, .ref 0)]) (st' := [.ref 0, .int 6]) rfl ?_
              refine G_alen rfl g0_0 ?_
              show am_G at_P at_cl at_ty _ mt_law 27 [(4, .int 6), (3, .ref 1899), (2, .ref 1826), (1, .ref 1), (0, .ref 0)] [.int 6, .int 6] _ _
              refine G_ps 4 (pc' := 1004) (l' := [(4, .int 6), (3, .ref 1899), (2, .ref 1826), (1, .ref 1), (0, .ref 0)]) (st' := [.int 1]) rfl ?_
              refine G_ret rfl rfl rfl ?_
              exact ⟨rfl, by simp, by simp⟩
      · rw [if_neg hc16]
        exfalso
        simp only [Int32.lt_iff_toInt_lt, Int32.le_iff_toInt_le, show (0 : Int32).toInt = 0 by decide] at hc12 hc16
        omega
set_option maxRecDepth 100000 in
set_option maxHeartbeats 4000000 in
theorem lc_11 (S : am_S) (y0 y1 y2 y3 y4 y5 : Int32) (g0_0 : am_nth S 0 = some (6, some (.inl (.int, 6, .int 0, [(0, .int y0), (1, .int y1), (2, .int y2), (3, .int y3), (4, .int y4), (5, .int y5)])))) (g0_1 : am_nth S 1 = some (9, some (.inr (0, [.ref 2, .ref 7, .ref 361, .ref 363, .ref 366, .ref 372, .ref 406, .ref 1824, .int 0])))) (g0_406 : am_nth S 406 = some (19, some (.inr (10, [.ref 7, .ref 366, .ref 407, .ref 878, .ref 1349, .ref 1350, .ref 1350, .ref 1350, .long 0, .long 0, .ref 409, .ref 1352, .ref 1354, .int 0, .int 0, .long 0, .int 0, .int 0, .int 0])))) (g0_407 : am_nth S 407 = some (9, some (.inr (11, [.ref 408, .ref 409, .int 0, .int 0, .int 0, .int 0, .int 0, .long 0, .long 0])))) (g0_1826 : am_nth S 1826 = some (115, some (.inr (13, [.int 0, .int 0, .ref 1827, .int 0, .ref 1828, .ref 1829, .ref 1830, .ref 1831, .int 0, .ref 1832, .ref 1833, .ref 1834, .ref 1835, .int 0, .ref 1836, .ref 1837, .ref 1838, .ref 1839, .ref 1840, .int 0, .ref 1841, .ref 1842, .ref 1843, .ref 1844, .ref 1845, .ref 1846, .ref 1847, .ref 1848, .int 0, .int 0, .int 0, .int 0, .int 0, .long 0, .int 0, .int 0, .int 0, .ref 1849, .ref 1850, .int 0, .int 0, .int 0, .ref 1851, .int 0, .int 0, .ref 1852, .ref 1853, .int 0, .ref 1854, .ref 1855, .int 0, .int 0, .ref 1856, .int 0, .ref 1857, .int 0, .int 0, .int 0, .ref 1858, .int 0, .ref 1859, .ref 1860, .ref 1861, .ref 1862, .ref 1863, .ref 1864, .ref 1865, .int (-1), .ref 1866, .ref 1867, .ref 1868, .ref 1869, .int 0, .ref 1870, .int (-1), .int 0, .int 0, .int 0, .ref 1871, .ref 1872, .ref 1873, .ref 1874, .ref 1875, .ref 1876, .ref 1877, .ref 1878, .ref 1879, .ref 1880, .ref 1881, .int 0, .ref 1882, .ref 1883, .ref 1884, .int 0, .ref 1885, .int 0, .ref 1886, .int (-1), .ref 1887, .int 0, .ref 1888, .int 0, .ref 1889, .ref 1890, .ref 1891, .ref 1892, .ref 1893, .ref 1894, .ref 1895, .ref 1896, .ref 1897, .ref 1898, .int 0, .int 0, .int 0])))) : am_G at_P at_cl at_ty 12 mt_law 557 [(4, .int 0), (3, .ref 1899), (2, .ref 1826), (1, .ref 1), (0, .ref 0)] [] S (fun r _ c n => r = some (.int 1) ∧ c = 0 ∧ n = 0) := by
  have hs0 : am_same [] S S := am_same_rf _ _
  refine G_ps 5 (pc' := 563) (l' := [(4, .int 0), (3, .ref 1899), (2, .ref 1826), (1, .ref 1), (0, .ref 0)]) (st' := [.int 1, .ref 0, .ref 1]) rfl ?_
  refine G_ild (i := 1) rfl g0_0 (by decide) ?_
  show am_G at_P at_cl at_ty _ mt_law 564 [(4, .int 0), (3, .ref 1899), (2, .ref 1826), (1, .ref 1), (0, .ref 0)] [.int y1, .ref 1] _ _
  refine G_ps 4 (pc' := 569) (l' := [(4, .int 0), (3, .ref 1899), (2, .ref 1826), (1, .ref 1), (0, .ref 0)]) (st' := [.int 2, .ref 0, .int y1, .ref 1]) rfl ?_
  refine G_ild (i := 2) rfl g0_0 (by decide) ?_
  show am_G at_P at_cl at_ty _ mt_law 570 [(4, .int 0), (3, .ref 1899), (2, .ref 1826), (1, .ref 1), (0, .ref 0)] [.int y2, .int y1, .ref 1] _ _
  refine G_cv (i := 79) (j := 12) (b := 1) (M' := mt_12) (xs := [.int y2, .int y1]) (rest := []) rfl rfl rfl rfl g0_1 (Nat.le_of_ble_eq_true rfl) (Nat.le_of_ble_eq_true rfl) ?_ (fun _ _ _ _ h9 => h9)
  show am_G at_P at_cl at_ty _ mt_12 0 [(0, .ref 1), (1, .int y1), (2, .int y2)] [] _ _
  refine G_ps 3 (pc' := 3) (l' := [(0, .ref 1), (1, .int y1), (2, .int y2)]) (st' := [.int y2, .int y1, .ref 1]) rfl ?_
  refine G_cv (i := 202) (j := 24) (b := 1) (M' := mt_24) (xs := [.int y2, .int y1]) (rest := []) rfl rfl rfl rfl g0_1 (Nat.le_of_ble_eq_true rfl) (Nat.le_of_ble_eq_true rfl) ?_ (fun _ _ _ _ h9 => h9)
  show am_G at_P at_cl at_ty _ mt_24 0 [(0, .ref 1), (1, .int y1), (2, .int y2)] [] _ _
  refine G_ps 2 (pc' := if y1 < 0 then 13 else 4) (l' := [(0, .ref 1), (1, .int y1), (2, .int y2)]) (st' := []) rfl ?_
  by_cases hc1 : y1 < 0
  · rw [if_pos hc1]
    refine G_ps 1 (pc' := 15) (l' := [(0, .ref 1), (1, .int y1), (2, .int y2)]) (st' := [.int (-102)]) rfl ?_
    refine G_ret rfl rfl rfl ?_
    show am_G at_P at_cl at_ty _ mt_12 6 [(0, .ref 1), (1, .int y1), (2, .int y2)] [.int (-102)] _ _
    refine G_ps 5 (pc' := 32) (l' := [(3, .int (-102)), (0, .ref 1), (1, .int y1), (2, .int y2)]) (st' := [.int (-102)]) rfl ?_
    refine G_ret rfl rfl rfl ?_
    show am_G at_P at_cl at_ty _ mt_law 573 [(4, .int 0), (3, .ref 1899), (2, .ref 1826), (1, .ref 1), (0, .ref 0)] [.int (-102)] _ _
    refine G_ps 5 (pc' := 579) (l' := [(4, .int 0), (3, .ref 1899), (2, .ref 1826), (1, .ref 1), (0, .ref 0)]) (st' := [.int 1, .ref 0, .ref 1826, .int (-102)]) rfl ?_
    refine G_ild (i := 1) rfl g0_0 (by decide) ?_
    show am_G at_P at_cl at_ty _ mt_law 580 [(4, .int 0), (3, .ref 1899), (2, .ref 1826), (1, .ref 1), (0, .ref 0)] [.int y1, .ref 1826, .int (-102)] _ _
    refine G_ps 4 (pc' := 585) (l' := [(4, .int 0), (3, .ref 1899), (2, .ref 1826), (1, .ref 1), (0, .ref 0)]) (st' := [.int 2, .ref 0, .int y1, .ref 1826, .int (-102)]) rfl ?_
    refine G_ild (i := 2) rfl g0_0 (by decide) ?_
    show am_G at_P at_cl at_ty _ mt_law 586 [(4, .int 0), (3, .ref 1899), (2, .ref 1826), (1, .ref 1), (0, .ref 0)] [.int y2, .int y1, .ref 1826, .int (-102)] _ _
    refine G_cv (i := 82) (j := 237) (b := 1826) (M' := mt_237) (xs := [.int y2, .int y1]) (rest := [.int (-102)]) rfl rfl rfl rfl g0_1826 (Nat.le_of_ble_eq_true rfl) (Nat.le_of_ble_eq_true rfl) ?_ (fun _ _ _ _ h9 => h9)
    show am_G at_P at_cl at_ty _ mt_237 0 [(0, .ref 1826), (1, .int y1), (2, .int y2)] [] _ _
    refine G_ps 2 (pc' := 2) (l' := [(0, .ref 1826), (1, .int y1), (2, .int y2)]) (st' := [.int y2, .int y1]) rfl ?_
    refine G_cs (i := 559) (j := 236) (M' := mt_236) (xs := [.int y2, .int y1]) (rest := []) rfl rfl rfl rfl rfl (Nat.le_of_ble_eq_true rfl) (Nat.le_of_ble_eq_true rfl) ?_ (fun _ _ _ _ h9 => h9)
    show am_G at_P at_cl at_ty _ mt_236 0 [(0, .int y1), (1, .int y2)] [] _ _
    refine G_ps 2 (pc' := if y1 < 0 then 13 else 4) (l' := [(0, .int y1), (1, .int y2)]) (st' := []) rfl ?_
    by_cases hc2 : y1 < 0
    · rw [if_pos hc2]
      refine G_ps 2 (pc' := 18) (l' := [(0, .int y1), (1, .int y2)]) (st' := [.int 1]) rfl ?_
      refine G_ret rfl rfl rfl ?_
      show am_G at_P at_cl at_ty _ mt_237 5 [(0, .ref 1826), (1, .int y1), (2, .int y2)] [.int 1] _ _
      refine G_ps 3 (pc' := 32) (l' := [(0, .ref 1826), (1, .int y1), (2, .int y2)]) (st' := [.int (-102)]) rfl ?_
      refine G_ret rfl rfl rfl ?_
      show am_G at_P at_cl at_ty _ mt_law 589 [(4, .int 0), (3, .ref 1899), (2, .ref 1826), (1, .ref 1), (0, .ref 0)] [.int (-102), .int (-102)] _ _
      refine G_ps 5 (pc' := 26) (l' := [(4, .int 6), (3, .ref 1899), (2, .ref 1826), (1, .ref 1), (0, .ref 0)]) (st' := [.ref 0, .int 6]) rfl ?_
      refine G_alen rfl g0_0 ?_
      show am_G at_P at_cl at_ty _ mt_law 27 [(4, .int 6), (3, .ref 1899), (2, .ref 1826), (1, .ref 1), (0, .ref 0)] [.int 6, .int 6] _ _
      refine G_ps 4 (pc' := 1004) (l' := [(4, .int 6), (3, .ref 1899), (2, .ref 1826), (1, .ref 1), (0, .ref 0)]) (st' := [.int 1]) rfl ?_
      refine G_ret rfl rfl rfl ?_
      exact ⟨rfl, by simp, by simp⟩
    · rw [if_neg hc2]
      exfalso
      simp only [Int32.lt_iff_toInt_lt, Int32.le_iff_toInt_le, show (0 : Int32).toInt = 0 by decide] at hc1 hc2
      omega
  · rw [if_neg hc1]
    refine G_ps 3 (pc' := if 1 < y1 then 13 else 9) (l' := [(0, .ref 1), (1, .int y1), (2, .int y2)]) (st' := []) rfl ?_
    by_cases hc3 : 1 < y1
    · rw [if_pos hc3]
      refine G_ps 1 (pc' := 15) (l' := [(0, .ref 1), (1, .int y1), (2, .int y2)]) (st' := [.int (-102)]) rfl ?_
      refine G_ret rfl rfl rfl ?_
      show am_G at_P at_cl at_ty _ mt_12 6 [(0, .ref 1), (1, .int y1), (2, .int y2)] [.int (-102)] _ _
      refine G_ps 5 (pc' := 32) (l' := [(3, .int (-102)), (0, .ref 1), (1, .int y1), (2, .int y2)]) (st' := [.int (-102)]) rfl ?_
      refine G_ret rfl rfl rfl ?_
      show am_G at_P at_cl at_ty _ mt_law 573 [(4, .int 0), (3, .ref 1899), (2, .ref 1826), (1, .ref 1), (0, .ref 0)] [.int (-102)] _ _
      refine G_ps 5 (pc' := 579) (l' := [(4, .int 0), (3, .ref 1899), (2, .ref 1826), (1, .ref 1), (0, .ref 0)]) (st' := [.int 1, .ref 0, .ref 1826, .int (-102)]) rfl ?_
      refine G_ild (i := 1) rfl g0_0 (by decide) ?_
      show am_G at_P at_cl at_ty _ mt_law 580 [(4, .int 0), (3, .ref 1899), (2, .ref 1826), (1, .ref 1), (0, .ref 0)] [.int y1, .ref 1826, .int (-102)] _ _
      refine G_ps 4 (pc' := 585) (l' := [(4, .int 0), (3, .ref 1899), (2, .ref 1826), (1, .ref 1), (0, .ref 0)]) (st' := [.int 2, .ref 0, .int y1, .ref 1826, .int (-102)]) rfl ?_
      refine G_ild (i := 2) rfl g0_0 (by decide) ?_
      show am_G at_P at_cl at_ty _ mt_law 586 [(4, .int 0), (3, .ref 1899), (2, .ref 1826), (1, .ref 1), (0, .ref 0)] [.int y2, .int y1, .ref 1826, .int (-102)] _ _
      refine G_cv (i := 82) (j := 237) (b := 1826) (M' := mt_237) (xs := [.int y2, .int y1]) (rest := [.int (-102)]) rfl rfl rfl rfl g0_1826 (Nat.le_of_ble_eq_true rfl) (Nat.le_of_ble_eq_true rfl) ?_ (fun _ _ _ _ h9 => h9)
      show am_G at_P at_cl at_ty _ mt_237 0 [(0, .ref 1826), (1, .int y1), (2, .int y2)] [] _ _
      refine G_ps 2 (pc' := 2) (l' := [(0, .ref 1826), (1, .int y1), (2, .int y2)]) (st' := [.int y2, .int y1]) rfl ?_
      refine G_cs (i := 559) (j := 236) (M' := mt_236) (xs := [.int y2, .int y1]) (rest := []) rfl rfl rfl rfl rfl (Nat.le_of_ble_eq_true rfl) (Nat.le_of_ble_eq_true rfl) ?_ (fun _ _ _ _ h9 => h9)
      show am_G at_P at_cl at_ty _ mt_236 0 [(0, .int y1), (1, .int y2)] [] _ _
      refine G_ps 2 (pc' := if y1 < 0 then 13 else 4) (l' := [(0, .int y1), (1, .int y2)]) (st' := []) rfl ?_
      by_cases hc4 : y1 < 0
      · rw [if_pos hc4]
        exfalso
        simp only [Int32.lt_iff_toInt_lt, Int32.le_iff_toInt_le, show (0 : Int32).toInt = 0 by decide, show (1 : Int32).toInt = 1 by decide] at hc1 hc3 hc4
        omega
      · rw [if_neg hc4]
        refine G_ps 3 (pc' := if 1 < y1 then 13 else 9) (l' := [(0, .int y1), (1, .int y2)]) (st' := []) rfl ?_
        by_cases hc5 : 1 < y1
        · rw [if_pos hc5]
          refine G_ps 2 (pc' := 18) (l' := [(0, .int y1), (1, .int y2)]) (st' := [.int 1]) rfl ?_
          refine G_ret rfl rfl rfl ?_
          show am_G at_P at_cl at_ty _ mt_237 5 [(0, .ref 1826), (1, .int y1), (2, .int y2)] [.int 1] _ _
          refine G_ps 3 (pc' := 32) (l' := [(0, .ref 1826), (1, .int y1), (2, .int y2)]) (st' := [.int (-102)]) rfl ?_
          refine G_ret rfl rfl rfl ?_
          show am_G at_P at_cl at_ty _ mt_law 589 [(4, .int 0), (3, .ref 1899), (2, .ref 1826), (1, .ref 1), (0, .ref 0)] [.int (-102), .int (-102)] _ _
          refine G_ps 5 (pc' := 26) (l' := [(4, .int 6), (3, .ref 1899), (2, .ref 1826), (1, .ref 1), (0, .ref 0)]) (st' := [.ref 0, .int 6]) rfl ?_
          refine G_alen rfl g0_0 ?_
          show am_G at_P at_cl at_ty _ mt_law 27 [(4, .int 6), (3, .ref 1899), (2, .ref 1826), (1, .ref 1), (0, .ref 0)] [.int 6, .int 6] _ _
          refine G_ps 4 (pc' := 1004) (l' := [(4, .int 6), (3, .ref 1899), (2, .ref 1826), (1, .ref 1), (0, .ref 0)]) (st' := [.int 1]) rfl ?_
          refine G_ret rfl rfl rfl ?_
          exact ⟨rfl, by simp, by simp⟩
        · rw [if_neg hc5]
          exfalso
          simp only [Int32.lt_iff_toInt_lt, Int32.le_iff_toInt_le, show (0 : Int32).toInt = 0 by decide, show (1 : Int32).toInt = 1 by decide] at hc1 hc3 hc4 hc5
          omega
    · rw [if_neg hc3]
      refine G_ps 2 (pc' := if 0 ≤ y2 then 16 else 13) (l' := [(0, .ref 1), (1, .int y1), (2, .int y2)]) (st' := []) rfl ?_
      by_cases hc6 : 0 ≤ y2
      · rw [if_pos hc6]
        refine G_ps 1 (pc' := 17) (l' := [(0, .ref 1), (1, .int y1), (2, .int y2)]) (st' := [.ref 1]) rfl ?_
        refine G_get (i := 60) (ci := 0) (k := 6) (v := .ref 406) rfl rfl g0_1 rfl ?_
        show am_G at_P at_cl at_ty _ mt_24 20 [(0, .ref 1), (1, .int y1), (2, .int y2)] [.ref 406] _ _
        refine G_get (i := 96) (ci := 10) (k := 2) (v := .ref 407) rfl rfl g0_406 rfl ?_
        show am_G at_P at_cl at_ty _ mt_24 23 [(0, .ref 1), (1, .int y1), (2, .int y2)] [.ref 407] _ _
        refine G_get (i := 129) (ci := 11) (k := 2) (v := .int 0) rfl rfl g0_407 rfl ?_
        show am_G at_P at_cl at_ty _ mt_24 26 [(0, .ref 1), (1, .int y1), (2, .int y2)] [.int 0] _ _
        refine G_ps 2 (pc' := 35) (l' := [(0, .ref 1), (1, .int y1), (2, .int y2)]) (st' := [.int (-103)]) rfl ?_
        refine G_ret rfl rfl rfl ?_
        show am_G at_P at_cl at_ty _ mt_12 6 [(0, .ref 1), (1, .int y1), (2, .int y2)] [.int (-103)] _ _
        refine G_ps 5 (pc' := 32) (l' := [(3, .int (-103)), (0, .ref 1), (1, .int y1), (2, .int y2)]) (st' := [.int (-103)]) rfl ?_
        refine G_ret rfl rfl rfl ?_
        show am_G at_P at_cl at_ty _ mt_law 573 [(4, .int 0), (3, .ref 1899), (2, .ref 1826), (1, .ref 1), (0, .ref 0)] [.int (-103)] _ _
        refine G_ps 5 (pc' := 579) (l' := [(4, .int 0), (3, .ref 1899), (2, .ref 1826), (1, .ref 1), (0, .ref 0)]) (st' := [.int 1, .ref 0, .ref 1826, .int (-103)]) rfl ?_
        refine G_ild (i := 1) rfl g0_0 (by decide) ?_
        show am_G at_P at_cl at_ty _ mt_law 580 [(4, .int 0), (3, .ref 1899), (2, .ref 1826), (1, .ref 1), (0, .ref 0)] [.int y1, .ref 1826, .int (-103)] _ _
        refine G_ps 4 (pc' := 585) (l' := [(4, .int 0), (3, .ref 1899), (2, .ref 1826), (1, .ref 1), (0, .ref 0)]) (st' := [.int 2, .ref 0, .int y1, .ref 1826, .int (-103)]) rfl ?_
        refine G_ild (i := 2) rfl g0_0 (by decide) ?_
        show am_G at_P at_cl at_ty _ mt_law 586 [(4, .int 0), (3, .ref 1899), (2, .ref 1826), (1, .ref 1), (0, .ref 0)] [.int y2, .int y1, .ref 1826, .int (-103)] _ _
        refine G_cv (i := 82) (j := 237) (b := 1826) (M' := mt_237) (xs := [.int y2, .int y1]) (rest := [.int (-103)]) rfl rfl rfl rfl g0_1826 (Nat.le_of_ble_eq_true rfl) (Nat.le_of_ble_eq_true rfl) ?_ (fun _ _ _ _ h9 => h9)
        show am_G at_P at_cl at_ty _ mt_237 0 [(0, .ref 1826), (1, .int y1), (2, .int y2)] [] _ _
        refine G_ps 2 (pc' := 2) (l' := [(0, .ref 1826), (1, .int y1), (2, .int y2)]) (st' := [.int y2, .int y1]) rfl ?_
        refine G_cs (i := 559) (j := 236) (M' := mt_236) (xs := [.int y2, .int y1]) (rest := []) rfl rfl rfl rfl rfl (Nat.le_of_ble_eq_true rfl) (Nat.le_of_ble_eq_true rfl) ?_ (fun _ _ _ _ h9 => h9)
        show am_G at_P at_cl at_ty _ mt_236 0 [(0, .int y1), (1, .int y2)] [] _ _
        refine G_ps 2 (pc' := if y1 < 0 then 13 else 4) (l' := [(0, .int y1), (1, .int y2)]) (st' := []) rfl ?_
        by_cases hc7 : y1 < 0
        · rw [if_pos hc7]
          exfalso
          simp only [Int32.lt_iff_toInt_lt, Int32.le_iff_toInt_le, show (0 : Int32).toInt = 0 by decide, show (1 : Int32).toInt = 1 by decide] at hc1 hc3 hc6 hc7
          omega
        · rw [if_neg hc7]
          refine G_ps 3 (pc' := if 1 < y1 then 13 else 9) (l' := [(0, .int y1), (1, .int y2)]) (st' := []) rfl ?_
          by_cases hc8 : 1 < y1
          · rw [if_pos hc8]
            exfalso
            simp only [Int32.lt_iff_toInt_lt, Int32.le_iff_toInt_le, show (0 : Int32).toInt = 0 by decide, show (1 : Int32).toInt = 1 by decide] at hc1 hc3 hc6 hc7 hc8
            omega
          · rw [if_neg hc8]
            refine G_ps 2 (pc' := if 0 ≤ y2 then 17 else 13) (l' := [(0, .int y1), (1, .int y2)]) (st' := []) rfl ?_
            by_cases hc9 : 0 ≤ y2
            · rw [if_pos hc9]
              refine G_ps 1 (pc' := 18) (l' := [(0, .int y1), (1, .int y2)]) (st' := [.int 0]) rfl ?_
              refine G_ret rfl rfl rfl ?_
              show am_G at_P at_cl at_ty _ mt_237 5 [(0, .ref 1826), (1, .int y1), (2, .int y2)] [.int 0] _ _
              refine G_ps 2 (pc' := 14) (l' := [(0, .ref 1826), (1, .int y1), (2, .int y2)]) (st' := [.ref 1826]) rfl ?_
              refine G_cv (i := 563) (j := 235) (b := 1826) (M' := mt_235) (xs := []) (rest := []) rfl rfl rfl rfl g0_1826 (Nat.le_of_ble_eq_true rfl) (Nat.le_of_ble_eq_true rfl) ?_ (fun _ _ _ _ h9 => h9)
              show am_G at_P at_cl at_ty _ mt_235 0 [(0, .ref 1826)] [] _ _
              refine G_ps 1 (pc' := 1) (l' := [(0, .ref 1826)]) (st' := [.ref 1826]) rfl ?_
              refine G_get (i := 414) (ci := 13) (k := 77) (v := .int 0) rfl rfl g0_1826 rfl ?_
              show am_G at_P at_cl at_ty _ mt_235 4 [(0, .ref 1826)] [.int 0] _ _
              refine G_ps 3 (pc' := 12) (l' := [(0, .ref 1826)]) (st' := [.int 1]) rfl ?_
              refine G_ret rfl rfl rfl ?_
              show am_G at_P at_cl at_ty _ mt_237 17 [(0, .ref 1826), (1, .int y1), (2, .int y2)] [.int 1] _ _
              refine G_ps 3 (pc' := 32) (l' := [(0, .ref 1826), (1, .int y1), (2, .int y2)]) (st' := [.int (-103)]) rfl ?_
              refine G_ret rfl rfl rfl ?_
              show am_G at_P at_cl at_ty _ mt_law 589 [(4, .int 0), (3, .ref 1899), (2, .ref 1826), (1, .ref 1), (0, .ref 0)] [.int (-103), .int (-103)] _ _
              refine G_ps 5 (pc' := 26) (l' := [(4, .int 6), (3, .ref 1899), (2, .ref 1826), (1, .ref 1), (0, .ref 0)]) (st' := [.ref 0, .int 6]) rfl ?_
              refine G_alen rfl g0_0 ?_
              show am_G at_P at_cl at_ty _ mt_law 27 [(4, .int 6), (3, .ref 1899), (2, .ref 1826), (1, .ref 1), (0, .ref 0)] [.int 6, .int 6] _ _
              refine G_ps 4 (pc' := 1004) (l' := [(4, .int 6), (3, .ref 1899), (2, .ref 1826), (1, .ref 1), (0, .ref 0)]) (st' := [.int 1]) rfl ?_
              refine G_ret rfl rfl rfl ?_
              exact ⟨rfl, by simp, by simp⟩
            · rw [if_neg hc9]
              exfalso
              simp only [Int32.lt_iff_toInt_lt, Int32.le_iff_toInt_le, show (0 : Int32).toInt = 0 by decide, show (1 : Int32).toInt = 1 by decide] at hc1 hc3 hc6 hc7 hc8 hc9
              omega
      · rw [if_neg hc6]
        refine G_ps 1 (pc' := 15) (l' := [(0, .ref 1), (1, .int y1), (2, .int y2)]) (st' := [.int (-102)]) rfl ?_
        refine G_ret rfl rfl rfl ?_
        show am_G at_P at_cl at_ty _ mt_12 6 [(0, .ref 1), (1, .int y1), (2, .int y2)] [.int (-102)] _ _
        refine G_ps 5 (pc' := 32) (l' := [(3, .int (-102)), (0, .ref 1), (1, .int y1), (2, .int y2)]) (st' := [.int (-102)]) rfl ?_
        refine G_ret rfl rfl rfl ?_
        show am_G at_P at_cl at_ty _ mt_law 573 [(4, .int 0), (3, .ref 1899), (2, .ref 1826), (1, .ref 1), (0, .ref 0)] [.int (-102)] _ _
        refine G_ps 5 (pc' := 579) (l' := [(4, .int 0), (3, .ref 1899), (2, .ref 1826), (1, .ref 1), (0, .ref 0)]) (st' := [.int 1, .ref 0, .ref 1826, .int (-102)]) rfl ?_
        refine G_ild (i := 1) rfl g0_0 (by decide) ?_
        show am_G at_P at_cl at_ty _ mt_law 580 [(4, .int 0), (3, .ref 1899), (2, .ref 1826), (1, .ref 1), (0, .ref 0)] [.int y1, .ref 1826, .int (-102)] _ _
        refine G_ps 4 (pc' := 585) (l' := [(4, .int 0), (3, .ref 1899), (2, .ref 1826), (1, .ref 1), (0, .ref 0)]) (st' := [.int 2, .ref 0, .int y1, .ref 1826, .int (-102)]) rfl ?_
        refine G_ild (i := 2) rfl g0_0 (by decide) ?_
        show am_G at_P at_cl at_ty _ mt_law 586 [(4, .int 0), (3, .ref 1899), (2, .ref 1826), (1, .ref 1), (0, .ref 0)] [.int y2, .int y1, .ref 1826, .int (-102)] _ _
        refine G_cv (i := 82) (j := 237) (b := 1826) (M' := mt_237) (xs := [.int y2, .int y1]) (rest := [.int (-102)]) rfl rfl rfl rfl g0_1826 (Nat.le_of_ble_eq_true rfl) (Nat.le_of_ble_eq_true rfl) ?_ (fun _ _ _ _ h9 => h9)
        show am_G at_P at_cl at_ty _ mt_237 0 [(0, .ref 1826), (1, .int y1), (2, .int y2)] [] _ _
        refine G_ps 2 (pc' := 2) (l' := [(0, .ref 1826), (1, .int y1), (2, .int y2)]) (st' := [.int y2, .int y1]) rfl ?_
        refine G_cs (i := 559) (j := 236) (M' := mt_236) (xs := [.int y2, .int y1]) (rest := []) rfl rfl rfl rfl rfl (Nat.le_of_ble_eq_true rfl) (Nat.le_of_ble_eq_true rfl) ?_ (fun _ _ _ _ h9 => h9)
        show am_G at_P at_cl at_ty _ mt_236 0 [(0, .int y1), (1, .int y2)] [] _ _
        refine G_ps 2 (pc' := if y1 < 0 then 13 else 4) (l' := [(0, .int y1), (1, .int y2)]) (st' := []) rfl ?_
        by_cases hc10 : y1 < 0
        · rw [if_pos hc10]
          exfalso
          simp only [Int32.lt_iff_toInt_lt, Int32.le_iff_toInt_le, show (0 : Int32).toInt = 0 by decide, show (1 : Int32).toInt = 1 by decide] at hc1 hc3 hc6 hc10
          omega
        · rw [if_neg hc10]
          refine G_ps 3 (pc' := if 1 < y1 then 13 else 9) (l' := [(0, .int y1), (1, .int y2)]) (st' := []) rfl ?_
          by_cases hc11 : 1 < y1
          · rw [if_pos hc11]
            exfalso
            simp only [Int32.lt_iff_toInt_lt, Int32.le_iff_toInt_le, show (0 : Int32).toInt = 0 by decide, show (1 : Int32).toInt = 1 by decide] at hc1 hc3 hc6 hc10 hc11
            omega
          · rw [if_neg hc11]
            refine G_ps 2 (pc' := if 0 ≤ y2 then 17 else 13) (l' := [(0, .int y1), (1, .int y2)]) (st' := []) rfl ?_
            by_cases hc12 : 0 ≤ y2
            · rw [if_pos hc12]
              exfalso
              simp only [Int32.lt_iff_toInt_lt, Int32.le_iff_toInt_le, show (0 : Int32).toInt = 0 by decide, show (1 : Int32).toInt = 1 by decide] at hc1 hc3 hc6 hc10 hc11 hc12
              omega
            · rw [if_neg hc12]
              refine G_ps 2 (pc' := 18) (l' := [(0, .int y1), (1, .int y2)]) (st' := [.int 1]) rfl ?_
              refine G_ret rfl rfl rfl ?_
              show am_G at_P at_cl at_ty _ mt_237 5 [(0, .ref 1826), (1, .int y1), (2, .int y2)] [.int 1] _ _
              refine G_ps 3 (pc' := 32) (l' := [(0, .ref 1826), (1, .int y1), (2, .int y2)]) (st' := [.int (-102)]) rfl ?_
              refine G_ret rfl rfl rfl ?_
              show am_G at_P at_cl at_ty _ mt_law 589 [(4, .int 0), (3, .ref 1899), (2, .ref 1826), (1, .ref 1), (0, .ref 0)] [.int (-102), .int (-102)] _ _
              refine G_ps 5 (pc' := 26) (l' := [(4, .int 6), (3, .ref 1899), (2, .ref 1826), (1, .ref 1), (0, .ref 0)]) (st' := [.ref 0, .int 6]) rfl ?_
              refine G_alen rfl g0_0 ?_
              show am_G at_P at_cl at_ty _ mt_law 27 [(4, .int 6), (3, .ref 1899), (2, .ref 1826), (1, .ref 1), (0, .ref 0)] [.int 6, .int 6] _ _
              refine G_ps 4 (pc' := 1004) (l' := [(4, .int 6), (3, .ref 1899), (2, .ref 1826), (1, .ref 1), (0, .ref 0)]) (st' := [.int 1]) rfl ?_
              refine G_ret rfl rfl rfl ?_
              exact ⟨rfl, by simp, by simp⟩
set_option maxRecDepth 100000 in
set_option maxHeartbeats 4000000 in
theorem lc_12 (S : am_S) (y0 y1 y2 y3 y4 y5 : Int32) (g0_0 : am_nth S 0 = some (6, some (.inl (.int, 6, .int 0, [(0, .int y0), (1, .int y1), (2, .int y2), (3, .int y3), (4, .int y4), (5, .int y5)])))) (g0_1 : am_nth S 1 = some (9, some (.inr (0, [.ref 2, .ref 7, .ref 361, .ref 363, .ref 366, .ref 372, .ref 406, .ref 1824, .int 0])))) (g0_7 : am_nth S 7 = some (7, some (.inr (2, [.ref 8, .ref 13, .ref 18, .ref 23, .ref 24, .int 0, .int 0])))) (g0_1826 : am_nth S 1826 = some (115, some (.inr (13, [.int 0, .int 0, .ref 1827, .int 0, .ref 1828, .ref 1829, .ref 1830, .ref 1831, .int 0, .ref 1832, .ref 1833, .ref 1834, .ref 1835, .int 0, .ref 1836, .ref 1837, .ref 1838, .ref 1839, .ref 1840, .int 0, .ref 1841, .ref 1842, .ref 1843, .ref 1844, .ref 1845, .ref 1846, .ref 1847, .ref 1848, .int 0, .int 0, .int 0, .int 0, .int 0, .long 0, .int 0, .int 0, .int 0, .ref 1849, .ref 1850, .int 0, .int 0, .int 0, .ref 1851, .int 0, .int 0, .ref 1852, .ref 1853, .int 0, .ref 1854, .ref 1855, .int 0, .int 0, .ref 1856, .int 0, .ref 1857, .int 0, .int 0, .int 0, .ref 1858, .int 0, .ref 1859, .ref 1860, .ref 1861, .ref 1862, .ref 1863, .ref 1864, .ref 1865, .int (-1), .ref 1866, .ref 1867, .ref 1868, .ref 1869, .int 0, .ref 1870, .int (-1), .int 0, .int 0, .int 0, .ref 1871, .ref 1872, .ref 1873, .ref 1874, .ref 1875, .ref 1876, .ref 1877, .ref 1878, .ref 1879, .ref 1880, .ref 1881, .int 0, .ref 1882, .ref 1883, .ref 1884, .int 0, .ref 1885, .int 0, .ref 1886, .int (-1), .ref 1887, .int 0, .ref 1888, .int 0, .ref 1889, .ref 1890, .ref 1891, .ref 1892, .ref 1893, .ref 1894, .ref 1895, .ref 1896, .ref 1897, .ref 1898, .int 0, .int 0, .int 0])))) : am_G at_P at_cl at_ty 12 mt_law 594 [(4, .int 0), (3, .ref 1899), (2, .ref 1826), (1, .ref 1), (0, .ref 0)] [] S (fun r _ c n => r = some (.int 1) ∧ c = 0 ∧ n = 0) := by
  have hs0 : am_same [] S S := am_same_rf _ _
  refine G_ps 5 (pc' := 600) (l' := [(4, .int 0), (3, .ref 1899), (2, .ref 1826), (1, .ref 1), (0, .ref 0)]) (st' := [.int 1, .ref 0, .ref 1]) rfl ?_
  refine G_ild (i := 1) rfl g0_0 (by decide) ?_
  show am_G at_P at_cl at_ty _ mt_law 601 [(4, .int 0), (3, .ref 1899), (2, .ref 1826), (1, .ref 1), (0, .ref 0)] [.int y1, .ref 1] _ _
  refine G_ps 4 (pc' := 606) (l' := [(4, .int 0), (3, .ref 1899), (2, .ref 1826), (1, .ref 1), (0, .ref 0)]) (st' := [.int 2, .ref 0, .int y1, .ref 1]) rfl ?_
  refine G_ild (i := 2) rfl g0_0 (by decide) ?_
  show am_G at_P at_cl at_ty _ mt_law 607 [(4, .int 0), (3, .ref 1899), (2, .ref 1826), (1, .ref 1), (0, .ref 0)] [.int y2, .int y1, .ref 1] _ _
  refine G_ps 1 (pc' := if y2 = 0 then 614 else 610) (l' := [(4, .int 0), (3, .ref 1899), (2, .ref 1826), (1, .ref 1), (0, .ref 0)]) (st' := [.int y1, .ref 1]) rfl ?_
  by_cases hc1 : y2 = 0
  · rw [if_pos hc1]
    refine G_ps 5 (pc' := 620) (l' := [(4, .int 0), (3, .ref 1899), (2, .ref 1826), (1, .ref 1), (0, .ref 0)]) (st' := [.int 3, .ref 0, .int 0, .int y1, .ref 1]) rfl ?_
    refine G_ild (i := 3) rfl g0_0 (by decide) ?_
    show am_G at_P at_cl at_ty _ mt_law 621 [(4, .int 0), (3, .ref 1899), (2, .ref 1826), (1, .ref 1), (0, .ref 0)] [.int y3, .int 0, .int y1, .ref 1] _ _
    refine G_ps 4 (pc' := 626) (l' := [(4, .int 0), (3, .ref 1899), (2, .ref 1826), (1, .ref 1), (0, .ref 0)]) (st' := [.int 4, .ref 0, .int y3, .int 0, .int y1, .ref 1]) rfl ?_
    refine G_ild (i := 4) rfl g0_0 (by decide) ?_
    show am_G at_P at_cl at_ty _ mt_law 627 [(4, .int 0), (3, .ref 1899), (2, .ref 1826), (1, .ref 1), (0, .ref 0)] [.int y4, .int y3, .int 0, .int y1, .ref 1] _ _
    refine G_cv (i := 83) (j := 13) (b := 1) (M' := mt_13) (xs := [.int y4, .int y3, .int 0, .int y1]) (rest := []) rfl rfl rfl rfl g0_1 (Nat.le_of_ble_eq_true rfl) (Nat.le_of_ble_eq_true rfl) ?_ (fun _ _ _ _ h9 => h9)
    show am_G at_P at_cl at_ty _ mt_13 0 [(0, .ref 1), (1, .int y1), (2, .int 0), (3, .int y3), (4, .int y4)] [] _ _
    refine G_ps 1 (pc' := 1) (l' := [(0, .ref 1), (1, .int y1), (2, .int 0), (3, .int y3), (4, .int y4)]) (st' := [.ref 1]) rfl ?_
    refine G_get (i := 19) (ci := 0) (k := 1) (v := .ref 7) rfl rfl g0_1 rfl ?_
    show am_G at_P at_cl at_ty _ mt_13 4 [(0, .ref 1), (1, .int y1), (2, .int 0), (3, .int y3), (4, .int y4)] [.ref 7] _ _
    refine G_ps 1 (pc' := 5) (l' := [(0, .ref 1), (1, .int y1), (2, .int 0), (3, .int y3), (4, .int y4)]) (st' := [.int y1, .ref 7]) rfl ?_
    refine G_cv (i := 144) (j := 35) (b := 7) (M' := mt_35) (xs := [.int y1]) (rest := []) rfl rfl rfl rfl g0_7 (Nat.le_of_ble_eq_true rfl) (Nat.le_of_ble_eq_true rfl) ?_ (fun _ _ _ _ h9 => h9)
    show am_G at_P at_cl at_ty _ mt_35 0 [(0, .ref 7), (1, .int y1)] [] _ _
    refine G_ps 2 (pc' := if y1 < 0 then 25 else 4) (l' := [(0, .ref 7), (1, .int y1)]) (st' := []) rfl ?_
    by_cases hc2 : y1 < 0
    · rw [if_pos hc2]
      refine G_ps 1 (pc' := 26) (l' := [(0, .ref 7), (1, .int y1)]) (st' := [.int 0]) rfl ?_
      refine G_ret rfl rfl rfl ?_
      show am_G at_P at_cl at_ty _ mt_13 8 [(0, .ref 1), (1, .int y1), (2, .int 0), (3, .int y3), (4, .int y4)] [.int 0] _ _
      refine G_ps 2 (pc' := 13) (l' := [(0, .ref 1), (1, .int y1), (2, .int 0), (3, .int y3), (4, .int y4)]) (st' := [.int (-101)]) rfl ?_
      refine G_ret rfl rfl rfl ?_
      show am_G at_P at_cl at_ty _ mt_law 630 [(4, .int 0), (3, .ref 1899), (2, .ref 1826), (1, .ref 1), (0, .ref 0)] [.int (-101)] _ _
      refine G_ps 5 (pc' := 636) (l' := [(4, .int 0), (3, .ref 1899), (2, .ref 1826), (1, .ref 1), (0, .ref 0)]) (st' := [.int 1, .ref 0, .ref 1826, .int (-101)]) rfl ?_
      refine G_ild (i := 1) rfl g0_0 (by decide) ?_
      show am_G at_P at_cl at_ty _ mt_law 637 [(4, .int 0), (3, .ref 1899), (2, .ref 1826), (1, .ref 1), (0, .ref 0)] [.int y1, .ref 1826, .int (-101)] _ _
      refine G_ps 4 (pc' := 642) (l' := [(4, .int 0), (3, .ref 1899), (2, .ref 1826), (1, .ref 1), (0, .ref 0)]) (st' := [.int 2, .ref 0, .int y1, .ref 1826, .int (-101)]) rfl ?_
      refine G_ild (i := 2) rfl g0_0 (by decide) ?_
      show am_G at_P at_cl at_ty _ mt_law 643 [(4, .int 0), (3, .ref 1899), (2, .ref 1826), (1, .ref 1), (0, .ref 0)] [.int y2, .int y1, .ref 1826, .int (-101)] _ _
      refine G_ps 1 (pc' := if y2 = 0 then 650 else 646) (l' := [(4, .int 0), (3, .ref 1899), (2, .ref 1826), (1, .ref 1), (0, .ref 0)]) (st' := [.int y1, .ref 1826, .int (-101)]) rfl ?_
      by_cases hc3 : y2 = 0
      · rw [if_pos hc3]
        refine G_ps 5 (pc' := 656) (l' := [(4, .int 0), (3, .ref 1899), (2, .ref 1826), (1, .ref 1), (0, .ref 0)]) (st' := [.int 3, .ref 0, .int 0, .int y1, .ref 1826, .int (-101)]) rfl ?_
        refine G_ild (i := 3) rfl g0_0 (by decide) ?_
        show am_G at_P at_cl at_ty _ mt_law 657 [(4, .int 0), (3, .ref 1899), (2, .ref 1826), (1, .ref 1), (0, .ref 0)] [.int y3, .int 0, .int y1, .ref 1826, .int (-101)] _ _
        refine G_ps 4 (pc' := 662) (l' := [(4, .int 0), (3, .ref 1899), (2, .ref 1826), (1, .ref 1), (0, .ref 0)]) (st' := [.int 4, .ref 0, .int y3, .int 0, .int y1, .ref 1826, .int (-101)]) rfl ?_
        refine G_ild (i := 4) rfl g0_0 (by decide) ?_
        show am_G at_P at_cl at_ty _ mt_law 663 [(4, .int 0), (3, .ref 1899), (2, .ref 1826), (1, .ref 1), (0, .ref 0)] [.int y4, .int y3, .int 0, .int y1, .ref 1826, .int (-101)] _ _
        refine G_cv (i := 87) (j := 243) (b := 1826) (M' := mt_243) (xs := [.int y4, .int y3, .int 0, .int y1]) (rest := [.int (-101)]) rfl rfl rfl rfl g0_1826 (Nat.le_of_ble_eq_true rfl) (Nat.le_of_ble_eq_true rfl) ?_ (fun _ _ _ _ h9 => h9)
        show am_G at_P at_cl at_ty _ mt_243 0 [(0, .ref 1826), (1, .int y1), (2, .int 0), (3, .int y3), (4, .int y4)] [] _ _
        refine G_ps 2 (pc' := if y1 < 0 then 12 else 4) (l' := [(0, .ref 1826), (1, .int y1), (2, .int 0), (3, .int y3), (4, .int y4)]) (st' := []) rfl ?_
        by_cases hc4 : y1 < 0
        · rw [if_pos hc4]
          refine G_ps 2 (pc' := 53) (l' := [(0, .ref 1826), (1, .int y1), (2, .int 0), (3, .int y3), (4, .int y4)]) (st' := [.int (-101)]) rfl ?_
          refine G_ret rfl rfl rfl ?_
          show am_G at_P at_cl at_ty _ mt_law 666 [(4, .int 0), (3, .ref 1899), (2, .ref 1826), (1, .ref 1), (0, .ref 0)] [.int (-101), .int (-101)] _ _
          refine G_ps 5 (pc' := 26) (l' := [(4, .int 6), (3, .ref 1899), (2, .ref 1826), (1, .ref 1), (0, .ref 0)]) (st' := [.ref 0, .int 6]) rfl ?_
          refine G_alen rfl g0_0 ?_
          show am_G at_P at_cl at_ty _ mt_law 27 [(4, .int 6), (3, .ref 1899), (2, .ref 1826), (1, .ref 1), (0, .ref 0)] [.int 6, .int 6] _ _
          refine G_ps 4 (pc' := 1004) (l' := [(4, .int 6), (3, .ref 1899), (2, .ref 1826), (1, .ref 1), (0, .ref 0)]) (st' := [.int 1]) rfl ?_
          refine G_ret rfl rfl rfl ?_
          exact ⟨rfl, by simp, by simp⟩
        · rw [if_neg hc4]
          exfalso
          simp only [Int32.lt_iff_toInt_lt, Int32.le_iff_toInt_le, show (0 : Int32).toInt = 0 by decide] at hc2 hc4
          omega
      · rw [if_neg hc3]
        refine G_ps 6 (pc' := 656) (l' := [(4, .int 0), (3, .ref 1899), (2, .ref 1826), (1, .ref 1), (0, .ref 0)]) (st' := [.int 3, .ref 0, .int 1, .int y1, .ref 1826, .int (-101)]) rfl ?_
        refine G_ild (i := 3) rfl g0_0 (by decide) ?_
        show am_G at_P at_cl at_ty _ mt_law 657 [(4, .int 0), (3, .ref 1899), (2, .ref 1826), (1, .ref 1), (0, .ref 0)] [.int y3, .int 1, .int y1, .ref 1826, .int (-101)] _ _
        refine G_ps 4 (pc' := 662) (l' := [(4, .int 0), (3, .ref 1899), (2, .ref 1826), (1, .ref 1), (0, .ref 0)]) (st' := [.int 4, .ref 0, .int y3, .int 1, .int y1, .ref 1826, .int (-101)]) rfl ?_
        refine G_ild (i := 4) rfl g0_0 (by decide) ?_
        show am_G at_P at_cl at_ty _ mt_law 663 [(4, .int 0), (3, .ref 1899), (2, .ref 1826), (1, .ref 1), (0, .ref 0)] [.int y4, .int y3, .int 1, .int y1, .ref 1826, .int (-101)] _ _
        refine G_cv (i := 87) (j := 243) (b := 1826) (M' := mt_243) (xs := [.int y4, .int y3, .int 1, .int y1]) (rest := [.int (-101)]) rfl rfl rfl rfl g0_1826 (Nat.le_of_ble_eq_true rfl) (Nat.le_of_ble_eq_true rfl) ?_ (fun _ _ _ _ h9 => h9)
        show am_G at_P at_cl at_ty _ mt_243 0 [(0, .ref 1826), (1, .int y1), (2, .int 1), (3, .int y3), (4, .int y4)] [] _ _
        refine G_ps 2 (pc' := if y1 < 0 then 12 else 4) (l' := [(0, .ref 1826), (1, .int y1), (2, .int 1), (3, .int y3), (4, .int y4)]) (st' := []) rfl ?_
        by_cases hc5 : y1 < 0
        · rw [if_pos hc5]
          refine G_ps 2 (pc' := 53) (l' := [(0, .ref 1826), (1, .int y1), (2, .int 1), (3, .int y3), (4, .int y4)]) (st' := [.int (-101)]) rfl ?_
          refine G_ret rfl rfl rfl ?_
          show am_G at_P at_cl at_ty _ mt_law 666 [(4, .int 0), (3, .ref 1899), (2, .ref 1826), (1, .ref 1), (0, .ref 0)] [.int (-101), .int (-101)] _ _
          refine G_ps 5 (pc' := 26) (l' := [(4, .int 6), (3, .ref 1899), (2, .ref 1826), (1, .ref 1), (0, .ref 0)]) (st' := [.ref 0, .int 6]) rfl ?_
          refine G_alen rfl g0_0 ?_
          show am_G at_P at_cl at_ty _ mt_law 27 [(4, .int 6), (3, .ref 1899), (2, .ref 1826), (1, .ref 1), (0, .ref 0)] [.int 6, .int 6] _ _
          refine G_ps 4 (pc' := 1004) (l' := [(4, .int 6), (3, .ref 1899), (2, .ref 1826), (1, .ref 1), (0, .ref 0)]) (st' := [.int 1]) rfl ?_
          refine G_ret rfl rfl rfl ?_
          exact ⟨rfl, by simp, by simp⟩
        · rw [if_neg hc5]
          exfalso
          simp only [Int32.lt_iff_toInt_lt, Int32.le_iff_toInt_le, show (0 : Int32).toInt = 0 by decide] at hc2 hc5
          omega
    · rw [if_neg hc2]
      refine G_ps 2 (pc' := 6) (l' := [(0, .ref 7), (1, .int y1)]) (st' := [.ref 7, .int y1]) rfl ?_
      refine G_get (i := 36) (ci := 2) (k := 6) (v := .int 0) rfl rfl g0_7 rfl ?_
      show am_G at_P at_cl at_ty _ mt_35 9 [(0, .ref 7), (1, .int y1)] [.int 0, .int y1] _ _
      refine G_ps 1 (pc' := if 0 ≤ y1 then 25 else 12) (l' := [(0, .ref 7), (1, .int y1)]) (st' := []) rfl ?_
      by_cases hc6 : 0 ≤ y1
      · rw [if_pos hc6]
        refine G_ps 1 (pc' := 26) (l' := [(0, .ref 7), (1, .int y1)]) (st' := [.int 0]) rfl ?_
        refine G_ret rfl rfl rfl ?_
        show am_G at_P at_cl at_ty _ mt_13 8 [(0, .ref 1), (1, .int y1), (2, .int 0), (3, .int y3), (4, .int y4)] [.int 0] _ _
        refine G_ps 2 (pc' := 13) (l' := [(0, .ref 1), (1, .int y1), (2, .int 0), (3, .int y3), (4, .int y4)]) (st' := [.int (-101)]) rfl ?_
        refine G_ret rfl rfl rfl ?_
        show am_G at_P at_cl at_ty _ mt_law 630 [(4, .int 0), (3, .ref 1899), (2, .ref 1826), (1, .ref 1), (0, .ref 0)] [.int (-101)] _ _
        refine G_ps 5 (pc' := 636) (l' := [(4, .int 0), (3, .ref 1899), (2, .ref 1826), (1, .ref 1), (0, .ref 0)]) (st' := [.int 1, .ref 0, .ref 1826, .int (-101)]) rfl ?_
        refine G_ild (i := 1) rfl g0_0 (by decide) ?_
        show am_G at_P at_cl at_ty _ mt_law 637 [(4, .int 0), (3, .ref 1899), (2, .ref 1826), (1, .ref 1), (0, .ref 0)] [.int y1, .ref 1826, .int (-101)] _ _
        refine G_ps 4 (pc' := 642) (l' := [(4, .int 0), (3, .ref 1899), (2, .ref 1826), (1, .ref 1), (0, .ref 0)]) (st' := [.int 2, .ref 0, .int y1, .ref 1826, .int (-101)]) rfl ?_
        refine G_ild (i := 2) rfl g0_0 (by decide) ?_
        show am_G at_P at_cl at_ty _ mt_law 643 [(4, .int 0), (3, .ref 1899), (2, .ref 1826), (1, .ref 1), (0, .ref 0)] [.int y2, .int y1, .ref 1826, .int (-101)] _ _
        refine G_ps 1 (pc' := if y2 = 0 then 650 else 646) (l' := [(4, .int 0), (3, .ref 1899), (2, .ref 1826), (1, .ref 1), (0, .ref 0)]) (st' := [.int y1, .ref 1826, .int (-101)]) rfl ?_
        by_cases hc7 : y2 = 0
        · rw [if_pos hc7]
          refine G_ps 5 (pc' := 656) (l' := [(4, .int 0), (3, .ref 1899), (2, .ref 1826), (1, .ref 1), (0, .ref 0)]) (st' := [.int 3, .ref 0, .int 0, .int y1, .ref 1826, .int (-101)]) rfl ?_
          refine G_ild (i := 3) rfl g0_0 (by decide) ?_
          show am_G at_P at_cl at_ty _ mt_law 657 [(4, .int 0), (3, .ref 1899), (2, .ref 1826), (1, .ref 1), (0, .ref 0)] [.int y3, .int 0, .int y1, .ref 1826, .int (-101)] _ _
          refine G_ps 4 (pc' := 662) (l' := [(4, .int 0), (3, .ref 1899), (2, .ref 1826), (1, .ref 1), (0, .ref 0)]) (st' := [.int 4, .ref 0, .int y3, .int 0, .int y1, .ref 1826, .int (-101)]) rfl ?_
          refine G_ild (i := 4) rfl g0_0 (by decide) ?_
          show am_G at_P at_cl at_ty _ mt_law 663 [(4, .int 0), (3, .ref 1899), (2, .ref 1826), (1, .ref 1), (0, .ref 0)] [.int y4, .int y3, .int 0, .int y1, .ref 1826, .int (-101)] _ _
          refine G_cv (i := 87) (j := 243) (b := 1826) (M' := mt_243) (xs := [.int y4, .int y3, .int 0, .int y1]) (rest := [.int (-101)]) rfl rfl rfl rfl g0_1826 (Nat.le_of_ble_eq_true rfl) (Nat.le_of_ble_eq_true rfl) ?_ (fun _ _ _ _ h9 => h9)
          show am_G at_P at_cl at_ty _ mt_243 0 [(0, .ref 1826), (1, .int y1), (2, .int 0), (3, .int y3), (4, .int y4)] [] _ _
          refine G_ps 2 (pc' := if y1 < 0 then 12 else 4) (l' := [(0, .ref 1826), (1, .int y1), (2, .int 0), (3, .int y3), (4, .int y4)]) (st' := []) rfl ?_
          by_cases hc8 : y1 < 0
          · rw [if_pos hc8]
            exfalso
            simp only [Int32.lt_iff_toInt_lt, Int32.le_iff_toInt_le, show (0 : Int32).toInt = 0 by decide] at hc2 hc6 hc8
            omega
          · rw [if_neg hc8]
            refine G_ps 2 (pc' := 6) (l' := [(0, .ref 1826), (1, .int y1), (2, .int 0), (3, .int y3), (4, .int y4)]) (st' := [.ref 1826, .int y1]) rfl ?_
            refine G_get (i := 387) (ci := 13) (k := 19) (v := .int 0) rfl rfl g0_1826 rfl ?_
            show am_G at_P at_cl at_ty _ mt_243 9 [(0, .ref 1826), (1, .int y1), (2, .int 0), (3, .int y3), (4, .int y4)] [.int 0, .int y1] _ _
            refine G_ps 1 (pc' := if y1 < 0 then 17 else 12) (l' := [(0, .ref 1826), (1, .int y1), (2, .int 0), (3, .int y3), (4, .int y4)]) (st' := []) rfl ?_
            by_cases hc9 : y1 < 0
            · rw [if_pos hc9]
              exfalso
              simp only [Int32.lt_iff_toInt_lt, Int32.le_iff_toInt_le, show (0 : Int32).toInt = 0 by decide] at hc2 hc6 hc8 hc9
              omega
            · rw [if_neg hc9]
              refine G_ps 2 (pc' := 53) (l' := [(0, .ref 1826), (1, .int y1), (2, .int 0), (3, .int y3), (4, .int y4)]) (st' := [.int (-101)]) rfl ?_
              refine G_ret rfl rfl rfl ?_
              show am_G at_P at_cl at_ty _ mt_law 666 [(4, .int 0), (3, .ref 1899), (2, .ref 1826), (1, .ref 1), (0, .ref 0)] [.int (-101), .int (-101)] _ _
              refine G_ps 5 (pc' := 26) (l' := [(4, .int 6), (3, .ref 1899), (2, .ref 1826), (1, .ref 1), (0, .ref 0)]) (st' := [.ref 0, .int 6]) rfl ?_
              refine G_alen rfl g0_0 ?_
              show am_G at_P at_cl at_ty _ mt_law 27 [(4, .int 6), (3, .ref 1899), (2, .ref 1826), (1, .ref 1), (0, .ref 0)] [.int 6, .int 6] _ _
              refine G_ps 4 (pc' := 1004) (l' := [(4, .int 6), (3, .ref 1899), (2, .ref 1826), (1, .ref 1), (0, .ref 0)]) (st' := [.int 1]) rfl ?_
              refine G_ret rfl rfl rfl ?_
              exact ⟨rfl, by simp, by simp⟩
        · rw [if_neg hc7]
          refine G_ps 6 (pc' := 656) (l' := [(4, .int 0), (3, .ref 1899), (2, .ref 1826), (1, .ref 1), (0, .ref 0)]) (st' := [.int 3, .ref 0, .int 1, .int y1, .ref 1826, .int (-101)]) rfl ?_
          refine G_ild (i := 3) rfl g0_0 (by decide) ?_
          show am_G at_P at_cl at_ty _ mt_law 657 [(4, .int 0), (3, .ref 1899), (2, .ref 1826), (1, .ref 1), (0, .ref 0)] [.int y3, .int 1, .int y1, .ref 1826, .int (-101)] _ _
          refine G_ps 4 (pc' := 662) (l' := [(4, .int 0), (3, .ref 1899), (2, .ref 1826), (1, .ref 1), (0, .ref 0)]) (st' := [.int 4, .ref 0, .int y3, .int 1, .int y1, .ref 1826, .int (-101)]) rfl ?_
          refine G_ild (i := 4) rfl g0_0 (by decide) ?_
          show am_G at_P at_cl at_ty _ mt_law 663 [(4, .int 0), (3, .ref 1899), (2, .ref 1826), (1, .ref 1), (0, .ref 0)] [.int y4, .int y3, .int 1, .int y1, .ref 1826, .int (-101)] _ _
          refine G_cv (i := 87) (j := 243) (b := 1826) (M' := mt_243) (xs := [.int y4, .int y3, .int 1, .int y1]) (rest := [.int (-101)]) rfl rfl rfl rfl g0_1826 (Nat.le_of_ble_eq_true rfl) (Nat.le_of_ble_eq_true rfl) ?_ (fun _ _ _ _ h9 => h9)
          show am_G at_P at_cl at_ty _ mt_243 0 [(0, .ref 1826), (1, .int y1), (2, .int 1), (3, .int y3), (4, .int y4)] [] _ _
          refine G_ps 2 (pc' := if y1 < 0 then 12 else 4) (l' := [(0, .ref 1826), (1, .int y1), (2, .int 1), (3, .int y3), (4, .int y4)]) (st' := []) rfl ?_
          by_cases hc10 : y1 < 0
          · rw [if_pos hc10]
            exfalso
            simp only [Int32.lt_iff_toInt_lt, Int32.le_iff_toInt_le, show (0 : Int32).toInt = 0 by decide] at hc2 hc6 hc10
            omega
          · rw [if_neg hc10]
            refine G_ps 2 (pc' := 6) (l' := [(0, .ref 1826), (1, .int y1), (2, .int 1), (3, .int y3), (4, .int y4)]) (st' := [.ref 1826, .int y1]) rfl ?_
            refine G_get (i := 387) (ci := 13) (k := 19) (v := .int 0) rfl rfl g0_1826 rfl ?_
            show am_G at_P at_cl at_ty _ mt_243 9 [(0, .ref 1826), (1, .int y1), (2, .int 1), (3, .int y3), (4, .int y4)] [.int 0, .int y1] _ _
            refine G_ps 1 (pc' := if y1 < 0 then 17 else 12) (l' := [(0, .ref 1826), (1, .int y1), (2, .int 1), (3, .int y3), (4, .int y4)]) (st' := []) rfl ?_
            by_cases hc11 : y1 < 0
            · rw [if_pos hc11]
              exfalso
              simp only [Int32.lt_iff_toInt_lt, Int32.le_iff_toInt_le, show (0 : Int32).toInt = 0 by decide] at hc2 hc6 hc10 hc11
              omega
            · rw [if_neg hc11]
              refine G_ps 2 (pc' := 53) (l' := [(0, .ref 1826), (1, .int y1), (2, .int 1), (3, .int y3), (4, .int y4)]) (st' := [.int (-101)]) rfl ?_
              refine G_ret rfl rfl rfl ?_
              show am_G at_P at_cl at_ty _ mt_law 666 [(4, .int 0), (3, .ref 1899), (2, .ref 1826), (1, .ref 1), (0, .ref 0)] [.int (-101), .int (-101)] _ _
              refine G_ps 5 (pc' := 26) (l' := [(4, .int 6), (3, .ref 1899), (2, .ref 1826), (1, .ref 1), (0, .ref 0)]) (st' := [.ref 0, .int 6]) rfl ?_
              refine G_alen rfl g0_0 ?_
              show am_G at_P at_cl at_ty _ mt_law 27 [(4, .int 6), (3, .ref 1899), (2, .ref 1826), (1, .ref 1), (0, .ref 0)] [.int 6, .int 6] _ _
              refine G_ps 4 (pc' := 1004) (l' := [(4, .int 6), (3, .ref 1899), (2, .ref 1826), (1, .ref 1), (0, .ref 0)]) (st' := [.int 1]) rfl ?_
              refine G_ret rfl rfl rfl ?_
              exact ⟨rfl, by simp, by simp⟩
      · rw [if_neg hc6]
        exfalso
        simp only [Int32.lt_iff_toInt_lt, Int32.le_iff_toInt_le, show (0 : Int32).toInt = 0 by decide] at hc2 hc6
        omega
  · rw [if_neg hc1]
    refine G_ps 6 (pc' := 620) (l' := [(4, .int 0), (3, .ref 1899), (2, .ref 1826), (1, .ref 1), (0, .ref 0)]) (st' := [.int 3, .ref 0, .int 1, .int y1, .ref 1]) rfl ?_
    refine G_ild (i := 3) rfl g0_0 (by decide) ?_
    show am_G at_P at_cl at_ty _ mt_law 621 [(4, .int 0), (3, .ref 1899), (2, .ref 1826), (1, .ref 1), (0, .ref 0)] [.int y3, .int 1, .int y1, .ref 1] _ _
    refine G_ps 4 (pc' := 626) (l' := [(4, .int 0), (3, .ref 1899), (2, .ref 1826), (1, .ref 1), (0, .ref 0)]) (st' := [.int 4, .ref 0, .int y3, .int 1, .int y1, .ref 1]) rfl ?_
    refine G_ild (i := 4) rfl g0_0 (by decide) ?_
    show am_G at_P at_cl at_ty _ mt_law 627 [(4, .int 0), (3, .ref 1899), (2, .ref 1826), (1, .ref 1), (0, .ref 0)] [.int y4, .int y3, .int 1, .int y1, .ref 1] _ _
    refine G_cv (i := 83) (j := 13) (b := 1) (M' := mt_13) (xs := [.int y4, .int y3, .int 1, .int y1]) (rest := []) rfl rfl rfl rfl g0_1 (Nat.le_of_ble_eq_true rfl) (Nat.le_of_ble_eq_true rfl) ?_ (fun _ _ _ _ h9 => h9)
    show am_G at_P at_cl at_ty _ mt_13 0 [(0, .ref 1), (1, .int y1), (2, .int 1), (3, .int y3), (4, .int y4)] [] _ _
    refine G_ps 1 (pc' := 1) (l' := [(0, .ref 1), (1, .int y1), (2, .int 1), (3, .int y3), (4, .int y4)]) (st' := [.ref 1]) rfl ?_
    refine G_get (i := 19) (ci := 0) (k := 1) (v := .ref 7) rfl rfl g0_1 rfl ?_
    show am_G at_P at_cl at_ty _ mt_13 4 [(0, .ref 1), (1, .int y1), (2, .int 1), (3, .int y3), (4, .int y4)] [.ref 7] _ _
    refine G_ps 1 (pc' := 5) (l' := [(0, .ref 1), (1, .int y1), (2, .int 1), (3, .int y3), (4, .int y4)]) (st' := [.int y1, .ref 7]) rfl ?_
    refine G_cv (i := 144) (j := 35) (b := 7) (M' := mt_35) (xs := [.int y1]) (rest := []) rfl rfl rfl rfl g0_7 (Nat.le_of_ble_eq_true rfl) (Nat.le_of_ble_eq_true rfl) ?_ (fun _ _ _ _ h9 => h9)
    show am_G at_P at_cl at_ty _ mt_35 0 [(0, .ref 7), (1, .int y1)] [] _ _
    refine G_ps 2 (pc' := if y1 < 0 then 25 else 4) (l' := [(0, .ref 7), (1, .int y1)]) (st' := []) rfl ?_
    by_cases hc12 : y1 < 0
    · rw [if_pos hc12]
      refine G_ps 1 (pc' := 26) (l' := [(0, .ref 7), (1, .int y1)]) (st' := [.int 0]) rfl ?_
      refine G_ret rfl rfl rfl ?_
      show am_G at_P at_cl at_ty _ mt_13 8 [(0, .ref 1), (1, .int y1), (2, .int 1), (3, .int y3), (4, .int y4)] [.int 0] _ _
      refine G_ps 2 (pc' := 13) (l' := [(0, .ref 1), (1, .int y1), (2, .int 1), (3, .int y3), (4, .int y4)]) (st' := [.int (-101)]) rfl ?_
      refine G_ret rfl rfl rfl ?_
      show am_G at_P at_cl at_ty _ mt_law 630 [(4, .int 0), (3, .ref 1899), (2, .ref 1826), (1, .ref 1), (0, .ref 0)] [.int (-101)] _ _
      refine G_ps 5 (pc' := 636) (l' := [(4, .int 0), (3, .ref 1899), (2, .ref 1826), (1, .ref 1), (0, .ref 0)]) (st' := [.int 1, .ref 0, .ref 1826, .int (-101)]) rfl ?_
      refine G_ild (i := 1) rfl g0_0 (by decide) ?_
      show am_G at_P at_cl at_ty _ mt_law 637 [(4, .int 0), (3, .ref 1899), (2, .ref 1826), (1, .ref 1), (0, .ref 0)] [.int y1, .ref 1826, .int (-101)] _ _
      refine G_ps 4 (pc' := 642) (l' := [(4, .int 0), (3, .ref 1899), (2, .ref 1826), (1, .ref 1), (0, .ref 0)]) (st' := [.int 2, .ref 0, .int y1, .ref 1826, .int (-101)]) rfl ?_
      refine G_ild (i := 2) rfl g0_0 (by decide) ?_
      show am_G at_P at_cl at_ty _ mt_law 643 [(4, .int 0), (3, .ref 1899), (2, .ref 1826), (1, .ref 1), (0, .ref 0)] [.int y2, .int y1, .ref 1826, .int (-101)] _ _
      refine G_ps 1 (pc' := if y2 = 0 then 650 else 646) (l' := [(4, .int 0), (3, .ref 1899), (2, .ref 1826), (1, .ref 1), (0, .ref 0)]) (st' := [.int y1, .ref 1826, .int (-101)]) rfl ?_
      by_cases hc13 : y2 = 0
      · rw [if_pos hc13]
        refine G_ps 5 (pc' := 656) (l' := [(4, .int 0), (3, .ref 1899), (2, .ref 1826), (1, .ref 1), (0, .ref 0)]) (st' := [.int 3, .ref 0, .int 0, .int y1, .ref 1826, .int (-101)]) rfl ?_
        refine G_ild (i := 3) rfl g0_0 (by decide) ?_
        show am_G at_P at_cl at_ty _ mt_law 657 [(4, .int 0), (3, .ref 1899), (2, .ref 1826), (1, .ref 1), (0, .ref 0)] [.int y3, .int 0, .int y1, .ref 1826, .int (-101)] _ _
        refine G_ps 4 (pc' := 662) (l' := [(4, .int 0), (3, .ref 1899), (2, .ref 1826), (1, .ref 1), (0, .ref 0)]) (st' := [.int 4, .ref 0, .int y3, .int 0, .int y1, .ref 1826, .int (-101)]) rfl ?_
        refine G_ild (i := 4) rfl g0_0 (by decide) ?_
        show am_G at_P at_cl at_ty _ mt_law 663 [(4, .int 0), (3, .ref 1899), (2, .ref 1826), (1, .ref 1), (0, .ref 0)] [.int y4, .int y3, .int 0, .int y1, .ref 1826, .int (-101)] _ _
        refine G_cv (i := 87) (j := 243) (b := 1826) (M' := mt_243) (xs := [.int y4, .int y3, .int 0, .int y1]) (rest := [.int (-101)]) rfl rfl rfl rfl g0_1826 (Nat.le_of_ble_eq_true rfl) (Nat.le_of_ble_eq_true rfl) ?_ (fun _ _ _ _ h9 => h9)
        show am_G at_P at_cl at_ty _ mt_243 0 [(0, .ref 1826), (1, .int y1), (2, .int 0), (3, .int y3), (4, .int y4)] [] _ _
        refine G_ps 2 (pc' := if y1 < 0 then 12 else 4) (l' := [(0, .ref 1826), (1, .int y1), (2, .int 0), (3, .int y3), (4, .int y4)]) (st' := []) rfl ?_
        by_cases hc14 : y1 < 0
        · rw [if_pos hc14]
          refine G_ps 2 (pc' := 53) (l' := [(0, .ref 1826), (1, .int y1), (2, .int 0), (3, .int y3), (4, .int y4)]) (st' := [.int (-101)]) rfl ?_
          refine G_ret rfl rfl rfl ?_
          show am_G at_P at_cl at_ty _ mt_law 666 [(4, .int 0), (3, .ref 1899), (2, .ref 1826), (1, .ref 1), (0, .ref 0)] [.int (-101), .int (-101)] _ _
          refine G_ps 5 (pc' := 26) (l' := [(4, .int 6), (3, .ref 1899), (2, .ref 1826), (1, .ref 1), (0, .ref 0)]) (st' := [.ref 0, .int 6]) rfl ?_
          refine G_alen rfl g0_0 ?_
          show am_G at_P at_cl at_ty _ mt_law 27 [(4, .int 6), (3, .ref 1899), (2, .ref 1826), (1, .ref 1), (0, .ref 0)] [.int 6, .int 6] _ _
          refine G_ps 4 (pc' := 1004) (l' := [(4, .int 6), (3, .ref 1899), (2, .ref 1826), (1, .ref 1), (0, .ref 0)]) (st' := [.int 1]) rfl ?_
          refine G_ret rfl rfl rfl ?_
          exact ⟨rfl, by simp, by simp⟩
        · rw [if_neg hc14]
          exfalso
          simp only [Int32.lt_iff_toInt_lt, Int32.le_iff_toInt_le, show (0 : Int32).toInt = 0 by decide] at hc12 hc14
          omega
      · rw [if_neg hc13]
        refine G_ps 6 (pc' := 656) (l' := [(4, .int 0), (3, .ref 1899), (2, .ref 1826), (1, .ref 1), (0, .ref 0)]) (st' := [.int 3, .ref 0, .int 1, .int y1, .ref 1826, .int (-101)]) rfl ?_
        refine G_ild (i := 3) rfl g0_0 (by decide) ?_
        show am_G at_P at_cl at_ty _ mt_law 657 [(4, .int 0), (3, .ref 1899), (2, .ref 1826), (1, .ref 1), (0, .ref 0)] [.int y3, .int 1, .int y1, .ref 1826, .int (-101)] _ _
        refine G_ps 4 (pc' := 662) (l' := [(4, .int 0), (3, .ref 1899), (2, .ref 1826), (1, .ref 1), (0, .ref 0)]) (st' := [.int 4, .ref 0, .int y3, .int 1, .int y1, .ref 1826, .int (-101)]) rfl ?_
        refine G_ild (i := 4) rfl g0_0 (by decide) ?_
        show am_G at_P at_cl at_ty _ mt_law 663 [(4, .int 0), (3, .ref 1899), (2, .ref 1826), (1, .ref 1), (0, .ref 0)] [.int y4, .int y3, .int 1, .int y1, .ref 1826, .int (-101)] _ _
        refine G_cv (i := 87) (j := 243) (b := 1826) (M' := mt_243) (xs := [.int y4, .int y3, .int 1, .int y1]) (rest := [.int (-101)]) rfl rfl rfl rfl g0_1826 (Nat.le_of_ble_eq_true rfl) (Nat.le_of_ble_eq_true rfl) ?_ (fun _ _ _ _ h9 => h9)
        show am_G at_P at_cl at_ty _ mt_243 0 [(0, .ref 1826), (1, .int y1), (2, .int 1), (3, .int y3), (4, .int y4)] [] _ _
        refine G_ps 2 (pc' := if y1 < 0 then 12 else 4) (l' := [(0, .ref 1826), (1, .int y1), (2, .int 1), (3, .int y3), (4, .int y4)]) (st' := []) rfl ?_
        by_cases hc15 : y1 < 0
        · rw [if_pos hc15]
          refine G_ps 2 (pc' := 53) (l' := [(0, .ref 1826), (1, .int y1), (2, .int 1), (3, .int y3), (4, .int y4)]) (st' := [.int (-101)]) rfl ?_
          refine G_ret rfl rfl rfl ?_
          show am_G at_P at_cl at_ty _ mt_law 666 [(4, .int 0), (3, .ref 1899), (2, .ref 1826), (1, .ref 1), (0, .ref 0)] [.int (-101), .int (-101)] _ _
          refine G_ps 5 (pc' := 26) (l' := [(4, .int 6), (3, .ref 1899), (2, .ref 1826), (1, .ref 1), (0, .ref 0)]) (st' := [.ref 0, .int 6]) rfl ?_
          refine G_alen rfl g0_0 ?_
          show am_G at_P at_cl at_ty _ mt_law 27 [(4, .int 6), (3, .ref 1899), (2, .ref 1826), (1, .ref 1), (0, .ref 0)] [.int 6, .int 6] _ _
          refine G_ps 4 (pc' := 1004) (l' := [(4, .int 6), (3, .ref 1899), (2, .ref 1826), (1, .ref 1), (0, .ref 0)]) (st' := [.int 1]) rfl ?_
          refine G_ret rfl rfl rfl ?_
          exact ⟨rfl, by simp, by simp⟩
        · rw [if_neg hc15]
          exfalso
          simp only [Int32.lt_iff_toInt_lt, Int32.le_iff_toInt_le, show (0 : Int32).toInt = 0 by decide] at hc12 hc15
          omega
    · rw [if_neg hc12]
      refine G_ps 2 (pc' := 6) (l' := [(0, .ref 7), (1, .int y1)]) (st' := [.ref 7, .int y1]) rfl ?_
      refine G_get (i := 36) (ci := 2) (k := 6) (v := .int 0) rfl rfl g0_7 rfl ?_
      show am_G at_P at_cl at_ty _ mt_35 9 [(0, .ref 7), (1, .int y1)] [.int 0, .int y1] _ _
      refine G_ps 1 (pc' := if 0 ≤ y1 then 25 else 12) (l' := [(0, .ref 7), (1, .int y1)]) (st' := []) rfl ?_
      by_cases hc16 : 0 ≤ y1
      · rw [if_pos hc16]
        refine G_ps 1 (pc' := 26) (l' := [(0, .ref 7), (1, .int y1)]) (st' := [.int 0]) rfl ?_
        refine G_ret rfl rfl rfl ?_
        show am_G at_P at_cl at_ty _ mt_13 8 [(0, .ref 1), (1, .int y1), (2, .int 1), (3, .int y3), (4, .int y4)] [.int 0] _ _
        refine G_ps 2 (pc' := 13) (l' := [(0, .ref 1), (1, .int y1), (2, .int 1), (3, .int y3), (4, .int y4)]) (st' := [.int (-101)]) rfl ?_
        refine G_ret rfl rfl rfl ?_
        show am_G at_P at_cl at_ty _ mt_law 630 [(4, .int 0), (3, .ref 1899), (2, .ref 1826), (1, .ref 1), (0, .ref 0)] [.int (-101)] _ _
        refine G_ps 5 (pc' := 636) (l' := [(4, .int 0), (3, .ref 1899), (2, .ref 1826), (1, .ref 1), (0, .ref 0)]) (st' := [.int 1, .ref 0, .ref 1826, .int (-101)]) rfl ?_
        refine G_ild (i := 1) rfl g0_0 (by decide) ?_
        show am_G at_P at_cl at_ty _ mt_law 637 [(4, .int 0), (3, .ref 1899), (2, .ref 1826), (1, .ref 1), (0, .ref 0)] [.int y1, .ref 1826, .int (-101)] _ _
        refine G_ps 4 (pc' := 642) (l' := [(4, .int 0), (3, .ref 1899), (2, .ref 1826), (1, .ref 1), (0, .ref 0)]) (st' := [.int 2, .ref 0, .int y1, .ref 1826, .int (-101)]) rfl ?_
        refine G_ild (i := 2) rfl g0_0 (by decide) ?_
        show am_G at_P at_cl at_ty _ mt_law 643 [(4, .int 0), (3, .ref 1899), (2, .ref 1826), (1, .ref 1), (0, .ref 0)] [.int y2, .int y1, .ref 1826, .int (-101)] _ _
        refine G_ps 1 (pc' := if y2 = 0 then 650 else 646) (l' := [(4, .int 0), (3, .ref 1899), (2, .ref 1826), (1, .ref 1), (0, .ref 0)]) (st' := [.int y1, .ref 1826, .int (-101)]) rfl ?_
        by_cases hc17 : y2 = 0
        · rw [if_pos hc17]
          refine G_ps 5 (pc' := 656) (l' := [(4, .int 0), (3, .ref 1899), (2, .ref 1826), (1, .ref 1), (0, .ref 0)]) (st' := [.int 3, .ref 0, .int 0, .int y1, .ref 1826, .int (-101)]) rfl ?_
          refine G_ild (i := 3) rfl g0_0 (by decide) ?_
          show am_G at_P at_cl at_ty _ mt_law 657 [(4, .int 0), (3, .ref 1899), (2, .ref 1826), (1, .ref 1), (0, .ref 0)] [.int y3, .int 0, .int y1, .ref 1826, .int (-101)] _ _
          refine G_ps 4 (pc' := 662) (l' := [(4, .int 0), (3, .ref 1899), (2, .ref 1826), (1, .ref 1), (0, .ref 0)]) (st' := [.int 4, .ref 0, .int y3, .int 0, .int y1, .ref 1826, .int (-101)]) rfl ?_
          refine G_ild (i := 4) rfl g0_0 (by decide) ?_
          show am_G at_P at_cl at_ty _ mt_law 663 [(4, .int 0), (3, .ref 1899), (2, .ref 1826), (1, .ref 1), (0, .ref 0)] [.int y4, .int y3, .int 0, .int y1, .ref 1826, .int (-101)] _ _
          refine G_cv (i := 87) (j := 243) (b := 1826) (M' := mt_243) (xs := [.int y4, .int y3, .int 0, .int y1]) (rest := [.int (-101)]) rfl rfl rfl rfl g0_1826 (Nat.le_of_ble_eq_true rfl) (Nat.le_of_ble_eq_true rfl) ?_ (fun _ _ _ _ h9 => h9)
          show am_G at_P at_cl at_ty _ mt_243 0 [(0, .ref 1826), (1, .int y1), (2, .int 0), (3, .int y3), (4, .int y4)] [] _ _
          refine G_ps 2 (pc' := if y1 < 0 then 12 else 4) (l' := [(0, .ref 1826), (1, .int y1), (2, .int 0), (3, .int y3), (4, .int y4)]) (st' := []) rfl ?_
          by_cases hc18 : y1 < 0
          · rw [if_pos hc18]
            exfalso
            simp only [Int32.lt_iff_toInt_lt, Int32.le_iff_toInt_le, show (0 : Int32).toInt = 0 by decide] at hc12 hc16 hc18
            omega
          · rw [if_neg hc18]
            refine G_ps 2 (pc' := 6) (l' := [(0, .ref 1826), (1, .int y1), (2, .int 0), (3, .int y3), (4, .int y4)]) (st' := [.ref 1826, .int y1]) rfl ?_
            refine G_get (i := 387) (ci := 13) (k := 19) (v := .int 0) rfl rfl g0_1826 rfl ?_
            show am_G at_P at_cl at_ty _ mt_243 9 [(0, .ref 1826), (1, .int y1), (2, .int 0), (3, .int y3), (4, .int y4)] [.int 0, .int y1] _ _
            refine G_ps 1 (pc' := if y1 < 0 then 17 else 12) (l' := [(0, .ref 1826), (1, .int y1), (2, .int 0), (3, .int y3), (4, .int y4)]) (st' := []) rfl ?_
            by_cases hc19 : y1 < 0
            · rw [if_pos hc19]
              exfalso
              simp only [Int32.lt_iff_toInt_lt, Int32.le_iff_toInt_le, show (0 : Int32).toInt = 0 by decide] at hc12 hc16 hc18 hc19
              omega
            · rw [if_neg hc19]
              refine G_ps 2 (pc' := 53) (l' := [(0, .ref 1826), (1, .int y1), (2, .int 0), (3, .int y3), (4, .int y4)]) (st' := [.int (-101)]) rfl ?_
              refine G_ret rfl rfl rfl ?_
              show am_G at_P at_cl at_ty _ mt_law 666 [(4, .int 0), (3, .ref 1899), (2, .ref 1826), (1, .ref 1), (0, .ref 0)] [.int (-101), .int (-101)] _ _
              refine G_ps 5 (pc' := 26) (l' := [(4, .int 6), (3, .ref 1899), (2, .ref 1826), (1, .ref 1), (0, .ref 0)]) (st' := [.ref 0, .int 6]) rfl ?_
              refine G_alen rfl g0_0 ?_
              show am_G at_P at_cl at_ty _ mt_law 27 [(4, .int 6), (3, .ref 1899), (2, .ref 1826), (1, .ref 1), (0, .ref 0)] [.int 6, .int 6] _ _
              refine G_ps 4 (pc' := 1004) (l' := [(4, .int 6), (3, .ref 1899), (2, .ref 1826), (1, .ref 1), (0, .ref 0)]) (st' := [.int 1]) rfl ?_
              refine G_ret rfl rfl rfl ?_
              exact ⟨rfl, by simp, by simp⟩
        · rw [if_neg hc17]
          refine G_ps 6 (pc' := 656) (l' := [(4, .int 0), (3, .ref 1899), (2, .ref 1826), (1, .ref 1), (0, .ref 0)]) (st' := [.int 3, .ref 0, .int 1, .int y1, .ref 1826, .int (-101)]) rfl ?_
          refine G_ild (i := 3) rfl g0_0 (by decide) ?_
          show am_G at_P at_cl at_ty _ mt_law 657 [(4, .int 0), (3, .ref 1899), (2, .ref 1826), (1, .ref 1), (0, .ref 0)] [.int y3, .int 1, .int y1, .ref 1826, .int (-101)] _ _
          refine G_ps 4 (pc' := 662) (l' := [(4, .int 0), (3, .ref 1899), (2, .ref 1826), (1, .ref 1), (0, .ref 0)]) (st' := [.int 4, .ref 0, .int y3, .int 1, .int y1, .ref 1826, .int (-101)]) rfl ?_
          refine G_ild (i := 4) rfl g0_0 (by decide) ?_
          show am_G at_P at_cl at_ty _ mt_law 663 [(4, .int 0), (3, .ref 1899), (2, .ref 1826), (1, .ref 1), (0, .ref 0)] [.int y4, .int y3, .int 1, .int y1, .ref 1826, .int (-101)] _ _
          refine G_cv (i := 87) (j := 243) (b := 1826) (M' := mt_243) (xs := [.int y4, .int y3, .int 1, .int y1]) (rest := [.int (-101)]) rfl rfl rfl rfl g0_1826 (Nat.le_of_ble_eq_true rfl) (Nat.le_of_ble_eq_true rfl) ?_ (fun _ _ _ _ h9 => h9)
          show am_G at_P at_cl at_ty _ mt_243 0 [(0, .ref 1826), (1, .int y1), (2, .int 1), (3, .int y3), (4, .int y4)] [] _ _
          refine G_ps 2 (pc' := if y1 < 0 then 12 else 4) (l' := [(0, .ref 1826), (1, .int y1), (2, .int 1), (3, .int y3), (4, .int y4)]) (st' := []) rfl ?_
          by_cases hc20 : y1 < 0
          · rw [if_pos hc20]
            exfalso
            simp only [Int32.lt_iff_toInt_lt, Int32.le_iff_toInt_le, show (0 : Int32).toInt = 0 by decide] at hc12 hc16 hc20
            omega
          · rw [if_neg hc20]
            refine G_ps 2 (pc' := 6) (l' := [(0, .ref 1826), (1, .int y1), (2, .int 1), (3, .int y3), (4, .int y4)]) (st' := [.ref 1826, .int y1]) rfl ?_
            refine G_get (i := 387) (ci := 13) (k := 19) (v := .int 0) rfl rfl g0_1826 rfl ?_
            show am_G at_P at_cl at_ty _ mt_243 9 [(0, .ref 1826), (1, .int y1), (2, .int 1), (3, .int y3), (4, .int y4)] [.int 0, .int y1] _ _
            refine G_ps 1 (pc' := if y1 < 0 then 17 else 12) (l' := [(0, .ref 1826), (1, .int y1), (2, .int 1), (3, .int y3), (4, .int y4)]) (st' := []) rfl ?_
            by_cases hc21 : y1 < 0
            · rw [if_pos hc21]
              exfalso
              simp only [Int32.lt_iff_toInt_lt, Int32.le_iff_toInt_le, show (0 : Int32).toInt = 0 by decide] at hc12 hc16 hc20 hc21
              omega
            · rw [if_neg hc21]
              refine G_ps 2 (pc' := 53) (l' := [(0, .ref 1826), (1, .int y1), (2, .int 1), (3, .int y3), (4, .int y4)]) (st' := [.int (-101)]) rfl ?_
              refine G_ret rfl rfl rfl ?_
              show am_G at_P at_cl at_ty _ mt_law 666 [(4, .int 0), (3, .ref 1899), (2, .ref 1826), (1, .ref 1), (0, .ref 0)] [.int (-101), .int (-101)] _ _
              refine G_ps 5 (pc' := 26) (l' := [(4, .int 6), (3, .ref 1899), (2, .ref 1826), (1, .ref 1), (0, .ref 0)]) (st' := [.ref 0, .int 6]) rfl ?_
              refine G_alen rfl g0_0 ?_
              show am_G at_P at_cl at_ty _ mt_law 27 [(4, .int 6), (3, .ref 1899), (2, .ref 1826), (1, .ref 1), (0, .ref 0)] [.int 6, .int 6] _ _
              refine G_ps 4 (pc' := 1004) (l' := [(4, .int 6), (3, .ref 1899), (2, .ref 1826), (1, .ref 1), (0, .ref 0)]) (st' := [.int 1]) rfl ?_
              refine G_ret rfl rfl rfl ?_
              exact ⟨rfl, by simp, by simp⟩
      · rw [if_neg hc16]
        exfalso
        simp only [Int32.lt_iff_toInt_lt, Int32.le_iff_toInt_le, show (0 : Int32).toInt = 0 by decide] at hc12 hc16
        omega
set_option maxRecDepth 100000 in
set_option maxHeartbeats 4000000 in
theorem lc_13 (S : am_S) (y0 y1 y2 y3 y4 y5 : Int32) (g0_0 : am_nth S 0 = some (6, some (.inl (.int, 6, .int 0, [(0, .int y0), (1, .int y1), (2, .int y2), (3, .int y3), (4, .int y4), (5, .int y5)])))) (g0_1 : am_nth S 1 = some (9, some (.inr (0, [.ref 2, .ref 7, .ref 361, .ref 363, .ref 366, .ref 372, .ref 406, .ref 1824, .int 0])))) (g0_406 : am_nth S 406 = some (19, some (.inr (10, [.ref 7, .ref 366, .ref 407, .ref 878, .ref 1349, .ref 1350, .ref 1350, .ref 1350, .long 0, .long 0, .ref 409, .ref 1352, .ref 1354, .int 0, .int 0, .long 0, .int 0, .int 0, .int 0])))) (g0_407 : am_nth S 407 = some (9, some (.inr (11, [.ref 408, .ref 409, .int 0, .int 0, .int 0, .int 0, .int 0, .long 0, .long 0])))) (g0_1826 : am_nth S 1826 = some (115, some (.inr (13, [.int 0, .int 0, .ref 1827, .int 0, .ref 1828, .ref 1829, .ref 1830, .ref 1831, .int 0, .ref 1832, .ref 1833, .ref 1834, .ref 1835, .int 0, .ref 1836, .ref 1837, .ref 1838, .ref 1839, .ref 1840, .int 0, .ref 1841, .ref 1842, .ref 1843, .ref 1844, .ref 1845, .ref 1846, .ref 1847, .ref 1848, .int 0, .int 0, .int 0, .int 0, .int 0, .long 0, .int 0, .int 0, .int 0, .ref 1849, .ref 1850, .int 0, .int 0, .int 0, .ref 1851, .int 0, .int 0, .ref 1852, .ref 1853, .int 0, .ref 1854, .ref 1855, .int 0, .int 0, .ref 1856, .int 0, .ref 1857, .int 0, .int 0, .int 0, .ref 1858, .int 0, .ref 1859, .ref 1860, .ref 1861, .ref 1862, .ref 1863, .ref 1864, .ref 1865, .int (-1), .ref 1866, .ref 1867, .ref 1868, .ref 1869, .int 0, .ref 1870, .int (-1), .int 0, .int 0, .int 0, .ref 1871, .ref 1872, .ref 1873, .ref 1874, .ref 1875, .ref 1876, .ref 1877, .ref 1878, .ref 1879, .ref 1880, .ref 1881, .int 0, .ref 1882, .ref 1883, .ref 1884, .int 0, .ref 1885, .int 0, .ref 1886, .int (-1), .ref 1887, .int 0, .ref 1888, .int 0, .ref 1889, .ref 1890, .ref 1891, .ref 1892, .ref 1893, .ref 1894, .ref 1895, .ref 1896, .ref 1897, .ref 1898, .int 0, .int 0, .int 0])))) : am_G at_P at_cl at_ty 12 mt_law 671 [(4, .int 0), (3, .ref 1899), (2, .ref 1826), (1, .ref 1), (0, .ref 0)] [] S (fun r _ c n => r = some (.int 1) ∧ c = 0 ∧ n = 0) := by
  have hs0 : am_same [] S S := am_same_rf _ _
  refine G_ps 5 (pc' := 677) (l' := [(4, .int 0), (3, .ref 1899), (2, .ref 1826), (1, .ref 1), (0, .ref 0)]) (st' := [.int 1, .ref 0, .ref 1]) rfl ?_
  refine G_ild (i := 1) rfl g0_0 (by decide) ?_
  show am_G at_P at_cl at_ty _ mt_law 678 [(4, .int 0), (3, .ref 1899), (2, .ref 1826), (1, .ref 1), (0, .ref 0)] [.int y1, .ref 1] _ _
  refine G_ps 4 (pc' := 683) (l' := [(4, .int 0), (3, .ref 1899), (2, .ref 1826), (1, .ref 1), (0, .ref 0)]) (st' := [.int 2, .ref 0, .int y1, .ref 1]) rfl ?_
  refine G_ild (i := 2) rfl g0_0 (by decide) ?_
  show am_G at_P at_cl at_ty _ mt_law 684 [(4, .int 0), (3, .ref 1899), (2, .ref 1826), (1, .ref 1), (0, .ref 0)] [.int y2, .int y1, .ref 1] _ _
  refine G_ps 1 (pc' := if y2 = 0 then 691 else 687) (l' := [(4, .int 0), (3, .ref 1899), (2, .ref 1826), (1, .ref 1), (0, .ref 0)]) (st' := [.int y1, .ref 1]) rfl ?_
  by_cases hc1 : y2 = 0
  · rw [if_pos hc1]
    refine G_ps 5 (pc' := 697) (l' := [(4, .int 0), (3, .ref 1899), (2, .ref 1826), (1, .ref 1), (0, .ref 0)]) (st' := [.int 3, .ref 0, .int 0, .int y1, .ref 1]) rfl ?_
    refine G_ild (i := 3) rfl g0_0 (by decide) ?_
    show am_G at_P at_cl at_ty _ mt_law 698 [(4, .int 0), (3, .ref 1899), (2, .ref 1826), (1, .ref 1), (0, .ref 0)] [.int y3, .int 0, .int y1, .ref 1] _ _
    refine G_ps 4 (pc' := 703) (l' := [(4, .int 0), (3, .ref 1899), (2, .ref 1826), (1, .ref 1), (0, .ref 0)]) (st' := [.int 4, .ref 0, .int y3, .int 0, .int y1, .ref 1]) rfl ?_
    refine G_ild (i := 4) rfl g0_0 (by decide) ?_
    show am_G at_P at_cl at_ty _ mt_law 704 [(4, .int 0), (3, .ref 1899), (2, .ref 1826), (1, .ref 1), (0, .ref 0)] [.int y4, .int y3, .int 0, .int y1, .ref 1] _ _
    refine G_cv (i := 88) (j := 14) (b := 1) (M' := mt_14) (xs := [.int y4, .int y3, .int 0, .int y1]) (rest := []) rfl rfl rfl rfl g0_1 (Nat.le_of_ble_eq_true rfl) (Nat.le_of_ble_eq_true rfl) ?_ (fun _ _ _ _ h9 => h9)
    show am_G at_P at_cl at_ty _ mt_14 0 [(0, .ref 1), (1, .int y1), (2, .int 0), (3, .int y3), (4, .int y4)] [] _ _
    refine G_ps 3 (pc' := 4) (l' := [(0, .ref 1), (1, .int y1), (2, .int 0), (3, .int y3), (4, .int y4)]) (st' := [.int y4, .int y3, .ref 1]) rfl ?_
    refine G_cv (i := 202) (j := 24) (b := 1) (M' := mt_24) (xs := [.int y4, .int y3]) (rest := []) rfl rfl rfl rfl g0_1 (Nat.le_of_ble_eq_true rfl) (Nat.le_of_ble_eq_true rfl) ?_ (fun _ _ _ _ h9 => h9)
    show am_G at_P at_cl at_ty _ mt_24 0 [(0, .ref 1), (1, .int y3), (2, .int y4)] [] _ _
    refine G_ps 2 (pc' := if y3 < 0 then 13 else 4) (l' := [(0, .ref 1), (1, .int y3), (2, .int y4)]) (st' := []) rfl ?_
    by_cases hc2 : y3 < 0
    · rw [if_pos hc2]
      refine G_ps 1 (pc' := 15) (l' := [(0, .ref 1), (1, .int y3), (2, .int y4)]) (st' := [.int (-102)]) rfl ?_
      refine G_ret rfl rfl rfl ?_
      show am_G at_P at_cl at_ty _ mt_14 7 [(0, .ref 1), (1, .int y1), (2, .int 0), (3, .int y3), (4, .int y4)] [.int (-102)] _ _
      refine G_ps 4 (pc' := 16) (l' := [(5, .int (-102)), (0, .ref 1), (1, .int y1), (2, .int 0), (3, .int y3), (4, .int y4)]) (st' := [.int (-102)]) rfl ?_
      refine G_ret rfl rfl rfl ?_
      show am_G at_P at_cl at_ty _ mt_law 707 [(4, .int 0), (3, .ref 1899), (2, .ref 1826), (1, .ref 1), (0, .ref 0)] [.int (-102)] _ _
      refine G_ps 5 (pc' := 713) (l' := [(4, .int 0), (3, .ref 1899), (2, .ref 1826), (1, .ref 1), (0, .ref 0)]) (st' := [.int 1, .ref 0, .ref 1826, .int (-102)]) rfl ?_
      refine G_ild (i := 1) rfl g0_0 (by decide) ?_
      show am_G at_P at_cl at_ty _ mt_law 714 [(4, .int 0), (3, .ref 1899), (2, .ref 1826), (1, .ref 1), (0, .ref 0)] [.int y1, .ref 1826, .int (-102)] _ _
      refine G_ps 4 (pc' := 719) (l' := [(4, .int 0), (3, .ref 1899), (2, .ref 1826), (1, .ref 1), (0, .ref 0)]) (st' := [.int 2, .ref 0, .int y1, .ref 1826, .int (-102)]) rfl ?_
      refine G_ild (i := 2) rfl g0_0 (by decide) ?_
      show am_G at_P at_cl at_ty _ mt_law 720 [(4, .int 0), (3, .ref 1899), (2, .ref 1826), (1, .ref 1), (0, .ref 0)] [.int y2, .int y1, .ref 1826, .int (-102)] _ _
      refine G_ps 1 (pc' := if y2 = 0 then 727 else 723) (l' := [(4, .int 0), (3, .ref 1899), (2, .ref 1826), (1, .ref 1), (0, .ref 0)]) (st' := [.int y1, .ref 1826, .int (-102)]) rfl ?_
      by_cases hc3 : y2 = 0
      · rw [if_pos hc3]
        refine G_ps 5 (pc' := 733) (l' := [(4, .int 0), (3, .ref 1899), (2, .ref 1826), (1, .ref 1), (0, .ref 0)]) (st' := [.int 3, .ref 0, .int 0, .int y1, .ref 1826, .int (-102)]) rfl ?_
        refine G_ild (i := 3) rfl g0_0 (by decide) ?_
        show am_G at_P at_cl at_ty _ mt_law 734 [(4, .int 0), (3, .ref 1899), (2, .ref 1826), (1, .ref 1), (0, .ref 0)] [.int y3, .int 0, .int y1, .ref 1826, .int (-102)] _ _
        refine G_ps 4 (pc' := 739) (l' := [(4, .int 0), (3, .ref 1899), (2, .ref 1826), (1, .ref 1), (0, .ref 0)]) (st' := [.int 4, .ref 0, .int y3, .int 0, .int y1, .ref 1826, .int (-102)]) rfl ?_
        refine G_ild (i := 4) rfl g0_0 (by decide) ?_
        show am_G at_P at_cl at_ty _ mt_law 740 [(4, .int 0), (3, .ref 1899), (2, .ref 1826), (1, .ref 1), (0, .ref 0)] [.int y4, .int y3, .int 0, .int y1, .ref 1826, .int (-102)] _ _
        refine G_cv (i := 91) (j := 245) (b := 1826) (M' := mt_245) (xs := [.int y4, .int y3, .int 0, .int y1]) (rest := [.int (-102)]) rfl rfl rfl rfl g0_1826 (Nat.le_of_ble_eq_true rfl) (Nat.le_of_ble_eq_true rfl) ?_ (fun _ _ _ _ h9 => h9)
        show am_G at_P at_cl at_ty _ mt_245 0 [(0, .ref 1826), (1, .int y1), (2, .int 0), (3, .int y3), (4, .int y4)] [] _ _
        refine G_ps 2 (pc' := 3) (l' := [(0, .ref 1826), (1, .int y1), (2, .int 0), (3, .int y3), (4, .int y4)]) (st' := [.int y4, .int y3]) rfl ?_
        refine G_cs (i := 559) (j := 236) (M' := mt_236) (xs := [.int y4, .int y3]) (rest := []) rfl rfl rfl rfl rfl (Nat.le_of_ble_eq_true rfl) (Nat.le_of_ble_eq_true rfl) ?_ (fun _ _ _ _ h9 => h9)
        show am_G at_P at_cl at_ty _ mt_236 0 [(0, .int y3), (1, .int y4)] [] _ _
        refine G_ps 2 (pc' := if y3 < 0 then 13 else 4) (l' := [(0, .int y3), (1, .int y4)]) (st' := []) rfl ?_
        by_cases hc4 : y3 < 0
        · rw [if_pos hc4]
          refine G_ps 2 (pc' := 18) (l' := [(0, .int y3), (1, .int y4)]) (st' := [.int 1]) rfl ?_
          refine G_ret rfl rfl rfl ?_
          show am_G at_P at_cl at_ty _ mt_245 6 [(0, .ref 1826), (1, .int y1), (2, .int 0), (3, .int y3), (4, .int y4)] [.int 1] _ _
          refine G_ps 3 (pc' := 36) (l' := [(0, .ref 1826), (1, .int y1), (2, .int 0), (3, .int y3), (4, .int y4)]) (st' := [.int (-102)]) rfl ?_
          refine G_ret rfl rfl rfl ?_
          show am_G at_P at_cl at_ty _ mt_law 743 [(4, .int 0), (3, .ref 1899), (2, .ref 1826), (1, .ref 1), (0, .ref 0)] [.int (-102), .int (-102)] _ _
          refine G_ps 5 (pc' := 26) (l' := [(4, .int 6), (3, .ref 1899), (2, .ref 1826), (1, .ref 1), (0, .ref 0)]) (st' := [.ref 0, .int 6]) rfl ?_
          refine G_alen rfl g0_0 ?_
          show am_G at_P at_cl at_ty _ mt_law 27 [(4, .int 6), (3, .ref 1899), (2, .ref 1826), (1, .ref 1), (0, .ref 0)] [.int 6, .int 6] _ _
          refine G_ps 4 (pc' := 1004) (l' := [(4, .int 6), (3, .ref 1899), (2, .ref 1826), (1, .ref 1), (0, .ref 0)]) (st' := [.int 1]) rfl ?_
          refine G_ret rfl rfl rfl ?_
          exact ⟨rfl, by simp, by simp⟩
        · rw [if_neg hc4]
          exfalso
          simp only [Int32.lt_iff_toInt_lt, Int32.le_iff_toInt_le, show (0 : Int32).toInt = 0 by decide] at hc2 hc4
          omega
      · rw [if_neg hc3]
        refine G_ps 6 (pc' := 733) (l' := [(4, .int 0), (3, .ref 1899), (2, .ref 1826), (1, .ref 1), (0, .ref 0)]) (st' := [.int 3, .ref 0, .int 1, .int y1, .ref 1826, .int (-102)]) rfl ?_
        refine G_ild (i := 3) rfl g0_0 (by decide) ?_
        show am_G at_P at_cl at_ty _ mt_law 734 [(4, .int 0), (3, .ref 1899), (2, .ref 1826), (1, .ref 1), (0, .ref 0)] [.int y3, .int 1, .int y1, .ref 1826, .int (-102)] _ _
        refine G_ps 4 (pc' := 739) (l' := [(4, .int 0), (3, .ref 1899), (2, .ref 1826), (1, .ref 1), (0, .ref 0)]) (st' := [.int 4, .ref 0, .int y3, .int 1, .int y1, .ref 1826, .int (-102)]) rfl ?_
        refine G_ild (i := 4) rfl g0_0 (by decide) ?_
        show am_G at_P at_cl at_ty _ mt_law 740 [(4, .int 0), (3, .ref 1899), (2, .ref 1826), (1, .ref 1), (0, .ref 0)] [.int y4, .int y3, .int 1, .int y1, .ref 1826, .int (-102)] _ _
        refine G_cv (i := 91) (j := 245) (b := 1826) (M' := mt_245) (xs := [.int y4, .int y3, .int 1, .int y1]) (rest := [.int (-102)]) rfl rfl rfl rfl g0_1826 (Nat.le_of_ble_eq_true rfl) (Nat.le_of_ble_eq_true rfl) ?_ (fun _ _ _ _ h9 => h9)
        show am_G at_P at_cl at_ty _ mt_245 0 [(0, .ref 1826), (1, .int y1), (2, .int 1), (3, .int y3), (4, .int y4)] [] _ _
        refine G_ps 2 (pc' := 3) (l' := [(0, .ref 1826), (1, .int y1), (2, .int 1), (3, .int y3), (4, .int y4)]) (st' := [.int y4, .int y3]) rfl ?_
        refine G_cs (i := 559) (j := 236) (M' := mt_236) (xs := [.int y4, .int y3]) (rest := []) rfl rfl rfl rfl rfl (Nat.le_of_ble_eq_true rfl) (Nat.le_of_ble_eq_true rfl) ?_ (fun _ _ _ _ h9 => h9)
        show am_G at_P at_cl at_ty _ mt_236 0 [(0, .int y3), (1, .int y4)] [] _ _
        refine G_ps 2 (pc' := if y3 < 0 then 13 else 4) (l' := [(0, .int y3), (1, .int y4)]) (st' := []) rfl ?_
        by_cases hc5 : y3 < 0
        · rw [if_pos hc5]
          refine G_ps 2 (pc' := 18) (l' := [(0, .int y3), (1, .int y4)]) (st' := [.int 1]) rfl ?_
          refine G_ret rfl rfl rfl ?_
          show am_G at_P at_cl at_ty _ mt_245 6 [(0, .ref 1826), (1, .int y1), (2, .int 1), (3, .int y3), (4, .int y4)] [.int 1] _ _
          refine G_ps 3 (pc' := 36) (l' := [(0, .ref 1826), (1, .int y1), (2, .int 1), (3, .int y3), (4, .int y4)]) (st' := [.int (-102)]) rfl ?_
          refine G_ret rfl rfl rfl ?_
          show am_G at_P at_cl at_ty _ mt_law 743 [(4, .int 0), (3, .ref 1899), (2, .ref 1826), (1, .ref 1), (0, .ref 0)] [.int (-102), .int (-102)] _ _
          refine G_ps 5 (pc' := 26) (l' := [(4, .int 6), (3, .ref 1899), (2, .ref 1826), (1, .ref 1), (0, .ref 0)]) (st' := [.ref 0, .int 6]) rfl ?_
          refine G_alen rfl g0_0 ?_
          show am_G at_P at_cl at_ty _ mt_law 27 [(4, .int 6), (3, .ref 1899), (2, .ref 1826), (1, .ref 1), (0, .ref 0)] [.int 6, .int 6] _ _
          refine G_ps 4 (pc' := 1004) (l' := [(4, .int 6), (3, .ref 1899), (2, .ref 1826), (1, .ref 1), (0, .ref 0)]) (st' := [.int 1]) rfl ?_
          refine G_ret rfl rfl rfl ?_
          exact ⟨rfl, by simp, by simp⟩
        · rw [if_neg hc5]
          exfalso
          simp only [Int32.lt_iff_toInt_lt, Int32.le_iff_toInt_le, show (0 : Int32).toInt = 0 by decide] at hc2 hc5
          omega
    · rw [if_neg hc2]
      refine G_ps 3 (pc' := if 1 < y3 then 13 else 9) (l' := [(0, .ref 1), (1, .int y3), (2, .int y4)]) (st' := []) rfl ?_
      by_cases hc6 : 1 < y3
      · rw [if_pos hc6]
        refine G_ps 1 (pc' := 15) (l' := [(0, .ref 1), (1, .int y3), (2, .int y4)]) (st' := [.int (-102)]) rfl ?_
        refine G_ret rfl rfl rfl ?_
        show am_G at_P at_cl at_ty _ mt_14 7 [(0, .ref 1), (1, .int y1), (2, .int 0), (3, .int y3), (4, .int y4)] [.int (-102)] _ _
        refine G_ps 4 (pc' := 16) (l' := [(5, .int (-102)), (0, .ref 1), (1, .int y1), (2, .int 0), (3, .int y3), (4, .int y4)]) (st' := [.int (-102)]) rfl ?_
        refine G_ret rfl rfl rfl ?_
        show am_G at_P at_cl at_ty _ mt_law 707 [(4, .int 0), (3, .ref 1899), (2, .ref 1826), (1, .ref 1), (0, .ref 0)] [.int (-102)] _ _
        refine G_ps 5 (pc' := 713) (l' := [(4, .int 0), (3, .ref 1899), (2, .ref 1826), (1, .ref 1), (0, .ref 0)]) (st' := [.int 1, .ref 0, .ref 1826, .int (-102)]) rfl ?_
        refine G_ild (i := 1) rfl g0_0 (by decide) ?_
        show am_G at_P at_cl at_ty _ mt_law 714 [(4, .int 0), (3, .ref 1899), (2, .ref 1826), (1, .ref 1), (0, .ref 0)] [.int y1, .ref 1826, .int (-102)] _ _
        refine G_ps 4 (pc' := 719) (l' := [(4, .int 0), (3, .ref 1899), (2, .ref 1826), (1, .ref 1), (0, .ref 0)]) (st' := [.int 2, .ref 0, .int y1, .ref 1826, .int (-102)]) rfl ?_
        refine G_ild (i := 2) rfl g0_0 (by decide) ?_
        show am_G at_P at_cl at_ty _ mt_law 720 [(4, .int 0), (3, .ref 1899), (2, .ref 1826), (1, .ref 1), (0, .ref 0)] [.int y2, .int y1, .ref 1826, .int (-102)] _ _
        refine G_ps 1 (pc' := if y2 = 0 then 727 else 723) (l' := [(4, .int 0), (3, .ref 1899), (2, .ref 1826), (1, .ref 1), (0, .ref 0)]) (st' := [.int y1, .ref 1826, .int (-102)]) rfl ?_
        by_cases hc7 : y2 = 0
        · rw [if_pos hc7]
          refine G_ps 5 (pc' := 733) (l' := [(4, .int 0), (3, .ref 1899), (2, .ref 1826), (1, .ref 1), (0, .ref 0)]) (st' := [.int 3, .ref 0, .int 0, .int y1, .ref 1826, .int (-102)]) rfl ?_
          refine G_ild (i := 3) rfl g0_0 (by decide) ?_
          show am_G at_P at_cl at_ty _ mt_law 734 [(4, .int 0), (3, .ref 1899), (2, .ref 1826), (1, .ref 1), (0, .ref 0)] [.int y3, .int 0, .int y1, .ref 1826, .int (-102)] _ _
          refine G_ps 4 (pc' := 739) (l' := [(4, .int 0), (3, .ref 1899), (2, .ref 1826), (1, .ref 1), (0, .ref 0)]) (st' := [.int 4, .ref 0, .int y3, .int 0, .int y1, .ref 1826, .int (-102)]) rfl ?_
          refine G_ild (i := 4) rfl g0_0 (by decide) ?_
          show am_G at_P at_cl at_ty _ mt_law 740 [(4, .int 0), (3, .ref 1899), (2, .ref 1826), (1, .ref 1), (0, .ref 0)] [.int y4, .int y3, .int 0, .int y1, .ref 1826, .int (-102)] _ _
          refine G_cv (i := 91) (j := 245) (b := 1826) (M' := mt_245) (xs := [.int y4, .int y3, .int 0, .int y1]) (rest := [.int (-102)]) rfl rfl rfl rfl g0_1826 (Nat.le_of_ble_eq_true rfl) (Nat.le_of_ble_eq_true rfl) ?_ (fun _ _ _ _ h9 => h9)
          show am_G at_P at_cl at_ty _ mt_245 0 [(0, .ref 1826), (1, .int y1), (2, .int 0), (3, .int y3), (4, .int y4)] [] _ _
          refine G_ps 2 (pc' := 3) (l' := [(0, .ref 1826), (1, .int y1), (2, .int 0), (3, .int y3), (4, .int y4)]) (st' := [.int y4, .int y3]) rfl ?_
          refine G_cs (i := 559) (j := 236) (M' := mt_236) (xs := [.int y4, .int y3]) (rest := []) rfl rfl rfl rfl rfl (Nat.le_of_ble_eq_true rfl) (Nat.le_of_ble_eq_true rfl) ?_ (fun _ _ _ _ h9 => h9)
          show am_G at_P at_cl at_ty _ mt_236 0 [(0, .int y3), (1, .int y4)] [] _ _
          refine G_ps 2 (pc' := if y3 < 0 then 13 else 4) (l' := [(0, .int y3), (1, .int y4)]) (st' := []) rfl ?_
          by_cases hc8 : y3 < 0
          · rw [if_pos hc8]
            exfalso
            simp only [Int32.lt_iff_toInt_lt, Int32.le_iff_toInt_le, show (0 : Int32).toInt = 0 by decide, show (1 : Int32).toInt = 1 by decide] at hc2 hc6 hc8
            omega
          · rw [if_neg hc8]
            refine G_ps 3 (pc' := if 1 < y3 then 13 else 9) (l' := [(0, .int y3), (1, .int y4)]) (st' := []) rfl ?_
            by_cases hc9 : 1 < y3
            · rw [if_pos hc9]
              refine G_ps 2 (pc' := 18) (l' := [(0, .int y3), (1, .int y4)]) (st' := [.int 1]) rfl ?_
              refine G_ret rfl rfl rfl ?_
              show am_G at_P at_cl at_ty _ mt_245 6 [(0, .ref 1826), (1, .int y1), (2, .int 0), (3, .int y3), (4, .int y4)] [.int 1] _ _
              refine G_ps 3 (pc' := 36) (l' := [(0, .ref 1826), (1, .int y1), (2, .int 0), (3, .int y3), (4, .int y4)]) (st' := [.int (-102)]) rfl ?_
              refine G_ret rfl rfl rfl ?_
              show am_G at_P at_cl at_ty _ mt_law 743 [(4, .int 0), (3, .ref 1899), (2, .ref 1826), (1, .ref 1), (0, .ref 0)] [.int (-102), .int (-102)] _ _
              refine G_ps 5 (pc' := 26) (l' := [(4, .int 6), (3, .ref 1899), (2, .ref 1826), (1, .ref 1), (0, .ref 0)]) (st' := [.ref 0, .int 6]) rfl ?_
              refine G_alen rfl g0_0 ?_
              show am_G at_P at_cl at_ty _ mt_law 27 [(4, .int 6), (3, .ref 1899), (2, .ref 1826), (1, .ref 1), (0, .ref 0)] [.int 6, .int 6] _ _
              refine G_ps 4 (pc' := 1004) (l' := [(4, .int 6), (3, .ref 1899), (2, .ref 1826), (1, .ref 1), (0, .ref 0)]) (st' := [.int 1]) rfl ?_
              refine G_ret rfl rfl rfl ?_
              exact ⟨rfl, by simp, by simp⟩
            · rw [if_neg hc9]
              exfalso
              simp only [Int32.lt_iff_toInt_lt, Int32.le_iff_toInt_le, show (0 : Int32).toInt = 0 by decide, show (1 : Int32).toInt = 1 by decide] at hc2 hc6 hc8 hc9
              omega
        · rw [if_neg hc7]
          refine G_ps 6 (pc' := 733) (l' := [(4, .int 0), (3, .ref 1899), (2, .ref 1826), (1, .ref 1), (0, .ref 0)]) (st' := [.int 3, .ref 0, .int 1, .int y1, .ref 1826, .int (-102)]) rfl ?_
          refine G_ild (i := 3) rfl g0_0 (by decide) ?_
          show am_G at_P at_cl at_ty _ mt_law 734 [(4, .int 0), (3, .ref 1899), (2, .ref 1826), (1, .ref 1), (0, .ref 0)] [.int y3, .int 1, .int y1, .ref 1826, .int (-102)] _ _
          refine G_ps 4 (pc' := 739) (l' := [(4, .int 0), (3, .ref 1899), (2, .ref 1826), (1, .ref 1), (0, .ref 0)]) (st' := [.int 4, .ref 0, .int y3, .int 1, .int y1, .ref 1826, .int (-102)]) rfl ?_
          refine G_ild (i := 4) rfl g0_0 (by decide) ?_
          show am_G at_P at_cl at_ty _ mt_law 740 [(4, .int 0), (3, .ref 1899), (2, .ref 1826), (1, .ref 1), (0, .ref 0)] [.int y4, .int y3, .int 1, .int y1, .ref 1826, .int (-102)] _ _
          refine G_cv (i := 91) (j := 245) (b := 1826) (M' := mt_245) (xs := [.int y4, .int y3, .int 1, .int y1]) (rest := [.int (-102)]) rfl rfl rfl rfl g0_1826 (Nat.le_of_ble_eq_true rfl) (Nat.le_of_ble_eq_true rfl) ?_ (fun _ _ _ _ h9 => h9)
          show am_G at_P at_cl at_ty _ mt_245 0 [(0, .ref 1826), (1, .int y1), (2, .int 1), (3, .int y3), (4, .int y4)] [] _ _
          refine G_ps 2 (pc' := 3) (l' := [(0, .ref 1826), (1, .int y1), (2, .int 1), (3, .int y3), (4, .int y4)]) (st' := [.int y4, .int y3]) rfl ?_
          refine G_cs (i := 559) (j := 236) (M' := mt_236) (xs := [.int y4, .int y3]) (rest := []) rfl rfl rfl rfl rfl (Nat.le_of_ble_eq_true rfl) (Nat.le_of_ble_eq_true rfl) ?_ (fun _ _ _ _ h9 => h9)
          show am_G at_P at_cl at_ty _ mt_236 0 [(0, .int y3), (1, .int y4)] [] _ _
          refine G_ps 2 (pc' := if y3 < 0 then 13 else 4) (l' := [(0, .int y3), (1, .int y4)]) (st' := []) rfl ?_
          by_cases hc10 : y3 < 0
          · rw [if_pos hc10]
            exfalso
            simp only [Int32.lt_iff_toInt_lt, Int32.le_iff_toInt_le, show (0 : Int32).toInt = 0 by decide, show (1 : Int32).toInt = 1 by decide] at hc2 hc6 hc10
            omega
          · rw [if_neg hc10]
            refine G_ps 3 (pc' := if 1 < y3 then 13 else 9) (l' := [(0, .int y3), (1, .int y4)]) (st' := []) rfl ?_
            by_cases hc11 : 1 < y3
            · rw [if_pos hc11]
              refine G_ps 2 (pc' := 18) (l' := [(0, .int y3), (1, .int y4)]) (st' := [.int 1]) rfl ?_
              refine G_ret rfl rfl rfl ?_
              show am_G at_P at_cl at_ty _ mt_245 6 [(0, .ref 1826), (1, .int y1), (2, .int 1), (3, .int y3), (4, .int y4)] [.int 1] _ _
              refine G_ps 3 (pc' := 36) (l' := [(0, .ref 1826), (1, .int y1), (2, .int 1), (3, .int y3), (4, .int y4)]) (st' := [.int (-102)]) rfl ?_
              refine G_ret rfl rfl rfl ?_
              show am_G at_P at_cl at_ty _ mt_law 743 [(4, .int 0), (3, .ref 1899), (2, .ref 1826), (1, .ref 1), (0, .ref 0)] [.int (-102), .int (-102)] _ _
              refine G_ps 5 (pc' := 26) (l' := [(4, .int 6), (3, .ref 1899), (2, .ref 1826), (1, .ref 1), (0, .ref 0)]) (st' := [.ref 0, .int 6]) rfl ?_
              refine G_alen rfl g0_0 ?_
              show am_G at_P at_cl at_ty _ mt_law 27 [(4, .int 6), (3, .ref 1899), (2, .ref 1826), (1, .ref 1), (0, .ref 0)] [.int 6, .int 6] _ _
              refine G_ps 4 (pc' := 1004) (l' := [(4, .int 6), (3, .ref 1899), (2, .ref 1826), (1, .ref 1), (0, .ref 0)]) (st' := [.int 1]) rfl ?_
              refine G_ret rfl rfl rfl ?_
              exact ⟨rfl, by simp, by simp⟩
            · rw [if_neg hc11]
              exfalso
              simp only [Int32.lt_iff_toInt_lt, Int32.le_iff_toInt_le, show (0 : Int32).toInt = 0 by decide, show (1 : Int32).toInt = 1 by decide] at hc2 hc6 hc10 hc11
              omega
      · rw [if_neg hc6]
        refine G_ps 2 (pc' := if 0 ≤ y4 then 16 else 13) (l' := [(0, .ref 1), (1, .int y3), (2, .int y4)]) (st' := []) rfl ?_
        by_cases hc12 : 0 ≤ y4
        · rw [if_pos hc12]
          refine G_ps 1 (pc' := 17) (l' := [(0, .ref 1), (1, .int y3), (2, .int y4)]) (st' := [.ref 1]) rfl ?_
          refine G_get (i := 60) (ci := 0) (k := 6) (v := .ref 406) rfl rfl g0_1 rfl ?_
          show am_G at_P at_cl at_ty _ mt_24 20 [(0, .ref 1), (1, .int y3), (2, .int y4)] [.ref 406] _ _
          refine G_get (i := 96) (ci := 10) (k := 2) (v := .ref 407) rfl rfl g0_406 rfl ?_
          show am_G at_P at_cl at_ty _ mt_24 23 [(0, .ref 1), (1, .int y3), (2, .int y4)] [.ref 407] _ _
          refine G_get (i := 129) (ci := 11) (k := 2) (v := .int 0) rfl rfl g0_407 rfl ?_
          show am_G at_P at_cl at_ty _ mt_24 26 [(0, .ref 1), (1, .int y3), (2, .int y4)] [.int 0] _ _
          refine G_ps 2 (pc' := 35) (l' := [(0, .ref 1), (1, .int y3), (2, .int y4)]) (st' := [.int (-103)]) rfl ?_
          refine G_ret rfl rfl rfl ?_
          show am_G at_P at_cl at_ty _ mt_14 7 [(0, .ref 1), (1, .int y1), (2, .int 0), (3, .int y3), (4, .int y4)] [.int (-103)] _ _
          refine G_ps 4 (pc' := 16) (l' := [(5, .int (-103)), (0, .ref 1), (1, .int y1), (2, .int 0), (3, .int y3), (4, .int y4)]) (st' := [.int (-103)]) rfl ?_
          refine G_ret rfl rfl rfl ?_
          show am_G at_P at_cl at_ty _ mt_law 707 [(4, .int 0), (3, .ref 1899), (2, .ref 1826), (1, .ref 1), (0, .ref 0)] [.int (-103)] _ _
          refine G_ps 5 (pc' := 713) (l' := [(4, .int 0), (3, .ref 1899), (2, .ref 1826), (1, .ref 1), (0, .ref 0)]) (st' := [.int 1, .ref 0, .ref 1826, .int (-103)]) rfl ?_
          refine G_ild (i := 1) rfl g0_0 (by decide) ?_
          show am_G at_P at_cl at_ty _ mt_law 714 [(4, .int 0), (3, .ref 1899), (2, .ref 1826), (1, .ref 1), (0, .ref 0)] [.int y1, .ref 1826, .int (-103)] _ _
          refine G_ps 4 (pc' := 719) (l' := [(4, .int 0), (3, .ref 1899), (2, .ref 1826), (1, .ref 1), (0, .ref 0)]) (st' := [.int 2, .ref 0, .int y1, .ref 1826, .int (-103)]) rfl ?_
          refine G_ild (i := 2) rfl g0_0 (by decide) ?_
          show am_G at_P at_cl at_ty _ mt_law 720 [(4, .int 0), (3, .ref 1899), (2, .ref 1826), (1, .ref 1), (0, .ref 0)] [.int y2, .int y1, .ref 1826, .int (-103)] _ _
          refine G_ps 1 (pc' := if y2 = 0 then 727 else 723) (l' := [(4, .int 0), (3, .ref 1899), (2, .ref 1826), (1, .ref 1), (0, .ref 0)]) (st' := [.int y1, .ref 1826, .int (-103)]) rfl ?_
          by_cases hc13 : y2 = 0
          · rw [if_pos hc13]
            refine G_ps 5 (pc' := 733) (l' := [(4, .int 0), (3, .ref 1899), (2, .ref 1826), (1, .ref 1), (0, .ref 0)]) (st' := [.int 3, .ref 0, .int 0, .int y1, .ref 1826, .int (-103)]) rfl ?_
            refine G_ild (i := 3) rfl g0_0 (by decide) ?_
            show am_G at_P at_cl at_ty _ mt_law 734 [(4, .int 0), (3, .ref 1899), (2, .ref 1826), (1, .ref 1), (0, .ref 0)] [.int y3, .int 0, .int y1, .ref 1826, .int (-103)] _ _
            refine G_ps 4 (pc' := 739) (l' := [(4, .int 0), (3, .ref 1899), (2, .ref 1826), (1, .ref 1), (0, .ref 0)]) (st' := [.int 4, .ref 0, .int y3, .int 0, .int y1, .ref 1826, .int (-103)]) rfl ?_
            refine G_ild (i := 4) rfl g0_0 (by decide) ?_
            show am_G at_P at_cl at_ty _ mt_law 740 [(4, .int 0), (3, .ref 1899), (2, .ref 1826), (1, .ref 1), (0, .ref 0)] [.int y4, .int y3, .int 0, .int y1, .ref 1826, .int (-103)] _ _
            refine G_cv (i := 91) (j := 245) (b := 1826) (M' := mt_245) (xs := [.int y4, .int y3, .int 0, .int y1]) (rest := [.int (-103)]) rfl rfl rfl rfl g0_1826 (Nat.le_of_ble_eq_true rfl) (Nat.le_of_ble_eq_true rfl) ?_ (fun _ _ _ _ h9 => h9)
            show am_G at_P at_cl at_ty _ mt_245 0 [(0, .ref 1826), (1, .int y1), (2, .int 0), (3, .int y3), (4, .int y4)] [] _ _
            refine G_ps 2 (pc' := 3) (l' := [(0, .ref 1826), (1, .int y1), (2, .int 0), (3, .int y3), (4, .int y4)]) (st' := [.int y4, .int y3]) rfl ?_
            refine G_cs (i := 559) (j := 236) (M' := mt_236) (xs := [.int y4, .int y3]) (rest := []) rfl rfl rfl rfl rfl (Nat.le_of_ble_eq_true rfl) (Nat.le_of_ble_eq_true rfl) ?_ (fun _ _ _ _ h9 => h9)
            show am_G at_P at_cl at_ty _ mt_236 0 [(0, .int y3), (1, .int y4)] [] _ _
            refine G_ps 2 (pc' := if y3 < 0 then 13 else 4) (l' := [(0, .int y3), (1, .int y4)]) (st' := []) rfl ?_
            by_cases hc14 : y3 < 0
            · rw [if_pos hc14]
              exfalso
              simp only [Int32.lt_iff_toInt_lt, Int32.le_iff_toInt_le, show (0 : Int32).toInt = 0 by decide, show (1 : Int32).toInt = 1 by decide] at hc2 hc6 hc12 hc14
              omega
            · rw [if_neg hc14]
              refine G_ps 3 (pc' := if 1 < y3 then 13 else 9) (l' := [(0, .int y3), (1, .int y4)]) (st' := []) rfl ?_
              by_cases hc15 : 1 < y3
              · rw [if_pos hc15]
                exfalso
                simp only [Int32.lt_iff_toInt_lt, Int32.le_iff_toInt_le, show (0 : Int32).toInt = 0 by decide, show (1 : Int32).toInt = 1 by decide] at hc2 hc6 hc12 hc14 hc15
                omega
              · rw [if_neg hc15]
                refine G_ps 2 (pc' := if 0 ≤ y4 then 17 else 13) (l' := [(0, .int y3), (1, .int y4)]) (st' := []) rfl ?_
                by_cases hc16 : 0 ≤ y4
                · rw [if_pos hc16]
                  refine G_ps 1 (pc' := 18) (l' := [(0, .int y3), (1, .int y4)]) (st' := [.int 0]) rfl ?_
                  refine G_ret rfl rfl rfl ?_
                  show am_G at_P at_cl at_ty _ mt_245 6 [(0, .ref 1826), (1, .int y1), (2, .int 0), (3, .int y3), (4, .int y4)] [.int 0] _ _
                  refine G_ps 2 (pc' := 15) (l' := [(0, .ref 1826), (1, .int y1), (2, .int 0), (3, .int y3), (4, .int y4)]) (st' := [.ref 1826]) rfl ?_
                  refine G_cv (i := 563) (j := 235) (b := 1826) (M' := mt_235) (xs := []) (rest := []) rfl rfl rfl rfl g0_1826 (Nat.le_of_ble_eq_true rfl) (Nat.le_of_ble_eq_true rfl) ?_ (fun _ _ _ _ h9 => h9)
                  show am_G at_P at_cl at_ty _ mt_235 0 [(0, .ref 1826)] [] _ _
                  refine G_ps 1 (pc' := 1) (l' := [(0, .ref 1826)]) (st' := [.ref 1826]) rfl ?_
                  refine G_get (i := 414) (ci := 13) (k := 77) (v := .int 0) rfl rfl g0_1826 rfl ?_
                  show am_G at_P at_cl at_ty _ mt_235 4 [(0, .ref 1826)] [.int 0] _ _
                  refine G_ps 3 (pc' := 12) (l' := [(0, .ref 1826)]) (st' := [.int 1]) rfl ?_
                  refine G_ret rfl rfl rfl ?_
                  show am_G at_P at_cl at_ty _ mt_245 18 [(0, .ref 1826), (1, .int y1), (2, .int 0), (3, .int y3), (4, .int y4)] [.int 1] _ _
                  refine G_ps 3 (pc' := 36) (l' := [(0, .ref 1826), (1, .int y1), (2, .int 0), (3, .int y3), (4, .int y4)]) (st' := [.int (-103)]) rfl ?_
                  refine G_ret rfl rfl rfl ?_
                  show am_G at_P at_cl at_ty _ mt_law 743 [(4, .int 0), (3, .ref 1899), (2, .ref 1826), (1, .ref 1), (0, .ref 0)] [.int (-103), .int (-103)] _ _
                  refine G_ps 5 (pc' := 26) (l' := [(4, .int 6), (3, .ref 1899), (2, .ref 1826), (1, .ref 1), (0, .ref 0)]) (st' := [.ref 0, .int 6]) rfl ?_
                  refine G_alen rfl g0_0 ?_
                  show am_G at_P at_cl at_ty _ mt_law 27 [(4, .int 6), (3, .ref 1899), (2, .ref 1826), (1, .ref 1), (0, .ref 0)] [.int 6, .int 6] _ _
                  refine G_ps 4 (pc' := 1004) (l' := [(4, .int 6), (3, .ref 1899), (2, .ref 1826), (1, .ref 1), (0, .ref 0)]) (st' := [.int 1]) rfl ?_
                  refine G_ret rfl rfl rfl ?_
                  exact ⟨rfl, by simp, by simp⟩
                · rw [if_neg hc16]
                  exfalso
                  simp only [Int32.lt_iff_toInt_lt, Int32.le_iff_toInt_le, show (0 : Int32).toInt = 0 by decide, show (1 : Int32).toInt = 1 by decide] at hc2 hc6 hc12 hc14 hc15 hc16
                  omega
          · rw [if_neg hc13]
            refine G_ps 6 (pc' := 733) (l' := [(4, .int 0), (3, .ref 1899), (2, .ref 1826), (1, .ref 1), (0, .ref 0)]) (st' := [.int 3, .ref 0, .int 1, .int y1, .ref 1826, .int (-103)]) rfl ?_
            refine G_ild (i := 3) rfl g0_0 (by decide) ?_
            show am_G at_P at_cl at_ty _ mt_law 734 [(4, .int 0), (3, .ref 1899), (2, .ref 1826), (1, .ref 1), (0, .ref 0)] [.int y3, .int 1, .int y1, .ref 1826, .int (-103)] _ _
            refine G_ps 4 (pc' := 739) (l' := [(4, .int 0), (3, .ref 1899), (2, .ref 1826), (1, .ref 1), (0, .ref 0)]) (st' := [.int 4, .ref 0, .int y3, .int 1, .int y1, .ref 1826, .int (-103)]) rfl ?_
            refine G_ild (i := 4) rfl g0_0 (by decide) ?_
            show am_G at_P at_cl at_ty _ mt_law 740 [(4, .int 0), (3, .ref 1899), (2, .ref 1826), (1, .ref 1), (0, .ref 0)] [.int y4, .int y3, .int 1, .int y1, .ref 1826, .int (-103)] _ _
            refine G_cv (i := 91) (j := 245) (b := 1826) (M' := mt_245) (xs := [.int y4, .int y3, .int 1, .int y1]) (rest := [.int (-103)]) rfl rfl rfl rfl g0_1826 (Nat.le_of_ble_eq_true rfl) (Nat.le_of_ble_eq_true rfl) ?_ (fun _ _ _ _ h9 => h9)
            show am_G at_P at_cl at_ty _ mt_245 0 [(0, .ref 1826), (1, .int y1), (2, .int 1), (3, .int y3), (4, .int y4)] [] _ _
            refine G_ps 2 (pc' := 3) (l' := [(0, .ref 1826), (1, .int y1), (2, .int 1), (3, .int y3), (4, .int y4)]) (st' := [.int y4, .int y3]) rfl ?_
            refine G_cs (i := 559) (j := 236) (M' := mt_236) (xs := [.int y4, .int y3]) (rest := []) rfl rfl rfl rfl rfl (Nat.le_of_ble_eq_true rfl) (Nat.le_of_ble_eq_true rfl) ?_ (fun _ _ _ _ h9 => h9)
            show am_G at_P at_cl at_ty _ mt_236 0 [(0, .int y3), (1, .int y4)] [] _ _
            refine G_ps 2 (pc' := if y3 < 0 then 13 else 4) (l' := [(0, .int y3), (1, .int y4)]) (st' := []) rfl ?_
            by_cases hc17 : y3 < 0
            · rw [if_pos hc17]
              exfalso
              simp only [Int32.lt_iff_toInt_lt, Int32.le_iff_toInt_le, show (0 : Int32).toInt = 0 by decide, show (1 : Int32).toInt = 1 by decide] at hc2 hc6 hc12 hc17
              omega
            · rw [if_neg hc17]
              refine G_ps 3 (pc' := if 1 < y3 then 13 else 9) (l' := [(0, .int y3), (1, .int y4)]) (st' := []) rfl ?_
              by_cases hc18 : 1 < y3
              · rw [if_pos hc18]
                exfalso
                simp only [Int32.lt_iff_toInt_lt, Int32.le_iff_toInt_le, show (0 : Int32).toInt = 0 by decide, show (1 : Int32).toInt = 1 by decide] at hc2 hc6 hc12 hc17 hc18
                omega
              · rw [if_neg hc18]
                refine G_ps 2 (pc' := if 0 ≤ y4 then 17 else 13) (l' := [(0, .int y3), (1, .int y4)]) (st' := []) rfl ?_
                by_cases hc19 : 0 ≤ y4
                · rw [if_pos hc19]
                  refine G_ps 1 (pc' := 18) (l' := [(0, .int y3), (1, .int y4)]) (st' := [.int 0]) rfl ?_
                  refine G_ret rfl rfl rfl ?_
                  show am_G at_P at_cl at_ty _ mt_245 6 [(0, .ref 1826), (1, .int y1), (2, .int 1), (3, .int y3), (4, .int y4)] [.int 0] _ _
                  refine G_ps 2 (pc' := 15) (l' := [(0, .ref 1826), (1, .int y1), (2, .int 1), (3, .int y3), (4, .int y4)]) (st' := [.ref 1826]) rfl ?_
                  refine G_cv (i := 563) (j := 235) (b := 1826) (M' := mt_235) (xs := []) (rest := []) rfl rfl rfl rfl g0_1826 (Nat.le_of_ble_eq_true rfl) (Nat.le_of_ble_eq_true rfl) ?_ (fun _ _ _ _ h9 => h9)
                  show am_G at_P at_cl at_ty _ mt_235 0 [(0, .ref 1826)] [] _ _
                  refine G_ps 1 (pc' := 1) (l' := [(0, .ref 1826)]) (st' := [.ref 1826]) rfl ?_
                  refine G_get (i := 414) (ci := 13) (k := 77) (v := .int 0) rfl rfl g0_1826 rfl ?_
                  show am_G at_P at_cl at_ty _ mt_235 4 [(0, .ref 1826)] [.int 0] _ _
                  refine G_ps 3 (pc' := 12) (l' := [(0, .ref 1826)]) (st' := [.int 1]) rfl ?_
                  refine G_ret rfl rfl rfl ?_
                  show am_G at_P at_cl at_ty _ mt_245 18 [(0, .ref 1826), (1, .int y1), (2, .int 1), (3, .int y3), (4, .int y4)] [.int 1] _ _
                  refine G_ps 3 (pc' := 36) (l' := [(0, .ref 1826), (1, .int y1), (2, .int 1), (3, .int y3), (4, .int y4)]) (st' := [.int (-103)]) rfl ?_
                  refine G_ret rfl rfl rfl ?_
                  show am_G at_P at_cl at_ty _ mt_law 743 [(4, .int 0), (3, .ref 1899), (2, .ref 1826), (1, .ref 1), (0, .ref 0)] [.int (-103), .int (-103)] _ _
                  refine G_ps 5 (pc' := 26) (l' := [(4, .int 6), (3, .ref 1899), (2, .ref 1826), (1, .ref 1), (0, .ref 0)]) (st' := [.ref 0, .int 6]) rfl ?_
                  refine G_alen rfl g0_0 ?_
                  show am_G at_P at_cl at_ty _ mt_law 27 [(4, .int 6), (3, .ref 1899), (2, .ref 1826), (1, .ref 1), (0, .ref 0)] [.int 6, .int 6] _ _
                  refine G_ps 4 (pc' := 1004) (l' := [(4, .int 6), (3, .ref 1899), (2, .ref 1826), (1, .ref 1), (0, .ref 0)]) (st' := [.int 1]) rfl ?_
                  refine G_ret rfl rfl rfl ?_
                  exact ⟨rfl, by simp, by simp⟩
                · rw [if_neg hc19]
                  exfalso
                  simp only [Int32.lt_iff_toInt_lt, Int32.le_iff_toInt_le, show (0 : Int32).toInt = 0 by decide, show (1 : Int32).toInt = 1 by decide] at hc2 hc6 hc12 hc17 hc18 hc19
                  omega
        · rw [if_neg hc12]
          refine G_ps 1 (pc' := 15) (l' := [(0, .ref 1), (1, .int y3), (2, .int y4)]) (st' := [.int (-102)]) rfl ?_
          refine G_ret rfl rfl rfl ?_
          show am_G at_P at_cl at_ty _ mt_14 7 [(0, .ref 1), (1, .int y1), (2, .int 0), (3, .int y3), (4, .int y4)] [.int (-102)] _ _
          refine G_ps 4 (pc' := 16) (l' := [(5, .int (-102)), (0, .ref 1), (1, .int y1), (2, .int 0), (3, .int y3), (4, .int y4)]) (st' := [.int (-102)]) rfl ?_
          refine G_ret rfl rfl rfl ?_
          show am_G at_P at_cl at_ty _ mt_law 707 [(4, .int 0), (3, .ref 1899), (2, .ref 1826), (1, .ref 1), (0, .ref 0)] [.int (-102)] _ _
          refine G_ps 5 (pc' := 713) (l' := [(4, .int 0), (3, .ref 1899), (2, .ref 1826), (1, .ref 1), (0, .ref 0)]) (st' := [.int 1, .ref 0, .ref 1826, .int (-102)]) rfl ?_
          refine G_ild (i := 1) rfl g0_0 (by decide) ?_
          show am_G at_P at_cl at_ty _ mt_law 714 [(4, .int 0), (3, .ref 1899), (2, .ref 1826), (1, .ref 1), (0, .ref 0)] [.int y1, .ref 1826, .int (-102)] _ _
          refine G_ps 4 (pc' := 719) (l' := [(4, .int 0), (3, .ref 1899), (2, .ref 1826), (1, .ref 1), (0, .ref 0)]) (st' := [.int 2, .ref 0, .int y1, .ref 1826, .int (-102)]) rfl ?_
          refine G_ild (i := 2) rfl g0_0 (by decide) ?_
          show am_G at_P at_cl at_ty _ mt_law 720 [(4, .int 0), (3, .ref 1899), (2, .ref 1826), (1, .ref 1), (0, .ref 0)] [.int y2, .int y1, .ref 1826, .int (-102)] _ _
          refine G_ps 1 (pc' := if y2 = 0 then 727 else 723) (l' := [(4, .int 0), (3, .ref 1899), (2, .ref 1826), (1, .ref 1), (0, .ref 0)]) (st' := [.int y1, .ref 1826, .int (-102)]) rfl ?_
          by_cases hc20 : y2 = 0
          · rw [if_pos hc20]
            refine G_ps 5 (pc' := 733) (l' := [(4, .int 0), (3, .ref 1899), (2, .ref 1826), (1, .ref 1), (0, .ref 0)]) (st' := [.int 3, .ref 0, .int 0, .int y1, .ref 1826, .int (-102)]) rfl ?_
            refine G_ild (i := 3) rfl g0_0 (by decide) ?_
            show am_G at_P at_cl at_ty _ mt_law 734 [(4, .int 0), (3, .ref 1899), (2, .ref 1826), (1, .ref 1), (0, .ref 0)] [.int y3, .int 0, .int y1, .ref 1826, .int (-102)] _ _
            refine G_ps 4 (pc' := 739) (l' := [(4, .int 0), (3, .ref 1899), (2, .ref 1826), (1, .ref 1), (0, .ref 0)]) (st' := [.int 4, .ref 0, .int y3, .int 0, .int y1, .ref 1826, .int (-102)]) rfl ?_
            refine G_ild (i := 4) rfl g0_0 (by decide) ?_
            show am_G at_P at_cl at_ty _ mt_law 740 [(4, .int 0), (3, .ref 1899), (2, .ref 1826), (1, .ref 1), (0, .ref 0)] [.int y4, .int y3, .int 0, .int y1, .ref 1826, .int (-102)] _ _
            refine G_cv (i := 91) (j := 245) (b := 1826) (M' := mt_245) (xs := [.int y4, .int y3, .int 0, .int y1]) (rest := [.int (-102)]) rfl rfl rfl rfl g0_1826 (Nat.le_of_ble_eq_true rfl) (Nat.le_of_ble_eq_true rfl) ?_ (fun _ _ _ _ h9 => h9)
            show am_G at_P at_cl at_ty _ mt_245 0 [(0, .ref 1826), (1, .int y1), (2, .int 0), (3, .int y3), (4, .int y4)] [] _ _
            refine G_ps 2 (pc' := 3) (l' := [(0, .ref 1826), (1, .int y1), (2, .int 0), (3, .int y3), (4, .int y4)]) (st' := [.int y4, .int y3]) rfl ?_
            refine G_cs (i := 559) (j := 236) (M' := mt_236) (xs := [.int y4, .int y3]) (rest := []) rfl rfl rfl rfl rfl (Nat.le_of_ble_eq_true rfl) (Nat.le_of_ble_eq_true rfl) ?_ (fun _ _ _ _ h9 => h9)
            show am_G at_P at_cl at_ty _ mt_236 0 [(0, .int y3), (1, .int y4)] [] _ _
            refine G_ps 2 (pc' := if y3 < 0 then 13 else 4) (l' := [(0, .int y3), (1, .int y4)]) (st' := []) rfl ?_
            by_cases hc21 : y3 < 0
            · rw [if_pos hc21]
              exfalso
              simp only [Int32.lt_iff_toInt_lt, Int32.le_iff_toInt_le, show (0 : Int32).toInt = 0 by decide, show (1 : Int32).toInt = 1 by decide] at hc2 hc6 hc12 hc21
              omega
            · rw [if_neg hc21]
              refine G_ps 3 (pc' := if 1 < y3 then 13 else 9) (l' := [(0, .int y3), (1, .int y4)]) (st' := []) rfl ?_
              by_cases hc22 : 1 < y3
              · rw [if_pos hc22]
                exfalso
                simp only [Int32.lt_iff_toInt_lt, Int32.le_iff_toInt_le, show (0 : Int32).toInt = 0 by decide, show (1 : Int32).toInt = 1 by decide] at hc2 hc6 hc12 hc21 hc22
                omega
              · rw [if_neg hc22]
                refine G_ps 2 (pc' := if 0 ≤ y4 then 17 else 13) (l' := [(0, .int y3), (1, .int y4)]) (st' := []) rfl ?_
                by_cases hc23 : 0 ≤ y4
                · rw [if_pos hc23]
                  exfalso
                  simp only [Int32.lt_iff_toInt_lt, Int32.le_iff_toInt_le, show (0 : Int32).toInt = 0 by decide, show (1 : Int32).toInt = 1 by decide] at hc2 hc6 hc12 hc21 hc22 hc23
                  omega
                · rw [if_neg hc23]
                  refine G_ps 2 (pc' := 18) (l' := [(0, .int y3), (1, .int y4)]) (st' := [.int 1]) rfl ?_
                  refine G_ret rfl rfl rfl ?_
                  show am_G at_P at_cl at_ty _ mt_245 6 [(0, .ref 1826), (1, .int y1), (2, .int 0), (3, .int y3), (4, .int y4)] [.int 1] _ _
                  refine G_ps 3 (pc' := 36) (l' := [(0, .ref 1826), (1, .int y1), (2, .int 0), (3, .int y3), (4, .int y4)]) (st' := [.int (-102)]) rfl ?_
                  refine G_ret rfl rfl rfl ?_
                  show am_G at_P at_cl at_ty _ mt_law 743 [(4, .int 0), (3, .ref 1899), (2, .ref 1826), (1, .ref 1), (0, .ref 0)] [.int (-102), .int (-102)] _ _
                  refine G_ps 5 (pc' := 26) (l' := [(4, .int 6), (3, .ref 1899), (2, .ref 1826), (1, .ref 1), (0, .ref 0)]) (st' := [.ref 0, .int 6]) rfl ?_
                  refine G_alen rfl g0_0 ?_
                  show am_G at_P at_cl at_ty _ mt_law 27 [(4, .int 6), (3, .ref 1899), (2, .ref 1826), (1, .ref 1), (0, .ref 0)] [.int 6, .int 6] _ _
                  refine G_ps 4 (pc' := 1004) (l' := [(4, .int 6), (3, .ref 1899), (2, .ref 1826), (1, .ref 1), (0, .ref 0)]) (st' := [.int 1]) rfl ?_
                  refine G_ret rfl rfl rfl ?_
                  exact ⟨rfl, by simp, by simp⟩
          · rw [if_neg hc20]
            refine G_ps 6 (pc' := 733) (l' := [(4, .int 0), (3, .ref 1899), (2, .ref 1826), (1, .ref 1), (0, .ref 0)]) (st' := [.int 3, .ref 0, .int 1, .int y1, .ref 1826, .int (-102)]) rfl ?_
            refine G_ild (i := 3) rfl g0_0 (by decide) ?_
            show am_G at_P at_cl at_ty _ mt_law 734 [(4, .int 0), (3, .ref 1899), (2, .ref 1826), (1, .ref 1), (0, .ref 0)] [.int y3, .int 1, .int y1, .ref 1826, .int (-102)] _ _
            refine G_ps 4 (pc' := 739) (l' := [(4, .int 0), (3, .ref 1899), (2, .ref 1826), (1, .ref 1), (0, .ref 0)]) (st' := [.int 4, .ref 0, .int y3, .int 1, .int y1, .ref 1826, .int (-102)]) rfl ?_
            refine G_ild (i := 4) rfl g0_0 (by decide) ?_
            show am_G at_P at_cl at_ty _ mt_law 740 [(4, .int 0), (3, .ref 1899), (2, .ref 1826), (1, .ref 1), (0, .ref 0)] [.int y4, .int y3, .int 1, .int y1, .ref 1826, .int (-102)] _ _
            refine G_cv (i := 91) (j := 245) (b := 1826) (M' := mt_245) (xs := [.int y4, .int y3, .int 1, .int y1]) (rest := [.int (-102)]) rfl rfl rfl rfl g0_1826 (Nat.le_of_ble_eq_true rfl) (Nat.le_of_ble_eq_true rfl) ?_ (fun _ _ _ _ h9 => h9)
            show am_G at_P at_cl at_ty _ mt_245 0 [(0, .ref 1826), (1, .int y1), (2, .int 1), (3, .int y3), (4, .int y4)] [] _ _
            refine G_ps 2 (pc' := 3) (l' := [(0, .ref 1826), (1, .int y1), (2, .int 1), (3, .int y3), (4, .int y4)]) (st' := [.int y4, .int y3]) rfl ?_
            refine G_cs (i := 559) (j := 236) (M' := mt_236) (xs := [.int y4, .int y3]) (rest := []) rfl rfl rfl rfl rfl (Nat.le_of_ble_eq_true rfl) (Nat.le_of_ble_eq_true rfl) ?_ (fun _ _ _ _ h9 => h9)
            show am_G at_P at_cl at_ty _ mt_236 0 [(0, .int y3), (1, .int y4)] [] _ _
            refine G_ps 2 (pc' := if y3 < 0 then 13 else 4) (l' := [(0, .int y3), (1, .int y4)]) (st' := []) rfl ?_
            by_cases hc24 : y3 < 0
            · rw [if_pos hc24]
              exfalso
              simp only [Int32.lt_iff_toInt_lt, Int32.le_iff_toInt_le, show (0 : Int32).toInt = 0 by decide, show (1 : Int32).toInt = 1 by decide] at hc2 hc6 hc12 hc24
              omega
            · rw [if_neg hc24]
              refine G_ps 3 (pc' := if 1 < y3 then 13 else 9) (l' := [(0, .int y3), (1, .int y4)]) (st' := []) rfl ?_
              by_cases hc25 : 1 < y3
              · rw [if_pos hc25]
                exfalso
                simp only [Int32.lt_iff_toInt_lt, Int32.le_iff_toInt_le, show (0 : Int32).toInt = 0 by decide, show (1 : Int32).toInt = 1 by decide] at hc2 hc6 hc12 hc24 hc25
                omega
              · rw [if_neg hc25]
                refine G_ps 2 (pc' := if 0 ≤ y4 then 17 else 13) (l' := [(0, .int y3), (1, .int y4)]) (st' := []) rfl ?_
                by_cases hc26 : 0 ≤ y4
                · rw [if_pos hc26]
                  exfalso
                  simp only [Int32.lt_iff_toInt_lt, Int32.le_iff_toInt_le, show (0 : Int32).toInt = 0 by decide, show (1 : Int32).toInt = 1 by decide] at hc2 hc6 hc12 hc24 hc25 hc26
                  omega
                · rw [if_neg hc26]
                  refine G_ps 2 (pc' := 18) (l' := [(0, .int y3), (1, .int y4)]) (st' := [.int 1]) rfl ?_
                  refine G_ret rfl rfl rfl ?_
                  show am_G at_P at_cl at_ty _ mt_245 6 [(0, .ref 1826), (1, .int y1), (2, .int 1), (3, .int y3), (4, .int y4)] [.int 1] _ _
                  refine G_ps 3 (pc' := 36) (l' := [(0, .ref 1826), (1, .int y1), (2, .int 1), (3, .int y3), (4, .int y4)]) (st' := [.int (-102)]) rfl ?_
                  refine G_ret rfl rfl rfl ?_
                  show am_G at_P at_cl at_ty _ mt_law 743 [(4, .int 0), (3, .ref 1899), (2, .ref 1826), (1, .ref 1), (0, .ref 0)] [.int (-102), .int (-102)] _ _
                  refine G_ps 5 (pc' := 26) (l' := [(4, .int 6), (3, .ref 1899), (2, .ref 1826), (1, .ref 1), (0, .ref 0)]) (st' := [.ref 0, .int 6]) rfl ?_
                  refine G_alen rfl g0_0 ?_
                  show am_G at_P at_cl at_ty _ mt_law 27 [(4, .int 6), (3, .ref 1899), (2, .ref 1826), (1, .ref 1), (0, .ref 0)] [.int 6, .int 6] _ _
                  refine G_ps 4 (pc' := 1004) (l' := [(4, .int 6), (3, .ref 1899), (2, .ref 1826), (1, .ref 1), (0, .ref 0)]) (st' := [.int 1]) rfl ?_
                  refine G_ret rfl rfl rfl ?_
                  exact ⟨rfl, by simp, by simp⟩
  · rw [if_neg hc1]
    refine G_ps 6 (pc' := 697) (l' := [(4, .int 0), (3, .ref 1899), (2, .ref 1826), (1, .ref 1), (0, .ref 0)]) (st' := [.int 3, .ref 0, .int 1, .int y1, .ref 1]) rfl ?_
    refine G_ild (i := 3) rfl g0_0 (by decide) ?_
    show am_G at_P at_cl at_ty _ mt_law 698 [(4, .int 0), (3, .ref 1899), (2, .ref 1826), (1, .ref 1), (0, .ref 0)] [.int y3, .int 1, .int y1, .ref 1] _ _
    refine G_ps 4 (pc' := 703) (l' := [(4, .int 0), (3, .ref 1899), (2, .ref 1826), (1, .ref 1), (0, .ref 0)]) (st' := [.int 4, .ref 0, .int y3, .int 1, .int y1, .ref 1]) rfl ?_
    refine G_ild (i := 4) rfl g0_0 (by decide) ?_
    show am_G at_P at_cl at_ty _ mt_law 704 [(4, .int 0), (3, .ref 1899), (2, .ref 1826), (1, .ref 1), (0, .ref 0)] [.int y4, .int y3, .int 1, .int y1, .ref 1] _ _
    refine G_cv (i := 88) (j := 14) (b := 1) (M' := mt_14) (xs := [.int y4, .int y3, .int 1, .int y1]) (rest := []) rfl rfl rfl rfl g0_1 (Nat.le_of_ble_eq_true rfl) (Nat.le_of_ble_eq_true rfl) ?_ (fun _ _ _ _ h9 => h9)
    show am_G at_P at_cl at_ty _ mt_14 0 [(0, .ref 1), (1, .int y1), (2, .int 1), (3, .int y3), (4, .int y4)] [] _ _
    refine G_ps 3 (pc' := 4) (l' := [(0, .ref 1), (1, .int y1), (2, .int 1), (3, .int y3), (4, .int y4)]) (st' := [.int y4, .int y3, .ref 1]) rfl ?_
    refine G_cv (i := 202) (j := 24) (b := 1) (M' := mt_24) (xs := [.int y4, .int y3]) (rest := []) rfl rfl rfl rfl g0_1 (Nat.le_of_ble_eq_true rfl) (Nat.le_of_ble_eq_true rfl) ?_ (fun _ _ _ _ h9 => h9)
    show am_G at_P at_cl at_ty _ mt_24 0 [(0, .ref 1), (1, .int y3), (2, .int y4)] [] _ _
    refine G_ps 2 (pc' := if y3 < 0 then 13 else 4) (l' := [(0, .ref 1), (1, .int y3), (2, .int y4)]) (st' := []) rfl ?_
    by_cases hc27 : y3 < 0
    · rw [if_pos hc27]
      refine G_ps 1 (pc' := 15) (l' := [(0, .ref 1), (1, .int y3), (2, .int y4)]) (st' := [.int (-102)]) rfl ?_
      refine G_ret rfl rfl rfl ?_
      show am_G at_P at_cl at_ty _ mt_14 7 [(0, .ref 1), (1, .int y1), (2, .int 1), (3, .int y3), (4, .int y4)] [.int (-102)] _ _
      refine G_ps 4 (pc' := 16) (l' := [(5, .int (-102)), (0, .ref 1), (1, .int y1), (2, .int 1), (3, .int y3), (4, .int y4)]) (st' := [.int (-102)]) rfl ?_
      refine G_ret rfl rfl rfl ?_
      show am_G at_P at_cl at_ty _ mt_law 707 [(4, .int 0), (3, .ref 1899), (2, .ref 1826), (1, .ref 1), (0, .ref 0)] [.int (-102)] _ _
      refine G_ps 5 (pc' := 713) (l' := [(4, .int 0), (3, .ref 1899), (2, .ref 1826), (1, .ref 1), (0, .ref 0)]) (st' := [.int 1, .ref 0, .ref 1826, .int (-102)]) rfl ?_
      refine G_ild (i := 1) rfl g0_0 (by decide) ?_
      show am_G at_P at_cl at_ty _ mt_law 714 [(4, .int 0), (3, .ref 1899), (2, .ref 1826), (1, .ref 1), (0, .ref 0)] [.int y1, .ref 1826, .int (-102)] _ _
      refine G_ps 4 (pc' := 719) (l' := [(4, .int 0), (3, .ref 1899), (2, .ref 1826), (1, .ref 1), (0, .ref 0)]) (st' := [.int 2, .ref 0, .int y1, .ref 1826, .int (-102)]) rfl ?_
      refine G_ild (i := 2) rfl g0_0 (by decide) ?_
      show am_G at_P at_cl at_ty _ mt_law 720 [(4, .int 0), (3, .ref 1899), (2, .ref 1826), (1, .ref 1), (0, .ref 0)] [.int y2, .int y1, .ref 1826, .int (-102)] _ _
      refine G_ps 1 (pc' := if y2 = 0 then 727 else 723) (l' := [(4, .int 0), (3, .ref 1899), (2, .ref 1826), (1, .ref 1), (0, .ref 0)]) (st' := [.int y1, .ref 1826, .int (-102)]) rfl ?_
      by_cases hc28 : y2 = 0
      · rw [if_pos hc28]
        refine G_ps 5 (pc' := 733) (l' := [(4, .int 0), (3, .ref 1899), (2, .ref 1826), (1, .ref 1), (0, .ref 0)]) (st' := [.int 3, .ref 0, .int 0, .int y1, .ref 1826, .int (-102)]) rfl ?_
        refine G_ild (i := 3) rfl g0_0 (by decide) ?_
        show am_G at_P at_cl at_ty _ mt_law 734 [(4, .int 0), (3, .ref 1899), (2, .ref 1826), (1, .ref 1), (0, .ref 0)] [.int y3, .int 0, .int y1, .ref 1826, .int (-102)] _ _
        refine G_ps 4 (pc' := 739) (l' := [(4, .int 0), (3, .ref 1899), (2, .ref 1826), (1, .ref 1), (0, .ref 0)]) (st' := [.int 4, .ref 0, .int y3, .int 0, .int y1, .ref 1826, .int (-102)]) rfl ?_
        refine G_ild (i := 4) rfl g0_0 (by decide) ?_
        show am_G at_P at_cl at_ty _ mt_law 740 [(4, .int 0), (3, .ref 1899), (2, .ref 1826), (1, .ref 1), (0, .ref 0)] [.int y4, .int y3, .int 0, .int y1, .ref 1826, .int (-102)] _ _
        refine G_cv (i := 91) (j := 245) (b := 1826) (M' := mt_245) (xs := [.int y4, .int y3, .int 0, .int y1]) (rest := [.int (-102)]) rfl rfl rfl rfl g0_1826 (Nat.le_of_ble_eq_true rfl) (Nat.le_of_ble_eq_true rfl) ?_ (fun _ _ _ _ h9 => h9)
        show am_G at_P at_cl at_ty _ mt_245 0 [(0, .ref 1826), (1, .int y1), (2, .int 0), (3, .int y3), (4, .int y4)] [] _ _
        refine G_ps 2 (pc' := 3) (l' := [(0, .ref 1826), (1, .int y1), (2, .int 0), (3, .int y3), (4, .int y4)]) (st' := [.int y4, .int y3]) rfl ?_
        refine G_cs (i := 559) (j := 236) (M' := mt_236) (xs := [.int y4, .int y3]) (rest := []) rfl rfl rfl rfl rfl (Nat.le_of_ble_eq_true rfl) (Nat.le_of_ble_eq_true rfl) ?_ (fun _ _ _ _ h9 => h9)
        show am_G at_P at_cl at_ty _ mt_236 0 [(0, .int y3), (1, .int y4)] [] _ _
        refine G_ps 2 (pc' := if y3 < 0 then 13 else 4) (l' := [(0, .int y3), (1, .int y4)]) (st' := []) rfl ?_
        by_cases hc29 : y3 < 0
        · rw [if_pos hc29]
          refine G_ps 2 (pc' := 18) (l' := [(0, .int y3), (1, .int y4)]) (st' := [.int 1]) rfl ?_
          refine G_ret rfl rfl rfl ?_
          show am_G at_P at_cl at_ty _ mt_245 6 [(0, .ref 1826), (1, .int y1), (2, .int 0), (3, .int y3), (4, .int y4)] [.int 1] _ _
          refine G_ps 3 (pc' := 36) (l' := [(0, .ref 1826), (1, .int y1), (2, .int 0), (3, .int y3), (4, .int y4)]) (st' := [.int (-102)]) rfl ?_
          refine G_ret rfl rfl rfl ?_
          show am_G at_P at_cl at_ty _ mt_law 743 [(4, .int 0), (3, .ref 1899), (2, .ref 1826), (1, .ref 1), (0, .ref 0)] [.int (-102), .int (-102)] _ _
          refine G_ps 5 (pc' := 26) (l' := [(4, .int 6), (3, .ref 1899), (2, .ref 1826), (1, .ref 1), (0, .ref 0)]) (st' := [.ref 0, .int 6]) rfl ?_
          refine G_alen rfl g0_0 ?_
          show am_G at_P at_cl at_ty _ mt_law 27 [(4, .int 6), (3, .ref 1899), (2, .ref 1826), (1, .ref 1), (0, .ref 0)] [.int 6, .int 6] _ _
          refine G_ps 4 (pc' := 1004) (l' := [(4, .int 6), (3, .ref 1899), (2, .ref 1826), (1, .ref 1), (0, .ref 0)]) (st' := [.int 1]) rfl ?_
          refine G_ret rfl rfl rfl ?_
          exact ⟨rfl, by simp, by simp⟩
        · rw [if_neg hc29]
          exfalso
          simp only [Int32.lt_iff_toInt_lt, Int32.le_iff_toInt_le, show (0 : Int32).toInt = 0 by decide] at hc27 hc29
          omega
      · rw [if_neg hc28]
        refine G_ps 6 (pc' := 733) (l' := [(4, .int 0), (3, .ref 1899), (2, .ref 1826), (1, .ref 1), (0, .ref 0)]) (st' := [.int 3, .ref 0, .int 1, .int y1, .ref 1826, .int (-102)]) rfl ?_
        refine G_ild (i := 3) rfl g0_0 (by decide) ?_
        show am_G at_P at_cl at_ty _ mt_law 734 [(4, .int 0), (3, .ref 1899), (2, .ref 1826), (1, .ref 1), (0, .ref 0)] [.int y3, .int 1, .int y1, .ref 1826, .int (-102)] _ _
        refine G_ps 4 (pc' := 739) (l' := [(4, .int 0), (3, .ref 1899), (2, .ref 1826), (1, .ref 1), (0, .ref 0)]) (st' := [.int 4, .ref 0, .int y3, .int 1, .int y1, .ref 1826, .int (-102)]) rfl ?_
        refine G_ild (i := 4) rfl g0_0 (by decide) ?_
        show am_G at_P at_cl at_ty _ mt_law 740 [(4, .int 0), (3, .ref 1899), (2, .ref 1826), (1, .ref 1), (0, .ref 0)] [.int y4, .int y3, .int 1, .int y1, .ref 1826, .int (-102)] _ _
        refine G_cv (i := 91) (j := 245) (b := 1826) (M' := mt_245) (xs := [.int y4, .int y3, .int 1, .int y1]) (rest := [.int (-102)]) rfl rfl rfl rfl g0_1826 (Nat.le_of_ble_eq_true rfl) (Nat.le_of_ble_eq_true rfl) ?_ (fun _ _ _ _ h9 => h9)
        show am_G at_P at_cl at_ty _ mt_245 0 [(0, .ref 1826), (1, .int y1), (2, .int 1), (3, .int y3), (4, .int y4)] [] _ _
        refine G_ps 2 (pc' := 3) (l' := [(0, .ref 1826), (1, .int y1), (2, .int 1), (3, .int y3), (4, .int y4)]) (st' := [.int y4, .int y3]) rfl ?_
        refine G_cs (i := 559) (j := 236) (M' := mt_236) (xs := [.int y4, .int y3]) (rest := []) rfl rfl rfl rfl rfl (Nat.le_of_ble_eq_true rfl) (Nat.le_of_ble_eq_true rfl) ?_ (fun _ _ _ _ h9 => h9)
        show am_G at_P at_cl at_ty _ mt_236 0 [(0, .int y3), (1, .int y4)] [] _ _
        refine G_ps 2 (pc' := if y3 < 0 then 13 else 4) (l' := [(0, .int y3), (1, .int y4)]) (st' := []) rfl ?_
        by_cases hc30 : y3 < 0
        · rw [if_pos hc30]
          refine G_ps 2 (pc' := 18) (l' := [(0, .int y3), (1, .int y4)]) (st' := [.int 1]) rfl ?_
          refine G_ret rfl rfl rfl ?_
          show am_G at_P at_cl at_ty _ mt_245 6 [(0, .ref 1826), (1, .int y1), (2, .int 1), (3, .int y3), (4, .int y4)] [.int 1] _ _
          refine G_ps 3 (pc' := 36) (l' := [(0, .ref 1826), (1, .int y1), (2, .int 1), (3, .int y3), (4, .int y4)]) (st' := [.int (-102)]) rfl ?_
          refine G_ret rfl rfl rfl ?_
          show am_G at_P at_cl at_ty _ mt_law 743 [(4, .int 0), (3, .ref 1899), (2, .ref 1826), (1, .ref 1), (0, .ref 0)] [.int (-102), .int (-102)] _ _
          refine G_ps 5 (pc' := 26) (l' := [(4, .int 6), (3, .ref 1899), (2, .ref 1826), (1, .ref 1), (0, .ref 0)]) (st' := [.ref 0, .int 6]) rfl ?_
          refine G_alen rfl g0_0 ?_
          show am_G at_P at_cl at_ty _ mt_law 27 [(4, .int 6), (3, .ref 1899), (2, .ref 1826), (1, .ref 1), (0, .ref 0)] [.int 6, .int 6] _ _
          refine G_ps 4 (pc' := 1004) (l' := [(4, .int 6), (3, .ref 1899), (2, .ref 1826), (1, .ref 1), (0, .ref 0)]) (st' := [.int 1]) rfl ?_
          refine G_ret rfl rfl rfl ?_
          exact ⟨rfl, by simp, by simp⟩
        · rw [if_neg hc30]
          exfalso
          simp only [Int32.lt_iff_toInt_lt, Int32.le_iff_toInt_le, show (0 : Int32).toInt = 0 by decide] at hc27 hc30
          omega
    · rw [if_neg hc27]
      refine G_ps 3 (pc' := if 1 < y3 then 13 else 9) (l' := [(0, .ref 1), (1, .int y3), (2, .int y4)]) (st' := []) rfl ?_
      by_cases hc31 : 1 < y3
      · rw [if_pos hc31]
        refine G_ps 1 (pc' := 15) (l' := [(0, .ref 1), (1, .int y3), (2, .int y4)]) (st' := [.int (-102)]) rfl ?_
        refine G_ret rfl rfl rfl ?_
        show am_G at_P at_cl at_ty _ mt_14 7 [(0, .ref 1), (1, .int y1), (2, .int 1), (3, .int y3), (4, .int y4)] [.int (-102)] _ _
        refine G_ps 4 (pc' := 16) (l' := [(5, .int (-102)), (0, .ref 1), (1, .int y1), (2, .int 1), (3, .int y3), (4, .int y4)]) (st' := [.int (-102)]) rfl ?_
        refine G_ret rfl rfl rfl ?_
        show am_G at_P at_cl at_ty _ mt_law 707 [(4, .int 0), (3, .ref 1899), (2, .ref 1826), (1, .ref 1), (0, .ref 0)] [.int (-102)] _ _
        refine G_ps 5 (pc' := 713) (l' := [(4, .int 0), (3, .ref 1899), (2, .ref 1826), (1, .ref 1), (0, .ref 0)]) (st' := [.int 1, .ref 0, .ref 1826, .int (-102)]) rfl ?_
        refine G_ild (i := 1) rfl g0_0 (by decide) ?_
        show am_G at_P at_cl at_ty _ mt_law 714 [(4, .int 0), (3, .ref 1899), (2, .ref 1826), (1, .ref 1), (0, .ref 0)] [.int y1, .ref 1826, .int (-102)] _ _
        refine G_ps 4 (pc' := 719) (l' := [(4, .int 0), (3, .ref 1899), (2, .ref 1826), (1, .ref 1), (0, .ref 0)]) (st' := [.int 2, .ref 0, .int y1, .ref 1826, .int (-102)]) rfl ?_
        refine G_ild (i := 2) rfl g0_0 (by decide) ?_
        show am_G at_P at_cl at_ty _ mt_law 720 [(4, .int 0), (3, .ref 1899), (2, .ref 1826), (1, .ref 1), (0, .ref 0)] [.int y2, .int y1, .ref 1826, .int (-102)] _ _
        refine G_ps 1 (pc' := if y2 = 0 then 727 else 723) (l' := [(4, .int 0), (3, .ref 1899), (2, .ref 1826), (1, .ref 1), (0, .ref 0)]) (st' := [.int y1, .ref 1826, .int (-102)]) rfl ?_
        by_cases hc32 : y2 = 0
        · rw [if_pos hc32]
          refine G_ps 5 (pc' := 733) (l' := [(4, .int 0), (3, .ref 1899), (2, .ref 1826), (1, .ref 1), (0, .ref 0)]) (st' := [.int 3, .ref 0, .int 0, .int y1, .ref 1826, .int (-102)]) rfl ?_
          refine G_ild (i := 3) rfl g0_0 (by decide) ?_
          show am_G at_P at_cl at_ty _ mt_law 734 [(4, .int 0), (3, .ref 1899), (2, .ref 1826), (1, .ref 1), (0, .ref 0)] [.int y3, .int 0, .int y1, .ref 1826, .int (-102)] _ _
          refine G_ps 4 (pc' := 739) (l' := [(4, .int 0), (3, .ref 1899), (2, .ref 1826), (1, .ref 1), (0, .ref 0)]) (st' := [.int 4, .ref 0, .int y3, .int 0, .int y1, .ref 1826, .int (-102)]) rfl ?_
          refine G_ild (i := 4) rfl g0_0 (by decide) ?_
          show am_G at_P at_cl at_ty _ mt_law 740 [(4, .int 0), (3, .ref 1899), (2, .ref 1826), (1, .ref 1), (0, .ref 0)] [.int y4, .int y3, .int 0, .int y1, .ref 1826, .int (-102)] _ _
          refine G_cv (i := 91) (j := 245) (b := 1826) (M' := mt_245) (xs := [.int y4, .int y3, .int 0, .int y1]) (rest := [.int (-102)]) rfl rfl rfl rfl g0_1826 (Nat.le_of_ble_eq_true rfl) (Nat.le_of_ble_eq_true rfl) ?_ (fun _ _ _ _ h9 => h9)
          show am_G at_P at_cl at_ty _ mt_245 0 [(0, .ref 1826), (1, .int y1), (2, .int 0), (3, .int y3), (4, .int y4)] [] _ _
          refine G_ps 2 (pc' := 3) (l' := [(0, .ref 1826), (1, .int y1), (2, .int 0), (3, .int y3), (4, .int y4)]) (st' := [.int y4, .int y3]) rfl ?_
          refine G_cs (i := 559) (j := 236) (M' := mt_236) (xs := [.int y4, .int y3]) (rest := []) rfl rfl rfl rfl rfl (Nat.le_of_ble_eq_true rfl) (Nat.le_of_ble_eq_true rfl) ?_ (fun _ _ _ _ h9 => h9)
          show am_G at_P at_cl at_ty _ mt_236 0 [(0, .int y3), (1, .int y4)] [] _ _
          refine G_ps 2 (pc' := if y3 < 0 then 13 else 4) (l' := [(0, .int y3), (1, .int y4)]) (st' := []) rfl ?_
          by_cases hc33 : y3 < 0
          · rw [if_pos hc33]
            exfalso
            simp only [Int32.lt_iff_toInt_lt, Int32.le_iff_toInt_le, show (0 : Int32).toInt = 0 by decide, show (1 : Int32).toInt = 1 by decide] at hc27 hc31 hc33
            omega
          · rw [if_neg hc33]
            refine G_ps 3 (pc' := if 1 < y3 then 13 else 9) (l' := [(0, .int y3), (1, .int y4)]) (st' := []) rfl ?_
            by_cases hc34 : 1 < y3
            · rw [if_pos hc34]
              refine G_ps 2 (pc' := 18) (l' := [(0, .int y3), (1, .int y4)]) (st' := [.int 1]) rfl ?_
              refine G_ret rfl rfl rfl ?_
              show am_G at_P at_cl at_ty _ mt_245 6 [(0, .ref 1826), (1, .int y1), (2, .int 0), (3, .int y3), (4, .int y4)] [.int 1] _ _
              refine G_ps 3 (pc' := 36) (l' := [(0, .ref 1826), (1, .int y1), (2, .int 0), (3, .int y3), (4, .int y4)]) (st' := [.int (-102)]) rfl ?_
              refine G_ret rfl rfl rfl ?_
              show am_G at_P at_cl at_ty _ mt_law 743 [(4, .int 0), (3, .ref 1899), (2, .ref 1826), (1, .ref 1), (0, .ref 0)] [.int (-102), .int (-102)] _ _
              refine G_ps 5 (pc' := 26) (l' := [(4, .int 6), (3, .ref 1899), (2, .ref 1826), (1, .ref 1), (0, .ref 0)]) (st' := [.ref 0, .int 6]) rfl ?_
              refine G_alen rfl g0_0 ?_
              show am_G at_P at_cl at_ty _ mt_law 27 [(4, .int 6), (3, .ref 1899), (2, .ref 1826), (1, .ref 1), (0, .ref 0)] [.int 6, .int 6] _ _
              refine G_ps 4 (pc' := 1004) (l' := [(4, .int 6), (3, .ref 1899), (2, .ref 1826), (1, .ref 1), (0, .ref 0)]) (st' := [.int 1]) rfl ?_
              refine G_ret rfl rfl rfl ?_
              exact ⟨rfl, by simp, by simp⟩
            · rw [if_neg hc34]
              exfalso
              simp only [Int32.lt_iff_toInt_lt, Int32.le_iff_toInt_le, show (0 : Int32).toInt = 0 by decide, show (1 : Int32).toInt = 1 by decide] at hc27 hc31 hc33 hc34
              omega
        · rw [if_neg hc32]
          refine G_ps 6 (pc' := 733) (l' := [(4, .int 0), (3, .ref 1899), (2, .ref 1826), (1, .ref 1), (0, .ref 0)]) (st' := [.int 3, .ref 0, .int 1, .int y1, .ref 1826, .int (-102)]) rfl ?_
          refine G_ild (i := 3) rfl g0_0 (by decide) ?_
          show am_G at_P at_cl at_ty _ mt_law 734 [(4, .int 0), (3, .ref 1899), (2, .ref 1826), (1, .ref 1), (0, .ref 0)] [.int y3, .int 1, .int y1, .ref 1826, .int (-102)] _ _
          refine G_ps 4 (pc' := 739) (l' := [(4, .int 0), (3, .ref 1899), (2, .ref 1826), (1, .ref 1), (0, .ref 0)]) (st' := [.int 4, .ref 0, .int y3, .int 1, .int y1, .ref 1826, .int (-102)]) rfl ?_
          refine G_ild (i := 4) rfl g0_0 (by decide) ?_
          show am_G at_P at_cl at_ty _ mt_law 740 [(4, .int 0), (3, .ref 1899), (2, .ref 1826), (1, .ref 1), (0, .ref 0)] [.int y4, .int y3, .int 1, .int y1, .ref 1826, .int (-102)] _ _
          refine G_cv (i := 91) (j := 245) (b := 1826) (M' := mt_245) (xs := [.int y4, .int y3, .int 1, .int y1]) (rest := [.int (-102)]) rfl rfl rfl rfl g0_1826 (Nat.le_of_ble_eq_true rfl) (Nat.le_of_ble_eq_true rfl) ?_ (fun _ _ _ _ h9 => h9)
          show am_G at_P at_cl at_ty _ mt_245 0 [(0, .ref 1826), (1, .int y1), (2, .int 1), (3, .int y3), (4, .int y4)] [] _ _
          refine G_ps 2 (pc' := 3) (l' := [(0, .ref 1826), (1, .int y1), (2, .int 1), (3, .int y3), (4, .int y4)]) (st' := [.int y4, .int y3]) rfl ?_
          refine G_cs (i := 559) (j := 236) (M' := mt_236) (xs := [.int y4, .int y3]) (rest := []) rfl rfl rfl rfl rfl (Nat.le_of_ble_eq_true rfl) (Nat.le_of_ble_eq_true rfl) ?_ (fun _ _ _ _ h9 => h9)
          show am_G at_P at_cl at_ty _ mt_236 0 [(0, .int y3), (1, .int y4)] [] _ _
          refine G_ps 2 (pc' := if y3 < 0 then 13 else 4) (l' := [(0, .int y3), (1, .int y4)]) (st' := []) rfl ?_
          by_cases hc35 : y3 < 0
          · rw [if_pos hc35]
            exfalso
            simp only [Int32.lt_iff_toInt_lt, Int32.le_iff_toInt_le, show (0 : Int32).toInt = 0 by decide, show (1 : Int32).toInt = 1 by decide] at hc27 hc31 hc35
            omega
          · rw [if_neg hc35]
            refine G_ps 3 (pc' := if 1 < y3 then 13 else 9) (l' := [(0, .int y3), (1, .int y4)]) (st' := []) rfl ?_
            by_cases hc36 : 1 < y3
            · rw [if_pos hc36]
              refine G_ps 2 (pc' := 18) (l' := [(0, .int y3), (1, .int y4)]) (st' := [.int 1]) rfl ?_
              refine G_ret rfl rfl rfl ?_
              show am_G at_P at_cl at_ty _ mt_245 6 [(0, .ref 1826), (1, .int y1), (2, .int 1), (3, .int y3), (4, .int y4)] [.int 1] _ _
              refine G_ps 3 (pc' := 36) (l' := [(0, .ref 1826), (1, .int y1), (2, .int 1), (3, .int y3), (4, .int y4)]) (st' := [.int (-102)]) rfl ?_
              refine G_ret rfl rfl rfl ?_
              show am_G at_P at_cl at_ty _ mt_law 743 [(4, .int 0), (3, .ref 1899), (2, .ref 1826), (1, .ref 1), (0, .ref 0)] [.int (-102), .int (-102)] _ _
              refine G_ps 5 (pc' := 26) (l' := [(4, .int 6), (3, .ref 1899), (2, .ref 1826), (1, .ref 1), (0, .ref 0)]) (st' := [.ref 0, .int 6]) rfl ?_
              refine G_alen rfl g0_0 ?_
              show am_G at_P at_cl at_ty _ mt_law 27 [(4, .int 6), (3, .ref 1899), (2, .ref 1826), (1, .ref 1), (0, .ref 0)] [.int 6, .int 6] _ _
              refine G_ps 4 (pc' := 1004) (l' := [(4, .int 6), (3, .ref 1899), (2, .ref 1826), (1, .ref 1), (0, .ref 0)]) (st' := [.int 1]) rfl ?_
              refine G_ret rfl rfl rfl ?_
              exact ⟨rfl, by simp, by simp⟩
            · rw [if_neg hc36]
              exfalso
              simp only [Int32.lt_iff_toInt_lt, Int32.le_iff_toInt_le, show (0 : Int32).toInt = 0 by decide, show (1 : Int32).toInt = 1 by decide] at hc27 hc31 hc35 hc36
              omega
      · rw [if_neg hc31]
        refine G_ps 2 (pc' := if 0 ≤ y4 then 16 else 13) (l' := [(0, .ref 1), (1, .int y3), (2, .int y4)]) (st' := []) rfl ?_
        by_cases hc37 : 0 ≤ y4
        · rw [if_pos hc37]
          refine G_ps 1 (pc' := 17) (l' := [(0, .ref 1), (1, .int y3), (2, .int y4)]) (st' := [.ref 1]) rfl ?_
          refine G_get (i := 60) (ci := 0) (k := 6) (v := .ref 406) rfl rfl g0_1 rfl ?_
          show am_G at_P at_cl at_ty _ mt_24 20 [(0, .ref 1), (1, .int y3), (2, .int y4)] [.ref 406] _ _
          refine G_get (i := 96) (ci := 10) (k := 2) (v := .ref 407) rfl rfl g0_406 rfl ?_
          show am_G at_P at_cl at_ty _ mt_24 23 [(0, .ref 1), (1, .int y3), (2, .int y4)] [.ref 407] _ _
          refine G_get (i := 129) (ci := 11) (k := 2) (v := .int 0) rfl rfl g0_407 rfl ?_
          show am_G at_P at_cl at_ty _ mt_24 26 [(0, .ref 1), (1, .int y3), (2, .int y4)] [.int 0] _ _
          refine G_ps 2 (pc' := 35) (l' := [(0, .ref 1), (1, .int y3), (2, .int y4)]) (st' := [.int (-103)]) rfl ?_
          refine G_ret rfl rfl rfl ?_
          show am_G at_P at_cl at_ty _ mt_14 7 [(0, .ref 1), (1, .int y1), (2, .int 1), (3, .int y3), (4, .int y4)] [.int (-103)] _ _
          refine G_ps 4 (pc' := 16) (l' := [(5, .int (-103)), (0, .ref 1), (1, .int y1), (2, .int 1), (3, .int y3), (4, .int y4)]) (st' := [.int (-103)]) rfl ?_
          refine G_ret rfl rfl rfl ?_
          show am_G at_P at_cl at_ty _ mt_law 707 [(4, .int 0), (3, .ref 1899), (2, .ref 1826), (1, .ref 1), (0, .ref 0)] [.int (-103)] _ _
          refine G_ps 5 (pc' := 713) (l' := [(4, .int 0), (3, .ref 1899), (2, .ref 1826), (1, .ref 1), (0, .ref 0)]) (st' := [.int 1, .ref 0, .ref 1826, .int (-103)]) rfl ?_
          refine G_ild (i := 1) rfl g0_0 (by decide) ?_
          show am_G at_P at_cl at_ty _ mt_law 714 [(4, .int 0), (3, .ref 1899), (2, .ref 1826), (1, .ref 1), (0, .ref 0)] [.int y1, .ref 1826, .int (-103)] _ _
          refine G_ps 4 (pc' := 719) (l' := [(4, .int 0), (3, .ref 1899), (2, .ref 1826), (1, .ref 1), (0, .ref 0)]) (st' := [.int 2, .ref 0, .int y1, .ref 1826, .int (-103)]) rfl ?_
          refine G_ild (i := 2) rfl g0_0 (by decide) ?_
          show am_G at_P at_cl at_ty _ mt_law 720 [(4, .int 0), (3, .ref 1899), (2, .ref 1826), (1, .ref 1), (0, .ref 0)] [.int y2, .int y1, .ref 1826, .int (-103)] _ _
          refine G_ps 1 (pc' := if y2 = 0 then 727 else 723) (l' := [(4, .int 0), (3, .ref 1899), (2, .ref 1826), (1, .ref 1), (0, .ref 0)]) (st' := [.int y1, .ref 1826, .int (-103)]) rfl ?_
          by_cases hc38 : y2 = 0
          · rw [if_pos hc38]
            refine G_ps 5 (pc' := 733) (l' := [(4, .int 0), (3, .ref 1899), (2, .ref 1826), (1, .ref 1), (0, .ref 0)]) (st' := [.int 3, .ref 0, .int 0, .int y1, .ref 1826, .int (-103)]) rfl ?_
            refine G_ild (i := 3) rfl g0_0 (by decide) ?_
            show am_G at_P at_cl at_ty _ mt_law 734 [(4, .int 0), (3, .ref 1899), (2, .ref 1826), (1, .ref 1), (0, .ref 0)] [.int y3, .int 0, .int y1, .ref 1826, .int (-103)] _ _
            refine G_ps 4 (pc' := 739) (l' := [(4, .int 0), (3, .ref 1899), (2, .ref 1826), (1, .ref 1), (0, .ref 0)]) (st' := [.int 4, .ref 0, .int y3, .int 0, .int y1, .ref 1826, .int (-103)]) rfl ?_
            refine G_ild (i := 4) rfl g0_0 (by decide) ?_
            show am_G at_P at_cl at_ty _ mt_law 740 [(4, .int 0), (3, .ref 1899), (2, .ref 1826), (1, .ref 1), (0, .ref 0)] [.int y4, .int y3, .int 0, .int y1, .ref 1826, .int (-103)] _ _
            refine G_cv (i := 91) (j := 245) (b := 1826) (M' := mt_245) (xs := [.int y4, .int y3, .int 0, .int y1]) (rest := [.int (-103)]) rfl rfl rfl rfl g0_1826 (Nat.le_of_ble_eq_true rfl) (Nat.le_of_ble_eq_true rfl) ?_ (fun _ _ _ _ h9 => h9)
            show am_G at_P at_cl at_ty _ mt_245 0 [(0, .ref 1826), (1, .int y1), (2, .int 0), (3, .int y3), (4, .int y4)] [] _ _
            refine G_ps 2 (pc' := 3) (l' := [(0, .ref 1826), (1, .int y1), (2, .int 0), (3, .int y3), (4, .int y4)]) (st' := [.int y4, .int y3]) rfl ?_
            refine G_cs (i := 559) (j := 236) (M' := mt_236) (xs := [.int y4, .int y3]) (rest := []) rfl rfl rfl rfl rfl (Nat.le_of_ble_eq_true rfl) (Nat.le_of_ble_eq_true rfl) ?_ (fun _ _ _ _ h9 => h9)
            show am_G at_P at_cl at_ty _ mt_236 0 [(0, .int y3), (1, .int y4)] [] _ _
            refine G_ps 2 (pc' := if y3 < 0 then 13 else 4) (l' := [(0, .int y3), (1, .int y4)]) (st' := []) rfl ?_
            by_cases hc39 : y3 < 0
            · rw [if_pos hc39]
              exfalso
              simp only [Int32.lt_iff_toInt_lt, Int32.le_iff_toInt_le, show (0 : Int32).toInt = 0 by decide, show (1 : Int32).toInt = 1 by decide] at hc27 hc31 hc37 hc39
              omega
            · rw [if_neg hc39]
              refine G_ps 3 (pc' := if 1 < y3 then 13 else 9) (l' := [(0, .int y3), (1, .int y4)]) (st' := []) rfl ?_
              by_cases hc40 : 1 < y3
              · rw [if_pos hc40]
                exfalso
                simp only [Int32.lt_iff_toInt_lt, Int32.le_iff_toInt_le, show (0 : Int32).toInt = 0 by decide, show (1 : Int32).toInt = 1 by decide] at hc27 hc31 hc37 hc39 hc40
                omega
              · rw [if_neg hc40]
                refine G_ps 2 (pc' := if 0 ≤ y4 then 17 else 13) (l' := [(0, .int y3), (1, .int y4)]) (st' := []) rfl ?_
                by_cases hc41 : 0 ≤ y4
                · rw [if_pos hc41]
                  refine G_ps 1 (pc' := 18) (l' := [(0, .int y3), (1, .int y4)]) (st' := [.int 0]) rfl ?_
                  refine G_ret rfl rfl rfl ?_
                  show am_G at_P at_cl at_ty _ mt_245 6 [(0, .ref 1826), (1, .int y1), (2, .int 0), (3, .int y3), (4, .int y4)] [.int 0] _ _
                  refine G_ps 2 (pc' := 15) (l' := [(0, .ref 1826), (1, .int y1), (2, .int 0), (3, .int y3), (4, .int y4)]) (st' := [.ref 1826]) rfl ?_
                  refine G_cv (i := 563) (j := 235) (b := 1826) (M' := mt_235) (xs := []) (rest := []) rfl rfl rfl rfl g0_1826 (Nat.le_of_ble_eq_true rfl) (Nat.le_of_ble_eq_true rfl) ?_ (fun _ _ _ _ h9 => h9)
                  show am_G at_P at_cl at_ty _ mt_235 0 [(0, .ref 1826)] [] _ _
                  refine G_ps 1 (pc' := 1) (l' := [(0, .ref 1826)]) (st' := [.ref 1826]) rfl ?_
                  refine G_get (i := 414) (ci := 13) (k := 77) (v := .int 0) rfl rfl g0_1826 rfl ?_
                  show am_G at_P at_cl at_ty _ mt_235 4 [(0, .ref 1826)] [.int 0] _ _
                  refine G_ps 3 (pc' := 12) (l' := [(0, .ref 1826)]) (st' := [.int 1]) rfl ?_
                  refine G_ret rfl rfl rfl ?_
                  show am_G at_P at_cl at_ty _ mt_245 18 [(0, .ref 1826), (1, .int y1), (2, .int 0), (3, .int y3), (4, .int y4)] [.int 1] _ _
                  refine G_ps 3 (pc' := 36) (l' := [(0, .ref 1826), (1, .int y1), (2, .int 0), (3, .int y3), (4, .int y4)]) (st' := [.int (-103)]) rfl ?_
                  refine G_ret rfl rfl rfl ?_
                  show am_G at_P at_cl at_ty _ mt_law 743 [(4, .int 0), (3, .ref 1899), (2, .ref 1826), (1, .ref 1), (0, .ref 0)] [.int (-103), .int (-103)] _ _
                  refine G_ps 5 (pc' := 26) (l' := [(4, .int 6), (3, .ref 1899), (2, .ref 1826), (1, .ref 1), (0, .ref 0)]) (st' := [.ref 0, .int 6]) rfl ?_
                  refine G_alen rfl g0_0 ?_
                  show am_G at_P at_cl at_ty _ mt_law 27 [(4, .int 6), (3, .ref 1899), (2, .ref 1826), (1, .ref 1), (0, .ref 0)] [.int 6, .int 6] _ _
                  refine G_ps 4 (pc' := 1004) (l' := [(4, .int 6), (3, .ref 1899), (2, .ref 1826), (1, .ref 1), (0, .ref 0)]) (st' := [.int 1]) rfl ?_
                  refine G_ret rfl rfl rfl ?_
                  exact ⟨rfl, by simp, by simp⟩
                · rw [if_neg hc41]
                  exfalso
                  simp only [Int32.lt_iff_toInt_lt, Int32.le_iff_toInt_le, show (0 : Int32).toInt = 0 by decide, show (1 : Int32).toInt = 1 by decide] at hc27 hc31 hc37 hc39 hc40 hc41
                  omega
          · rw [if_neg hc38]
            refine G_ps 6 (pc' := 733) (l' := [(4, .int 0), (3, .ref 1899), (2, .ref 1826), (1, .ref 1), (0, .ref 0)]) (st' := [.int 3, .ref 0, .int 1, .int y1, .ref 1826, .int (-103)]) rfl ?_
            refine G_ild (i := 3) rfl g0_0 (by decide) ?_
            show am_G at_P at_cl at_ty _ mt_law 734 [(4, .int 0), (3, .ref 1899), (2, .ref 1826), (1, .ref 1), (0, .ref 0)] [.int y3, .int 1, .int y1, .ref 1826, .int (-103)] _ _
            refine G_ps 4 (pc' := 739) (l' := [(4, .int 0), (3, .ref 1899), (2, .ref 1826), (1, .ref 1), (0, .ref 0)]) (st' := [.int 4, .ref 0, .int y3, .int 1, .int y1, .ref 1826, .int (-103)]) rfl ?_
            refine G_ild (i := 4) rfl g0_0 (by decide) ?_
            show am_G at_P at_cl at_ty _ mt_law 740 [(4, .int 0), (3, .ref 1899), (2, .ref 1826), (1, .ref 1), (0, .ref 0)] [.int y4, .int y3, .int 1, .int y1, .ref 1826, .int (-103)] _ _
            refine G_cv (i := 91) (j := 245) (b := 1826) (M' := mt_245) (xs := [.int y4, .int y3, .int 1, .int y1]) (rest := [.int (-103)]) rfl rfl rfl rfl g0_1826 (Nat.le_of_ble_eq_true rfl) (Nat.le_of_ble_eq_true rfl) ?_ (fun _ _ _ _ h9 => h9)
            show am_G at_P at_cl at_ty _ mt_245 0 [(0, .ref 1826), (1, .int y1), (2, .int 1), (3, .int y3), (4, .int y4)] [] _ _
            refine G_ps 2 (pc' := 3) (l' := [(0, .ref 1826), (1, .int y1), (2, .int 1), (3, .int y3), (4, .int y4)]) (st' := [.int y4, .int y3]) rfl ?_
            refine G_cs (i := 559) (j := 236) (M' := mt_236) (xs := [.int y4, .int y3]) (rest := []) rfl rfl rfl rfl rfl (Nat.le_of_ble_eq_true rfl) (Nat.le_of_ble_eq_true rfl) ?_ (fun _ _ _ _ h9 => h9)
            show am_G at_P at_cl at_ty _ mt_236 0 [(0, .int y3), (1, .int y4)] [] _ _
            refine G_ps 2 (pc' := if y3 < 0 then 13 else 4) (l' := [(0, .int y3), (1, .int y4)]) (st' := []) rfl ?_
            by_cases hc42 : y3 < 0
            · rw [if_pos hc42]
              exfalso
              simp only [Int32.lt_iff_toInt_lt, Int32.le_iff_toInt_le, show (0 : Int32).toInt = 0 by decide, show (1 : Int32).toInt = 1 by decide] at hc27 hc31 hc37 hc42
              omega
            · rw [if_neg hc42]
              refine G_ps 3 (pc' := if 1 < y3 then 13 else 9) (l' := [(0, .int y3), (1, .int y4)]) (st' := []) rfl ?_
              by_cases hc43 : 1 < y3
              · rw [if_pos hc43]
                exfalso
                simp only [Int32.lt_iff_toInt_lt, Int32.le_iff_toInt_le, show (0 : Int32).toInt = 0 by decide, show (1 : Int32).toInt = 1 by decide] at hc27 hc31 hc37 hc42 hc43
                omega
              · rw [if_neg hc43]
                refine G_ps 2 (pc' := if 0 ≤ y4 then 17 else 13) (l' := [(0, .int y3), (1, .int y4)]) (st' := []) rfl ?_
                by_cases hc44 : 0 ≤ y4
                · rw [if_pos hc44]
                  refine G_ps 1 (pc' := 18) (l' := [(0, .int y3), (1, .int y4)]) (st' := [.int 0]) rfl ?_
                  refine G_ret rfl rfl rfl ?_
                  show am_G at_P at_cl at_ty _ mt_245 6 [(0, .ref 1826), (1, .int y1), (2, .int 1), (3, .int y3), (4, .int y4)] [.int 0] _ _
                  refine G_ps 2 (pc' := 15) (l' := [(0, .ref 1826), (1, .int y1), (2, .int 1), (3, .int y3), (4, .int y4)]) (st' := [.ref 1826]) rfl ?_
                  refine G_cv (i := 563) (j := 235) (b := 1826) (M' := mt_235) (xs := []) (rest := []) rfl rfl rfl rfl g0_1826 (Nat.le_of_ble_eq_true rfl) (Nat.le_of_ble_eq_true rfl) ?_ (fun _ _ _ _ h9 => h9)
                  show am_G at_P at_cl at_ty _ mt_235 0 [(0, .ref 1826)] [] _ _
                  refine G_ps 1 (pc' := 1) (l' := [(0, .ref 1826)]) (st' := [.ref 1826]) rfl ?_
                  refine G_get (i := 414) (ci := 13) (k := 77) (v := .int 0) rfl rfl g0_1826 rfl ?_
                  show am_G at_P at_cl at_ty _ mt_235 4 [(0, .ref 1826)] [.int 0] _ _
                  refine G_ps 3 (pc' := 12) (l' := [(0, .ref 1826)]) (st' := [.int 1]) rfl ?_
                  refine G_ret rfl rfl rfl ?_
                  show am_G at_P at_cl at_ty _ mt_245 18 [(0, .ref 1826), (1, .int y1), (2, .int 1), (3, .int y3), (4, .int y4)] [.int 1] _ _
                  refine G_ps 3 (pc' := 36) (l' := [(0, .ref 1826), (1, .int y1), (2, .int 1), (3, .int y3), (4, .int y4)]) (st' := [.int (-103)]) rfl ?_
                  refine G_ret rfl rfl rfl ?_
                  show am_G at_P at_cl at_ty _ mt_law 743 [(4, .int 0), (3, .ref 1899), (2, .ref 1826), (1, .ref 1), (0, .ref 0)] [.int (-103), .int (-103)] _ _
                  refine G_ps 5 (pc' := 26) (l' := [(4, .int 6), (3, .ref 1899), (2, .ref 1826), (1, .ref 1), (0, .ref 0)]) (st' := [.ref 0, .int 6]) rfl ?_
                  refine G_alen rfl g0_0 ?_
                  show am_G at_P at_cl at_ty _ mt_law 27 [(4, .int 6), (3, .ref 1899), (2, .ref 1826), (1, .ref 1), (0, .ref 0)] [.int 6, .int 6] _ _
                  refine G_ps 4 (pc' := 1004) (l' := [(4, .int 6), (3, .ref 1899), (2, .ref 1826), (1, .ref 1), (0, .ref 0)]) (st' := [.int 1]) rfl ?_
                  refine G_ret rfl rfl rfl ?_
                  exact ⟨rfl, by simp, by simp⟩
                · rw [if_neg hc44]
                  exfalso
                  simp only [Int32.lt_iff_toInt_lt, Int32.le_iff_toInt_le, show (0 : Int32).toInt = 0 by decide, show (1 : Int32).toInt = 1 by decide] at hc27 hc31 hc37 hc42 hc43 hc44
                  omega
        · rw [if_neg hc37]
          refine G_ps 1 (pc' := 15) (l' := [(0, .ref 1), (1, .int y3), (2, .int y4)]) (st' := [.int (-102)]) rfl ?_
          refine G_ret rfl rfl rfl ?_
          show am_G at_P at_cl at_ty _ mt_14 7 [(0, .ref 1), (1, .int y1), (2, .int 1), (3, .int y3), (4, .int y4)] [.int (-102)] _ _
          refine G_ps 4 (pc' := 16) (l' := [(5, .int (-102)), (0, .ref 1), (1, .int y1), (2, .int 1), (3, .int y3), (4, .int y4)]) (st' := [.int (-102)]) rfl ?_
          refine G_ret rfl rfl rfl ?_
          show am_G at_P at_cl at_ty _ mt_law 707 [(4, .int 0), (3, .ref 1899), (2, .ref 1826), (1, .ref 1), (0, .ref 0)] [.int (-102)] _ _
          refine G_ps 5 (pc' := 713) (l' := [(4, .int 0), (3, .ref 1899), (2, .ref 1826), (1, .ref 1), (0, .ref 0)]) (st' := [.int 1, .ref 0, .ref 1826, .int (-102)]) rfl ?_
          refine G_ild (i := 1) rfl g0_0 (by decide) ?_
          show am_G at_P at_cl at_ty _ mt_law 714 [(4, .int 0), (3, .ref 1899), (2, .ref 1826), (1, .ref 1), (0, .ref 0)] [.int y1, .ref 1826, .int (-102)] _ _
          refine G_ps 4 (pc' := 719) (l' := [(4, .int 0), (3, .ref 1899), (2, .ref 1826), (1, .ref 1), (0, .ref 0)]) (st' := [.int 2, .ref 0, .int y1, .ref 1826, .int (-102)]) rfl ?_
          refine G_ild (i := 2) rfl g0_0 (by decide) ?_
          show am_G at_P at_cl at_ty _ mt_law 720 [(4, .int 0), (3, .ref 1899), (2, .ref 1826), (1, .ref 1), (0, .ref 0)] [.int y2, .int y1, .ref 1826, .int (-102)] _ _
          refine G_ps 1 (pc' := if y2 = 0 then 727 else 723) (l' := [(4, .int 0), (3, .ref 1899), (2, .ref 1826), (1, .ref 1), (0, .ref 0)]) (st' := [.int y1, .ref 1826, .int (-102)]) rfl ?_
          by_cases hc45 : y2 = 0
          · rw [if_pos hc45]
            refine G_ps 5 (pc' := 733) (l' := [(4, .int 0), (3, .ref 1899), (2, .ref 1826), (1, .ref 1), (0, .ref 0)]) (st' := [.int 3, .ref 0, .int 0, .int y1, .ref 1826, .int (-102)]) rfl ?_
            refine G_ild (i := 3) rfl g0_0 (by decide) ?_
            show am_G at_P at_cl at_ty _ mt_law 734 [(4, .int 0), (3, .ref 1899), (2, .ref 1826), (1, .ref 1), (0, .ref 0)] [.int y3, .int 0, .int y1, .ref 1826, .int (-102)] _ _
            refine G_ps 4 (pc' := 739) (l' := [(4, .int 0), (3, .ref 1899), (2, .ref 1826), (1, .ref 1), (0, .ref 0)]) (st' := [.int 4, .ref 0, .int y3, .int 0, .int y1, .ref 1826, .int (-102)]) rfl ?_
            refine G_ild (i := 4) rfl g0_0 (by decide) ?_
            show am_G at_P at_cl at_ty _ mt_law 740 [(4, .int 0), (3, .ref 1899), (2, .ref 1826), (1, .ref 1), (0, .ref 0)] [.int y4, .int y3, .int 0, .int y1, .ref 1826, .int (-102)] _ _
            refine G_cv (i := 91) (j := 245) (b := 1826) (M' := mt_245) (xs := [.int y4, .int y3, .int 0, .int y1]) (rest := [.int (-102)]) rfl rfl rfl rfl g0_1826 (Nat.le_of_ble_eq_true rfl) (Nat.le_of_ble_eq_true rfl) ?_ (fun _ _ _ _ h9 => h9)
            show am_G at_P at_cl at_ty _ mt_245 0 [(0, .ref 1826), (1, .int y1), (2, .int 0), (3, .int y3), (4, .int y4)] [] _ _
            refine G_ps 2 (pc' := 3) (l' := [(0, .ref 1826), (1, .int y1), (2, .int 0), (3, .int y3), (4, .int y4)]) (st' := [.int y4, .int y3]) rfl ?_
            refine G_cs (i := 559) (j := 236) (M' := mt_236) (xs := [.int y4, .int y3]) (rest := []) rfl rfl rfl rfl rfl (Nat.le_of_ble_eq_true rfl) (Nat.le_of_ble_eq_true rfl) ?_ (fun _ _ _ _ h9 => h9)
            show am_G at_P at_cl at_ty _ mt_236 0 [(0, .int y3), (1, .int y4)] [] _ _
            refine G_ps 2 (pc' := if y3 < 0 then 13 else 4) (l' := [(0, .int y3), (1, .int y4)]) (st' := []) rfl ?_
            by_cases hc46 : y3 < 0
            · rw [if_pos hc46]
              exfalso
              simp only [Int32.lt_iff_toInt_lt, Int32.le_iff_toInt_le, show (0 : Int32).toInt = 0 by decide, show (1 : Int32).toInt = 1 by decide] at hc27 hc31 hc37 hc46
              omega
            · rw [if_neg hc46]
              refine G_ps 3 (pc' := if 1 < y3 then 13 else 9) (l' := [(0, .int y3), (1, .int y4)]) (st' := []) rfl ?_
              by_cases hc47 : 1 < y3
              · rw [if_pos hc47]
                exfalso
                simp only [Int32.lt_iff_toInt_lt, Int32.le_iff_toInt_le, show (0 : Int32).toInt = 0 by decide, show (1 : Int32).toInt = 1 by decide] at hc27 hc31 hc37 hc46 hc47
                omega
              · rw [if_neg hc47]
                refine G_ps 2 (pc' := if 0 ≤ y4 then 17 else 13) (l' := [(0, .int y3), (1, .int y4)]) (st' := []) rfl ?_
                by_cases hc48 : 0 ≤ y4
                · rw [if_pos hc48]
                  exfalso
                  simp only [Int32.lt_iff_toInt_lt, Int32.le_iff_toInt_le, show (0 : Int32).toInt = 0 by decide, show (1 : Int32).toInt = 1 by decide] at hc27 hc31 hc37 hc46 hc47 hc48
                  omega
                · rw [if_neg hc48]
                  refine G_ps 2 (pc' := 18) (l' := [(0, .int y3), (1, .int y4)]) (st' := [.int 1]) rfl ?_
                  refine G_ret rfl rfl rfl ?_
                  show am_G at_P at_cl at_ty _ mt_245 6 [(0, .ref 1826), (1, .int y1), (2, .int 0), (3, .int y3), (4, .int y4)] [.int 1] _ _
                  refine G_ps 3 (pc' := 36) (l' := [(0, .ref 1826), (1, .int y1), (2, .int 0), (3, .int y3), (4, .int y4)]) (st' := [.int (-102)]) rfl ?_
                  refine G_ret rfl rfl rfl ?_
                  show am_G at_P at_cl at_ty _ mt_law 743 [(4, .int 0), (3, .ref 1899), (2, .ref 1826), (1, .ref 1), (0, .ref 0)] [.int (-102), .int (-102)] _ _
                  refine G_ps 5 (pc' := 26) (l' := [(4, .int 6), (3, .ref 1899), (2, .ref 1826), (1, .ref 1), (0, .ref 0)]) (st' := [.ref 0, .int 6]) rfl ?_
                  refine G_alen rfl g0_0 ?_
                  show am_G at_P at_cl at_ty _ mt_law 27 [(4, .int 6), (3, .ref 1899), (2, .ref 1826), (1, .ref 1), (0, .ref 0)] [.int 6, .int 6] _ _
                  refine G_ps 4 (pc' := 1004) (l' := [(4, .int 6), (3, .ref 1899), (2, .ref 1826), (1, .ref 1), (0, .ref 0)]) (st' := [.int 1]) rfl ?_
                  refine G_ret rfl rfl rfl ?_
                  exact ⟨rfl, by simp, by simp⟩
          · rw [if_neg hc45]
            refine G_ps 6 (pc' := 733) (l' := [(4, .int 0), (3, .ref 1899), (2, .ref 1826), (1, .ref 1), (0, .ref 0)]) (st' := [.int 3, .ref 0, .int 1, .int y1, .ref 1826, .int (-102)]) rfl ?_
            refine G_ild (i := 3) rfl g0_0 (by decide) ?_
            show am_G at_P at_cl at_ty _ mt_law 734 [(4, .int 0), (3, .ref 1899), (2, .ref 1826), (1, .ref 1), (0, .ref 0)] [.int y3, .int 1, .int y1, .ref 1826, .int (-102)] _ _
            refine G_ps 4 (pc' := 739) (l' := [(4, .int 0), (3, .ref 1899), (2, .ref 1826), (1, .ref 1), (0, .ref 0)]) (st' := [.int 4, .ref 0, .int y3, .int 1, .int y1, .ref 1826, .int (-102)]) rfl ?_
            refine G_ild (i := 4) rfl g0_0 (by decide) ?_
            show am_G at_P at_cl at_ty _ mt_law 740 [(4, .int 0), (3, .ref 1899), (2, .ref 1826), (1, .ref 1), (0, .ref 0)] [.int y4, .int y3, .int 1, .int y1, .ref 1826, .int (-102)] _ _
            refine G_cv (i := 91) (j := 245) (b := 1826) (M' := mt_245) (xs := [.int y4, .int y3, .int 1, .int y1]) (rest := [.int (-102)]) rfl rfl rfl rfl g0_1826 (Nat.le_of_ble_eq_true rfl) (Nat.le_of_ble_eq_true rfl) ?_ (fun _ _ _ _ h9 => h9)
            show am_G at_P at_cl at_ty _ mt_245 0 [(0, .ref 1826), (1, .int y1), (2, .int 1), (3, .int y3), (4, .int y4)] [] _ _
            refine G_ps 2 (pc' := 3) (l' := [(0, .ref 1826), (1, .int y1), (2, .int 1), (3, .int y3), (4, .int y4)]) (st' := [.int y4, .int y3]) rfl ?_
            refine G_cs (i := 559) (j := 236) (M' := mt_236) (xs := [.int y4, .int y3]) (rest := []) rfl rfl rfl rfl rfl (Nat.le_of_ble_eq_true rfl) (Nat.le_of_ble_eq_true rfl) ?_ (fun _ _ _ _ h9 => h9)
            show am_G at_P at_cl at_ty _ mt_236 0 [(0, .int y3), (1, .int y4)] [] _ _
            refine G_ps 2 (pc' := if y3 < 0 then 13 else 4) (l' := [(0, .int y3), (1, .int y4)]) (st' := []) rfl ?_
            by_cases hc49 : y3 < 0
            · rw [if_pos hc49]
              exfalso
              simp only [Int32.lt_iff_toInt_lt, Int32.le_iff_toInt_le, show (0 : Int32).toInt = 0 by decide, show (1 : Int32).toInt = 1 by decide] at hc27 hc31 hc37 hc49
              omega
            · rw [if_neg hc49]
              refine G_ps 3 (pc' := if 1 < y3 then 13 else 9) (l' := [(0, .int y3), (1, .int y4)]) (st' := []) rfl ?_
              by_cases hc50 : 1 < y3
              · rw [if_pos hc50]
                exfalso
                simp only [Int32.lt_iff_toInt_lt, Int32.le_iff_toInt_le, show (0 : Int32).toInt = 0 by decide, show (1 : Int32).toInt = 1 by decide] at hc27 hc31 hc37 hc49 hc50
                omega
              · rw [if_neg hc50]
                refine G_ps 2 (pc' := if 0 ≤ y4 then 17 else 13) (l' := [(0, .int y3), (1, .int y4)]) (st' := []) rfl ?_
                by_cases hc51 : 0 ≤ y4
                · rw [if_pos hc51]
                  exfalso
                  simp only [Int32.lt_iff_toInt_lt, Int32.le_iff_toInt_le, show (0 : Int32).toInt = 0 by decide, show (1 : Int32).toInt = 1 by decide] at hc27 hc31 hc37 hc49 hc50 hc51
                  omega
                · rw [if_neg hc51]
                  refine G_ps 2 (pc' := 18) (l' := [(0, .int y3), (1, .int y4)]) (st' := [.int 1]) rfl ?_
                  refine G_ret rfl rfl rfl ?_
                  show am_G at_P at_cl at_ty _ mt_245 6 [(0, .ref 1826), (1, .int y1), (2, .int 1), (3, .int y3), (4, .int y4)] [.int 1] _ _
                  refine G_ps 3 (pc' := 36) (l' := [(0, .ref 1826), (1, .int y1), (2, .int 1), (3, .int y3), (4, .int y4)]) (st' := [.int (-102)]) rfl ?_
                  refine G_ret rfl rfl rfl ?_
                  show am_G at_P at_cl at_ty _ mt_law 743 [(4, .int 0), (3, .ref 1899), (2, .ref 1826), (1, .ref 1), (0, .ref 0)] [.int (-102), .int (-102)] _ _
                  refine G_ps 5 (pc' := 26) (l' := [(4, .int 6), (3, .ref 1899), (2, .ref 1826), (1, .ref 1), (0, .ref 0)]) (st' := [.ref 0, .int 6]) rfl ?_
                  refine G_alen rfl g0_0 ?_
                  show am_G at_P at_cl at_ty _ mt_law 27 [(4, .int 6), (3, .ref 1899), (2, .ref 1826), (1, .ref 1), (0, .ref 0)] [.int 6, .int 6] _ _
                  refine G_ps 4 (pc' := 1004) (l' := [(4, .int 6), (3, .ref 1899), (2, .ref 1826), (1, .ref 1), (0, .ref 0)]) (st' := [.int 1]) rfl ?_
                  refine G_ret rfl rfl rfl ?_
                  exact ⟨rfl, by simp, by simp⟩
set_option maxRecDepth 100000 in
set_option maxHeartbeats 4000000 in
theorem lc_14 (S : am_S) (y0 y1 y2 y3 y4 y5 : Int32) (g0_0 : am_nth S 0 = some (6, some (.inl (.int, 6, .int 0, [(0, .int y0), (1, .int y1), (2, .int y2), (3, .int y3), (4, .int y4), (5, .int y5)])))) (g0_1 : am_nth S 1 = some (9, some (.inr (0, [.ref 2, .ref 7, .ref 361, .ref 363, .ref 366, .ref 372, .ref 406, .ref 1824, .int 0])))) (g0_406 : am_nth S 406 = some (19, some (.inr (10, [.ref 7, .ref 366, .ref 407, .ref 878, .ref 1349, .ref 1350, .ref 1350, .ref 1350, .long 0, .long 0, .ref 409, .ref 1352, .ref 1354, .int 0, .int 0, .long 0, .int 0, .int 0, .int 0])))) (g0_407 : am_nth S 407 = some (9, some (.inr (11, [.ref 408, .ref 409, .int 0, .int 0, .int 0, .int 0, .int 0, .long 0, .long 0])))) (g0_1826 : am_nth S 1826 = some (115, some (.inr (13, [.int 0, .int 0, .ref 1827, .int 0, .ref 1828, .ref 1829, .ref 1830, .ref 1831, .int 0, .ref 1832, .ref 1833, .ref 1834, .ref 1835, .int 0, .ref 1836, .ref 1837, .ref 1838, .ref 1839, .ref 1840, .int 0, .ref 1841, .ref 1842, .ref 1843, .ref 1844, .ref 1845, .ref 1846, .ref 1847, .ref 1848, .int 0, .int 0, .int 0, .int 0, .int 0, .long 0, .int 0, .int 0, .int 0, .ref 1849, .ref 1850, .int 0, .int 0, .int 0, .ref 1851, .int 0, .int 0, .ref 1852, .ref 1853, .int 0, .ref 1854, .ref 1855, .int 0, .int 0, .ref 1856, .int 0, .ref 1857, .int 0, .int 0, .int 0, .ref 1858, .int 0, .ref 1859, .ref 1860, .ref 1861, .ref 1862, .ref 1863, .ref 1864, .ref 1865, .int (-1), .ref 1866, .ref 1867, .ref 1868, .ref 1869, .int 0, .ref 1870, .int (-1), .int 0, .int 0, .int 0, .ref 1871, .ref 1872, .ref 1873, .ref 1874, .ref 1875, .ref 1876, .ref 1877, .ref 1878, .ref 1879, .ref 1880, .ref 1881, .int 0, .ref 1882, .ref 1883, .ref 1884, .int 0, .ref 1885, .int 0, .ref 1886, .int (-1), .ref 1887, .int 0, .ref 1888, .int 0, .ref 1889, .ref 1890, .ref 1891, .ref 1892, .ref 1893, .ref 1894, .ref 1895, .ref 1896, .ref 1897, .ref 1898, .int 0, .int 0, .int 0])))) : am_G at_P at_cl at_ty 12 mt_law 748 [(4, .int 0), (3, .ref 1899), (2, .ref 1826), (1, .ref 1), (0, .ref 0)] [] S (fun r _ c n => r = some (.int 1) ∧ c = 0 ∧ n = 0) := by
  have hs0 : am_same [] S S := am_same_rf _ _
  refine G_ps 5 (pc' := 754) (l' := [(4, .int 0), (3, .ref 1899), (2, .ref 1826), (1, .ref 1), (0, .ref 0)]) (st' := [.int 1, .ref 0, .ref 1]) rfl ?_
  refine G_ild (i := 1) rfl g0_0 (by decide) ?_
  show am_G at_P at_cl at_ty _ mt_law 755 [(4, .int 0), (3, .ref 1899), (2, .ref 1826), (1, .ref 1), (0, .ref 0)] [.int y1, .ref 1] _ _
  refine G_cv (i := 92) (j := 15) (b := 1) (M' := mt_15) (xs := [.int y1]) (rest := []) rfl rfl rfl rfl g0_1 (Nat.le_of_ble_eq_true rfl) (Nat.le_of_ble_eq_true rfl) ?_ (fun _ _ _ _ h9 => h9)
  show am_G at_P at_cl at_ty _ mt_15 0 [(0, .ref 1), (1, .int y1)] [] _ _
  refine G_ps 1 (pc' := 1) (l' := [(0, .ref 1), (1, .int y1)]) (st' := [.ref 1]) rfl ?_
  refine G_get (i := 60) (ci := 0) (k := 6) (v := .ref 406) rfl rfl g0_1 rfl ?_
  show am_G at_P at_cl at_ty _ mt_15 4 [(0, .ref 1), (1, .int y1)] [.ref 406] _ _
  refine G_get (i := 96) (ci := 10) (k := 2) (v := .ref 407) rfl rfl g0_406 rfl ?_
  show am_G at_P at_cl at_ty _ mt_15 7 [(0, .ref 1), (1, .int y1)] [.ref 407] _ _
  refine G_get (i := 129) (ci := 11) (k := 2) (v := .int 0) rfl rfl g0_407 rfl ?_
  show am_G at_P at_cl at_ty _ mt_15 10 [(0, .ref 1), (1, .int y1)] [.int 0] _ _
  refine G_ps 2 (pc' := 26) (l' := [(0, .ref 1), (1, .int y1)]) (st' := [.int (-103)]) rfl ?_
  refine G_ret rfl rfl rfl ?_
  show am_G at_P at_cl at_ty _ mt_law 758 [(4, .int 0), (3, .ref 1899), (2, .ref 1826), (1, .ref 1), (0, .ref 0)] [.int (-103)] _ _
  refine G_ps 5 (pc' := 764) (l' := [(4, .int 0), (3, .ref 1899), (2, .ref 1826), (1, .ref 1), (0, .ref 0)]) (st' := [.int 1, .ref 0, .ref 1826, .int (-103)]) rfl ?_
  refine G_ild (i := 1) rfl g0_0 (by decide) ?_
  show am_G at_P at_cl at_ty _ mt_law 765 [(4, .int 0), (3, .ref 1899), (2, .ref 1826), (1, .ref 1), (0, .ref 0)] [.int y1, .ref 1826, .int (-103)] _ _
  refine G_cv (i := 95) (j := 252) (b := 1826) (M' := mt_252) (xs := [.int y1]) (rest := [.int (-103)]) rfl rfl rfl rfl g0_1826 (Nat.le_of_ble_eq_true rfl) (Nat.le_of_ble_eq_true rfl) ?_ (fun _ _ _ _ h9 => h9)
  show am_G at_P at_cl at_ty _ mt_252 0 [(0, .ref 1826), (1, .int y1)] [] _ _
  refine G_ps 1 (pc' := 1) (l' := [(0, .ref 1826), (1, .int y1)]) (st' := [.ref 1826]) rfl ?_
  refine G_cv (i := 563) (j := 235) (b := 1826) (M' := mt_235) (xs := []) (rest := []) rfl rfl rfl rfl g0_1826 (Nat.le_of_ble_eq_true rfl) (Nat.le_of_ble_eq_true rfl) ?_ (fun _ _ _ _ h9 => h9)
  show am_G at_P at_cl at_ty _ mt_235 0 [(0, .ref 1826)] [] _ _
  refine G_ps 1 (pc' := 1) (l' := [(0, .ref 1826)]) (st' := [.ref 1826]) rfl ?_
  refine G_get (i := 414) (ci := 13) (k := 77) (v := .int 0) rfl rfl g0_1826 rfl ?_
  show am_G at_P at_cl at_ty _ mt_235 4 [(0, .ref 1826)] [.int 0] _ _
  refine G_ps 3 (pc' := 12) (l' := [(0, .ref 1826)]) (st' := [.int 1]) rfl ?_
  refine G_ret rfl rfl rfl ?_
  show am_G at_P at_cl at_ty _ mt_252 4 [(0, .ref 1826), (1, .int y1)] [.int 1] _ _
  refine G_ps 3 (pc' := 68) (l' := [(0, .ref 1826), (1, .int y1)]) (st' := [.int (-103)]) rfl ?_
  refine G_ret rfl rfl rfl ?_
  show am_G at_P at_cl at_ty _ mt_law 768 [(4, .int 0), (3, .ref 1899), (2, .ref 1826), (1, .ref 1), (0, .ref 0)] [.int (-103), .int (-103)] _ _
  refine G_ps 5 (pc' := 26) (l' := [(4, .int 6), (3, .ref 1899), (2, .ref 1826), (1, .ref 1), (0, .ref 0)]) (st' := [.ref 0, .int 6]) rfl ?_
  refine G_alen rfl g0_0 ?_
  show am_G at_P at_cl at_ty _ mt_law 27 [(4, .int 6), (3, .ref 1899), (2, .ref 1826), (1, .ref 1), (0, .ref 0)] [.int 6, .int 6] _ _
  refine G_ps 4 (pc' := 1004) (l' := [(4, .int 6), (3, .ref 1899), (2, .ref 1826), (1, .ref 1), (0, .ref 0)]) (st' := [.int 1]) rfl ?_
  refine G_ret rfl rfl rfl ?_
  exact ⟨rfl, by simp, by simp⟩
set_option maxRecDepth 100000 in
set_option maxHeartbeats 4000000 in
theorem lc_15 (S : am_S) (y0 y1 y2 y3 y4 y5 : Int32) (g0_0 : am_nth S 0 = some (6, some (.inl (.int, 6, .int 0, [(0, .int y0), (1, .int y1), (2, .int y2), (3, .int y3), (4, .int y4), (5, .int y5)])))) (g0_1 : am_nth S 1 = some (9, some (.inr (0, [.ref 2, .ref 7, .ref 361, .ref 363, .ref 366, .ref 372, .ref 406, .ref 1824, .int 0])))) (g0_406 : am_nth S 406 = some (19, some (.inr (10, [.ref 7, .ref 366, .ref 407, .ref 878, .ref 1349, .ref 1350, .ref 1350, .ref 1350, .long 0, .long 0, .ref 409, .ref 1352, .ref 1354, .int 0, .int 0, .long 0, .int 0, .int 0, .int 0])))) (g0_407 : am_nth S 407 = some (9, some (.inr (11, [.ref 408, .ref 409, .int 0, .int 0, .int 0, .int 0, .int 0, .long 0, .long 0])))) (g0_1826 : am_nth S 1826 = some (115, some (.inr (13, [.int 0, .int 0, .ref 1827, .int 0, .ref 1828, .ref 1829, .ref 1830, .ref 1831, .int 0, .ref 1832, .ref 1833, .ref 1834, .ref 1835, .int 0, .ref 1836, .ref 1837, .ref 1838, .ref 1839, .ref 1840, .int 0, .ref 1841, .ref 1842, .ref 1843, .ref 1844, .ref 1845, .ref 1846, .ref 1847, .ref 1848, .int 0, .int 0, .int 0, .int 0, .int 0, .long 0, .int 0, .int 0, .int 0, .ref 1849, .ref 1850, .int 0, .int 0, .int 0, .ref 1851, .int 0, .int 0, .ref 1852, .ref 1853, .int 0, .ref 1854, .ref 1855, .int 0, .int 0, .ref 1856, .int 0, .ref 1857, .int 0, .int 0, .int 0, .ref 1858, .int 0, .ref 1859, .ref 1860, .ref 1861, .ref 1862, .ref 1863, .ref 1864, .ref 1865, .int (-1), .ref 1866, .ref 1867, .ref 1868, .ref 1869, .int 0, .ref 1870, .int (-1), .int 0, .int 0, .int 0, .ref 1871, .ref 1872, .ref 1873, .ref 1874, .ref 1875, .ref 1876, .ref 1877, .ref 1878, .ref 1879, .ref 1880, .ref 1881, .int 0, .ref 1882, .ref 1883, .ref 1884, .int 0, .ref 1885, .int 0, .ref 1886, .int (-1), .ref 1887, .int 0, .ref 1888, .int 0, .ref 1889, .ref 1890, .ref 1891, .ref 1892, .ref 1893, .ref 1894, .ref 1895, .ref 1896, .ref 1897, .ref 1898, .int 0, .int 0, .int 0])))) : am_G at_P at_cl at_ty 12 mt_law 773 [(4, .int 0), (3, .ref 1899), (2, .ref 1826), (1, .ref 1), (0, .ref 0)] [] S (fun r _ c n => r = some (.int 1) ∧ c = 0 ∧ n = 0) := by
  have hs0 : am_same [] S S := am_same_rf _ _
  refine G_ps 5 (pc' := 779) (l' := [(4, .int 0), (3, .ref 1899), (2, .ref 1826), (1, .ref 1), (0, .ref 0)]) (st' := [.int 1, .ref 0, .ref 1]) rfl ?_
  refine G_ild (i := 1) rfl g0_0 (by decide) ?_
  show am_G at_P at_cl at_ty _ mt_law 780 [(4, .int 0), (3, .ref 1899), (2, .ref 1826), (1, .ref 1), (0, .ref 0)] [.int y1, .ref 1] _ _
  refine G_ps 4 (pc' := 785) (l' := [(4, .int 0), (3, .ref 1899), (2, .ref 1826), (1, .ref 1), (0, .ref 0)]) (st' := [.int 2, .ref 0, .int y1, .ref 1]) rfl ?_
  refine G_ild (i := 2) rfl g0_0 (by decide) ?_
  show am_G at_P at_cl at_ty _ mt_law 786 [(4, .int 0), (3, .ref 1899), (2, .ref 1826), (1, .ref 1), (0, .ref 0)] [.int y2, .int y1, .ref 1] _ _
  refine G_cv (i := 96) (j := 16) (b := 1) (M' := mt_16) (xs := [.int y2, .int y1]) (rest := []) rfl rfl rfl rfl g0_1 (Nat.le_of_ble_eq_true rfl) (Nat.le_of_ble_eq_true rfl) ?_ (fun _ _ _ _ h9 => h9)
  show am_G at_P at_cl at_ty _ mt_16 0 [(0, .ref 1), (1, .int y1), (2, .int y2)] [] _ _
  refine G_ps 3 (pc' := 3) (l' := [(0, .ref 1), (1, .int y1), (2, .int y2)]) (st' := [.int y2, .int y1, .ref 1]) rfl ?_
  refine G_cv (i := 202) (j := 24) (b := 1) (M' := mt_24) (xs := [.int y2, .int y1]) (rest := []) rfl rfl rfl rfl g0_1 (Nat.le_of_ble_eq_true rfl) (Nat.le_of_ble_eq_true rfl) ?_ (fun _ _ _ _ h9 => h9)
  show am_G at_P at_cl at_ty _ mt_24 0 [(0, .ref 1), (1, .int y1), (2, .int y2)] [] _ _
  refine G_ps 2 (pc' := if y1 < 0 then 13 else 4) (l' := [(0, .ref 1), (1, .int y1), (2, .int y2)]) (st' := []) rfl ?_
  by_cases hc1 : y1 < 0
  · rw [if_pos hc1]
    refine G_ps 1 (pc' := 15) (l' := [(0, .ref 1), (1, .int y1), (2, .int y2)]) (st' := [.int (-102)]) rfl ?_
    refine G_ret rfl rfl rfl ?_
    show am_G at_P at_cl at_ty _ mt_16 6 [(0, .ref 1), (1, .int y1), (2, .int y2)] [.int (-102)] _ _
    refine G_ps 5 (pc' := 32) (l' := [(3, .int (-102)), (0, .ref 1), (1, .int y1), (2, .int y2)]) (st' := [.int (-102)]) rfl ?_
    refine G_ret rfl rfl rfl ?_
    show am_G at_P at_cl at_ty _ mt_law 789 [(4, .int 0), (3, .ref 1899), (2, .ref 1826), (1, .ref 1), (0, .ref 0)] [.int (-102)] _ _
    refine G_ps 5 (pc' := 795) (l' := [(4, .int 0), (3, .ref 1899), (2, .ref 1826), (1, .ref 1), (0, .ref 0)]) (st' := [.int 1, .ref 0, .ref 1826, .int (-102)]) rfl ?_
    refine G_ild (i := 1) rfl g0_0 (by decide) ?_
    show am_G at_P at_cl at_ty _ mt_law 796 [(4, .int 0), (3, .ref 1899), (2, .ref 1826), (1, .ref 1), (0, .ref 0)] [.int y1, .ref 1826, .int (-102)] _ _
    refine G_ps 4 (pc' := 801) (l' := [(4, .int 0), (3, .ref 1899), (2, .ref 1826), (1, .ref 1), (0, .ref 0)]) (st' := [.int 2, .ref 0, .int y1, .ref 1826, .int (-102)]) rfl ?_
    refine G_ild (i := 2) rfl g0_0 (by decide) ?_
    show am_G at_P at_cl at_ty _ mt_law 802 [(4, .int 0), (3, .ref 1899), (2, .ref 1826), (1, .ref 1), (0, .ref 0)] [.int y2, .int y1, .ref 1826, .int (-102)] _ _
    refine G_cv (i := 99) (j := 255) (b := 1826) (M' := mt_255) (xs := [.int y2, .int y1]) (rest := [.int (-102)]) rfl rfl rfl rfl g0_1826 (Nat.le_of_ble_eq_true rfl) (Nat.le_of_ble_eq_true rfl) ?_ (fun _ _ _ _ h9 => h9)
    show am_G at_P at_cl at_ty _ mt_255 0 [(0, .ref 1826), (1, .int y1), (2, .int y2)] [] _ _
    refine G_ps 2 (pc' := 2) (l' := [(0, .ref 1826), (1, .int y1), (2, .int y2)]) (st' := [.int y2, .int y1]) rfl ?_
    refine G_cs (i := 559) (j := 236) (M' := mt_236) (xs := [.int y2, .int y1]) (rest := []) rfl rfl rfl rfl rfl (Nat.le_of_ble_eq_true rfl) (Nat.le_of_ble_eq_true rfl) ?_ (fun _ _ _ _ h9 => h9)
    show am_G at_P at_cl at_ty _ mt_236 0 [(0, .int y1), (1, .int y2)] [] _ _
    refine G_ps 2 (pc' := if y1 < 0 then 13 else 4) (l' := [(0, .int y1), (1, .int y2)]) (st' := []) rfl ?_
    by_cases hc2 : y1 < 0
    · rw [if_pos hc2]
      refine G_ps 2 (pc' := 18) (l' := [(0, .int y1), (1, .int y2)]) (st' := [.int 1]) rfl ?_
      refine G_ret rfl rfl rfl ?_
      show am_G at_P at_cl at_ty _ mt_255 5 [(0, .ref 1826), (1, .int y1), (2, .int y2)] [.int 1] _ _
      refine G_ps 3 (pc' := 32) (l' := [(0, .ref 1826), (1, .int y1), (2, .int y2)]) (st' := [.int (-102)]) rfl ?_
      refine G_ret rfl rfl rfl ?_
      show am_G at_P at_cl at_ty _ mt_law 805 [(4, .int 0), (3, .ref 1899), (2, .ref 1826), (1, .ref 1), (0, .ref 0)] [.int (-102), .int (-102)] _ _
      refine G_ps 5 (pc' := 26) (l' := [(4, .int 6), (3, .ref 1899), (2, .ref 1826), (1, .ref 1), (0, .ref 0)]) (st' := [.ref 0, .int 6]) rfl ?_
      refine G_alen rfl g0_0 ?_
      show am_G at_P at_cl at_ty _ mt_law 27 [(4, .int 6), (3, .ref 1899), (2, .ref 1826), (1, .ref 1), (0, .ref 0)] [.int 6, .int 6] _ _
      refine G_ps 4 (pc' := 1004) (l' := [(4, .int 6), (3, .ref 1899), (2, .ref 1826), (1, .ref 1), (0, .ref 0)]) (st' := [.int 1]) rfl ?_
      refine G_ret rfl rfl rfl ?_
      exact ⟨rfl, by simp, by simp⟩
    · rw [if_neg hc2]
      exfalso
      simp only [Int32.lt_iff_toInt_lt, Int32.le_iff_toInt_le, show (0 : Int32).toInt = 0 by decide] at hc1 hc2
      omega
  · rw [if_neg hc1]
    refine G_ps 3 (pc' := if 1 < y1 then 13 else 9) (l' := [(0, .ref 1), (1, .int y1), (2, .int y2)]) (st' := []) rfl ?_
    by_cases hc3 : 1 < y1
    · rw [if_pos hc3]
      refine G_ps 1 (pc' := 15) (l' := [(0, .ref 1), (1, .int y1), (2, .int y2)]) (st' := [.int (-102)]) rfl ?_
      refine G_ret rfl rfl rfl ?_
      show am_G at_P at_cl at_ty _ mt_16 6 [(0, .ref 1), (1, .int y1), (2, .int y2)] [.int (-102)] _ _
      refine G_ps 5 (pc' := 32) (l' := [(3, .int (-102)), (0, .ref 1), (1, .int y1), (2, .int y2)]) (st' := [.int (-102)]) rfl ?_
      refine G_ret rfl rfl rfl ?_
      show am_G at_P at_cl at_ty _ mt_law 789 [(4, .int 0), (3, .ref 1899), (2, .ref 1826), (1, .ref 1), (0, .ref 0)] [.int (-102)] _ _
      refine G_ps 5 (pc' := 795) (l' := [(4, .int 0), (3, .ref 1899), (2, .ref 1826), (1, .ref 1), (0, .ref 0)]) (st' := [.int 1, .ref 0, .ref 1826, .int (-102)]) rfl ?_
      refine G_ild (i := 1) rfl g0_0 (by decide) ?_
      show am_G at_P at_cl at_ty _ mt_law 796 [(4, .int 0), (3, .ref 1899), (2, .ref 1826), (1, .ref 1), (0, .ref 0)] [.int y1, .ref 1826, .int (-102)] _ _
      refine G_ps 4 (pc' := 801) (l' := [(4, .int 0), (3, .ref 1899), (2, .ref 1826), (1, .ref 1), (0, .ref 0)]) (st' := [.int 2, .ref 0, .int y1, .ref 1826, .int (-102)]) rfl ?_
      refine G_ild (i := 2) rfl g0_0 (by decide) ?_
      show am_G at_P at_cl at_ty _ mt_law 802 [(4, .int 0), (3, .ref 1899), (2, .ref 1826), (1, .ref 1), (0, .ref 0)] [.int y2, .int y1, .ref 1826, .int (-102)] _ _
      refine G_cv (i := 99) (j := 255) (b := 1826) (M' := mt_255) (xs := [.int y2, .int y1]) (rest := [.int (-102)]) rfl rfl rfl rfl g0_1826 (Nat.le_of_ble_eq_true rfl) (Nat.le_of_ble_eq_true rfl) ?_ (fun _ _ _ _ h9 => h9)
      show am_G at_P at_cl at_ty _ mt_255 0 [(0, .ref 1826), (1, .int y1), (2, .int y2)] [] _ _
      refine G_ps 2 (pc' := 2) (l' := [(0, .ref 1826), (1, .int y1), (2, .int y2)]) (st' := [.int y2, .int y1]) rfl ?_
      refine G_cs (i := 559) (j := 236) (M' := mt_236) (xs := [.int y2, .int y1]) (rest := []) rfl rfl rfl rfl rfl (Nat.le_of_ble_eq_true rfl) (Nat.le_of_ble_eq_true rfl) ?_ (fun _ _ _ _ h9 => h9)
      show am_G at_P at_cl at_ty _ mt_236 0 [(0, .int y1), (1, .int y2)] [] _ _
      refine G_ps 2 (pc' := if y1 < 0 then 13 else 4) (l' := [(0, .int y1), (1, .int y2)]) (st' := []) rfl ?_
      by_cases hc4 : y1 < 0
      · rw [if_pos hc4]
        exfalso
        simp only [Int32.lt_iff_toInt_lt, Int32.le_iff_toInt_le, show (0 : Int32).toInt = 0 by decide, show (1 : Int32).toInt = 1 by decide] at hc1 hc3 hc4
        omega
      · rw [if_neg hc4]
        refine G_ps 3 (pc' := if 1 < y1 then 13 else 9) (l' := [(0, .int y1), (1, .int y2)]) (st' := []) rfl ?_
        by_cases hc5 : 1 < y1
        · rw [if_pos hc5]
          refine G_ps 2 (pc' := 18) (l' := [(0, .int y1), (1, .int y2)]) (st' := [.int 1]) rfl ?_
          refine G_ret rfl rfl rfl ?_
          show am_G at_P at_cl at_ty _ mt_255 5 [(0, .ref 1826), (1, .int y1), (2, .int y2)] [.int 1] _ _
          refine G_ps 3 (pc' := 32) (l' := [(0, .ref 1826), (1, .int y1), (2, .int y2)]) (st' := [.int (-102)]) rfl ?_
          refine G_ret rfl rfl rfl ?_
          show am_G at_P at_cl at_ty _ mt_law 805 [(4, .int 0), (3, .ref 1899), (2, .ref 1826), (1, .ref 1), (0, .ref 0)] [.int (-102), .int (-102)] _ _
          refine G_ps 5 (pc' := 26) (l' := [(4, .int 6), (3, .ref 1899), (2, .ref 1826), (1, .ref 1), (0, .ref 0)]) (st' := [.ref 0, .int 6]) rfl ?_
          refine G_alen rfl g0_0 ?_
          show am_G at_P at_cl at_ty _ mt_law 27 [(4, .int 6), (3, .ref 1899), (2, .ref 1826), (1, .ref 1), (0, .ref 0)] [.int 6, .int 6] _ _
          refine G_ps 4 (pc' := 1004) (l' := [(4, .int 6), (3, .ref 1899), (2, .ref 1826), (1, .ref 1), (0, .ref 0)]) (st' := [.int 1]) rfl ?_
          refine G_ret rfl rfl rfl ?_
          exact ⟨rfl, by simp, by simp⟩
        · rw [if_neg hc5]
          exfalso
          simp only [Int32.lt_iff_toInt_lt, Int32.le_iff_toInt_le, show (0 : Int32).toInt = 0 by decide, show (1 : Int32).toInt = 1 by decide] at hc1 hc3 hc4 hc5
          omega
    · rw [if_neg hc3]
      refine G_ps 2 (pc' := if 0 ≤ y2 then 16 else 13) (l' := [(0, .ref 1), (1, .int y1), (2, .int y2)]) (st' := []) rfl ?_
      by_cases hc6 : 0 ≤ y2
      · rw [if_pos hc6]
        refine G_ps 1 (pc' := 17) (l' := [(0, .ref 1), (1, .int y1), (2, .int y2)]) (st' := [.ref 1]) rfl ?_
        refine G_get (i := 60) (ci := 0) (k := 6) (v := .ref 406) rfl rfl g0_1 rfl ?_
        show am_G at_P at_cl at_ty _ mt_24 20 [(0, .ref 1), (1, .int y1), (2, .int y2)] [.ref 406] _ _
        refine G_get (i := 96) (ci := 10) (k := 2) (v := .ref 407) rfl rfl g0_406 rfl ?_
        show am_G at_P at_cl at_ty _ mt_24 23 [(0, .ref 1), (1, .int y1), (2, .int y2)] [.ref 407] _ _
        refine G_get (i := 129) (ci := 11) (k := 2) (v := .int 0) rfl rfl g0_407 rfl ?_
        show am_G at_P at_cl at_ty _ mt_24 26 [(0, .ref 1), (1, .int y1), (2, .int y2)] [.int 0] _ _
        refine G_ps 2 (pc' := 35) (l' := [(0, .ref 1), (1, .int y1), (2, .int y2)]) (st' := [.int (-103)]) rfl ?_
        refine G_ret rfl rfl rfl ?_
        show am_G at_P at_cl at_ty _ mt_16 6 [(0, .ref 1), (1, .int y1), (2, .int y2)] [.int (-103)] _ _
        refine G_ps 5 (pc' := 32) (l' := [(3, .int (-103)), (0, .ref 1), (1, .int y1), (2, .int y2)]) (st' := [.int (-103)]) rfl ?_
        refine G_ret rfl rfl rfl ?_
        show am_G at_P at_cl at_ty _ mt_law 789 [(4, .int 0), (3, .ref 1899), (2, .ref 1826), (1, .ref 1), (0, .ref 0)] [.int (-103)] _ _
        refine G_ps 5 (pc' := 795) (l' := [(4, .int 0), (3, .ref 1899), (2, .ref 1826), (1, .ref 1), (0, .ref 0)]) (st' := [.int 1, .ref 0, .ref 1826, .int (-103)]) rfl ?_
        refine G_ild (i := 1) rfl g0_0 (by decide) ?_
        show am_G at_P at_cl at_ty _ mt_law 796 [(4, .int 0), (3, .ref 1899), (2, .ref 1826), (1, .ref 1), (0, .ref 0)] [.int y1, .ref 1826, .int (-103)] _ _
        refine G_ps 4 (pc' := 801) (l' := [(4, .int 0), (3, .ref 1899), (2, .ref 1826), (1, .ref 1), (0, .ref 0)]) (st' := [.int 2, .ref 0, .int y1, .ref 1826, .int (-103)]) rfl ?_
        refine G_ild (i := 2) rfl g0_0 (by decide) ?_
        show am_G at_P at_cl at_ty _ mt_law 802 [(4, .int 0), (3, .ref 1899), (2, .ref 1826), (1, .ref 1), (0, .ref 0)] [.int y2, .int y1, .ref 1826, .int (-103)] _ _
        refine G_cv (i := 99) (j := 255) (b := 1826) (M' := mt_255) (xs := [.int y2, .int y1]) (rest := [.int (-103)]) rfl rfl rfl rfl g0_1826 (Nat.le_of_ble_eq_true rfl) (Nat.le_of_ble_eq_true rfl) ?_ (fun _ _ _ _ h9 => h9)
        show am_G at_P at_cl at_ty _ mt_255 0 [(0, .ref 1826), (1, .int y1), (2, .int y2)] [] _ _
        refine G_ps 2 (pc' := 2) (l' := [(0, .ref 1826), (1, .int y1), (2, .int y2)]) (st' := [.int y2, .int y1]) rfl ?_
        refine G_cs (i := 559) (j := 236) (M' := mt_236) (xs := [.int y2, .int y1]) (rest := []) rfl rfl rfl rfl rfl (Nat.le_of_ble_eq_true rfl) (Nat.le_of_ble_eq_true rfl) ?_ (fun _ _ _ _ h9 => h9)
        show am_G at_P at_cl at_ty _ mt_236 0 [(0, .int y1), (1, .int y2)] [] _ _
        refine G_ps 2 (pc' := if y1 < 0 then 13 else 4) (l' := [(0, .int y1), (1, .int y2)]) (st' := []) rfl ?_
        by_cases hc7 : y1 < 0
        · rw [if_pos hc7]
          exfalso
          simp only [Int32.lt_iff_toInt_lt, Int32.le_iff_toInt_le, show (0 : Int32).toInt = 0 by decide, show (1 : Int32).toInt = 1 by decide] at hc1 hc3 hc6 hc7
          omega
        · rw [if_neg hc7]
          refine G_ps 3 (pc' := if 1 < y1 then 13 else 9) (l' := [(0, .int y1), (1, .int y2)]) (st' := []) rfl ?_
          by_cases hc8 : 1 < y1
          · rw [if_pos hc8]
            exfalso
            simp only [Int32.lt_iff_toInt_lt, Int32.le_iff_toInt_le, show (0 : Int32).toInt = 0 by decide, show (1 : Int32).toInt = 1 by decide] at hc1 hc3 hc6 hc7 hc8
            omega
          · rw [if_neg hc8]
            refine G_ps 2 (pc' := if 0 ≤ y2 then 17 else 13) (l' := [(0, .int y1), (1, .int y2)]) (st' := []) rfl ?_
            by_cases hc9 : 0 ≤ y2
            · rw [if_pos hc9]
              refine G_ps 1 (pc' := 18) (l' := [(0, .int y1), (1, .int y2)]) (st' := [.int 0]) rfl ?_
              refine G_ret rfl rfl rfl ?_
              show am_G at_P at_cl at_ty _ mt_255 5 [(0, .ref 1826), (1, .int y1), (2, .int y2)] [.int 0] _ _
              refine G_ps 2 (pc' := 14) (l' := [(0, .ref 1826), (1, .int y1), (2, .int y2)]) (st' := [.ref 1826]) rfl ?_
              refine G_cv (i := 563) (j := 235) (b := 1826) (M' := mt_235) (xs := []) (rest := []) rfl rfl rfl rfl g0_1826 (Nat.le_of_ble_eq_true rfl) (Nat.le_of_ble_eq_true rfl) ?_ (fun _ _ _ _ h9 => h9)
              show am_G at_P at_cl at_ty _ mt_235 0 [(0, .ref 1826)] [] _ _
              refine G_ps 1 (pc' := 1) (l' := [(0, .ref 1826)]) (st' := [.ref 1826]) rfl ?_
              refine G_get (i := 414) (ci := 13) (k := 77) (v := .int 0) rfl rfl g0_1826 rfl ?_
              show am_G at_P at_cl at_ty _ mt_235 4 [(0, .ref 1826)] [.int 0] _ _
              refine G_ps 3 (pc' := 12) (l' := [(0, .ref 1826)]) (st' := [.int 1]) rfl ?_
              refine G_ret rfl rfl rfl ?_
              show am_G at_P at_cl at_ty _ mt_255 17 [(0, .ref 1826), (1, .int y1), (2, .int y2)] [.int 1] _ _
              refine G_ps 3 (pc' := 32) (l' := [(0, .ref 1826), (1, .int y1), (2, .int y2)]) (st' := [.int (-103)]) rfl ?_
              refine G_ret rfl rfl rfl ?_
              show am_G at_P at_cl at_ty _ mt_law 805 [(4, .int 0), (3, .ref 1899), (2, .ref 1826), (1, .ref 1), (0, .ref 0)] [.int (-103), .int (-103)] _ _
              refine G_ps 5 (pc' := 26) (l' := [(4, .int 6), (3, .ref 1899), (2, .ref 1826), (1, .ref 1), (0, .ref 0)]) (st' := [.ref 0, .int 6]) rfl ?_
              refine G_alen rfl g0_0 ?_
              show am_G at_P at_cl at_ty _ mt_law 27 [(4, .int 6), (3, .ref 1899), (2, .ref 1826), (1, .ref 1), (0, .ref 0)] [.int 6, .int 6] _ _
              refine G_ps 4 (pc' := 1004) (l' := [(4, .int 6), (3, .ref 1899), (2, .ref 1826), (1, .ref 1), (0, .ref 0)]) (st' := [.int 1]) rfl ?_
              refine G_ret rfl rfl rfl ?_
              exact ⟨rfl, by simp, by simp⟩
            · rw [if_neg hc9]
              exfalso
              simp only [Int32.lt_iff_toInt_lt, Int32.le_iff_toInt_le, show (0 : Int32).toInt = 0 by decide, show (1 : Int32).toInt = 1 by decide] at hc1 hc3 hc6 hc7 hc8 hc9
              omega
      · rw [if_neg hc6]
        refine G_ps 1 (pc' := 15) (l' := [(0, .ref 1), (1, .int y1), (2, .int y2)]) (st' := [.int (-102)]) rfl ?_
        refine G_ret rfl rfl rfl ?_
        show am_G at_P at_cl at_ty _ mt_16 6 [(0, .ref 1), (1, .int y1), (2, .int y2)] [.int (-102)] _ _
        refine G_ps 5 (pc' := 32) (l' := [(3, .int (-102)), (0, .ref 1), (1, .int y1), (2, .int y2)]) (st' := [.int (-102)]) rfl ?_
        refine G_ret rfl rfl rfl ?_
        show am_G at_P at_cl at_ty _ mt_law 789 [(4, .int 0), (3, .ref 1899), (2, .ref 1826), (1, .ref 1), (0, .ref 0)] [.int (-102)] _ _
        refine G_ps 5 (pc' := 795) (l' := [(4, .int 0), (3, .ref 1899), (2, .ref 1826), (1, .ref 1), (0, .ref 0)]) (st' := [.int 1, .ref 0, .ref 1826, .int (-102)]) rfl ?_
        refine G_ild (i := 1) rfl g0_0 (by decide) ?_
        show am_G at_P at_cl at_ty _ mt_law 796 [(4, .int 0), (3, .ref 1899), (2, .ref 1826), (1, .ref 1), (0, .ref 0)] [.int y1, .ref 1826, .int (-102)] _ _
        refine G_ps 4 (pc' := 801) (l' := [(4, .int 0), (3, .ref 1899), (2, .ref 1826), (1, .ref 1), (0, .ref 0)]) (st' := [.int 2, .ref 0, .int y1, .ref 1826, .int (-102)]) rfl ?_
        refine G_ild (i := 2) rfl g0_0 (by decide) ?_
        show am_G at_P at_cl at_ty _ mt_law 802 [(4, .int 0), (3, .ref 1899), (2, .ref 1826), (1, .ref 1), (0, .ref 0)] [.int y2, .int y1, .ref 1826, .int (-102)] _ _
        refine G_cv (i := 99) (j := 255) (b := 1826) (M' := mt_255) (xs := [.int y2, .int y1]) (rest := [.int (-102)]) rfl rfl rfl rfl g0_1826 (Nat.le_of_ble_eq_true rfl) (Nat.le_of_ble_eq_true rfl) ?_ (fun _ _ _ _ h9 => h9)
        show am_G at_P at_cl at_ty _ mt_255 0 [(0, .ref 1826), (1, .int y1), (2, .int y2)] [] _ _
        refine G_ps 2 (pc' := 2) (l' := [(0, .ref 1826), (1, .int y1), (2, .int y2)]) (st' := [.int y2, .int y1]) rfl ?_
        refine G_cs (i := 559) (j := 236) (M' := mt_236) (xs := [.int y2, .int y1]) (rest := []) rfl rfl rfl rfl rfl (Nat.le_of_ble_eq_true rfl) (Nat.le_of_ble_eq_true rfl) ?_ (fun _ _ _ _ h9 => h9)
        show am_G at_P at_cl at_ty _ mt_236 0 [(0, .int y1), (1, .int y2)] [] _ _
        refine G_ps 2 (pc' := if y1 < 0 then 13 else 4) (l' := [(0, .int y1), (1, .int y2)]) (st' := []) rfl ?_
        by_cases hc10 : y1 < 0
        · rw [if_pos hc10]
          exfalso
          simp only [Int32.lt_iff_toInt_lt, Int32.le_iff_toInt_le, show (0 : Int32).toInt = 0 by decide, show (1 : Int32).toInt = 1 by decide] at hc1 hc3 hc6 hc10
          omega
        · rw [if_neg hc10]
          refine G_ps 3 (pc' := if 1 < y1 then 13 else 9) (l' := [(0, .int y1), (1, .int y2)]) (st' := []) rfl ?_
          by_cases hc11 : 1 < y1
          · rw [if_pos hc11]
            exfalso
            simp only [Int32.lt_iff_toInt_lt, Int32.le_iff_toInt_le, show (0 : Int32).toInt = 0 by decide, show (1 : Int32).toInt = 1 by decide] at hc1 hc3 hc6 hc10 hc11
            omega
          · rw [if_neg hc11]
            refine G_ps 2 (pc' := if 0 ≤ y2 then 17 else 13) (l' := [(0, .int y1), (1, .int y2)]) (st' := []) rfl ?_
            by_cases hc12 : 0 ≤ y2
            · rw [if_pos hc12]
              exfalso
              simp only [Int32.lt_iff_toInt_lt, Int32.le_iff_toInt_le, show (0 : Int32).toInt = 0 by decide, show (1 : Int32).toInt = 1 by decide] at hc1 hc3 hc6 hc10 hc11 hc12
              omega
            · rw [if_neg hc12]
              refine G_ps 2 (pc' := 18) (l' := [(0, .int y1), (1, .int y2)]) (st' := [.int 1]) rfl ?_
              refine G_ret rfl rfl rfl ?_
              show am_G at_P at_cl at_ty _ mt_255 5 [(0, .ref 1826), (1, .int y1), (2, .int y2)] [.int 1] _ _
              refine G_ps 3 (pc' := 32) (l' := [(0, .ref 1826), (1, .int y1), (2, .int y2)]) (st' := [.int (-102)]) rfl ?_
              refine G_ret rfl rfl rfl ?_
              show am_G at_P at_cl at_ty _ mt_law 805 [(4, .int 0), (3, .ref 1899), (2, .ref 1826), (1, .ref 1), (0, .ref 0)] [.int (-102), .int (-102)] _ _
              refine G_ps 5 (pc' := 26) (l' := [(4, .int 6), (3, .ref 1899), (2, .ref 1826), (1, .ref 1), (0, .ref 0)]) (st' := [.ref 0, .int 6]) rfl ?_
              refine G_alen rfl g0_0 ?_
              show am_G at_P at_cl at_ty _ mt_law 27 [(4, .int 6), (3, .ref 1899), (2, .ref 1826), (1, .ref 1), (0, .ref 0)] [.int 6, .int 6] _ _
              refine G_ps 4 (pc' := 1004) (l' := [(4, .int 6), (3, .ref 1899), (2, .ref 1826), (1, .ref 1), (0, .ref 0)]) (st' := [.int 1]) rfl ?_
              refine G_ret rfl rfl rfl ?_
              exact ⟨rfl, by simp, by simp⟩
set_option maxRecDepth 100000 in
set_option maxHeartbeats 4000000 in
theorem lc_16 (S : am_S) (y0 y1 y2 y3 y4 y5 : Int32) (g0_0 : am_nth S 0 = some (6, some (.inl (.int, 6, .int 0, [(0, .int y0), (1, .int y1), (2, .int y2), (3, .int y3), (4, .int y4), (5, .int y5)])))) (g0_1 : am_nth S 1 = some (9, some (.inr (0, [.ref 2, .ref 7, .ref 361, .ref 363, .ref 366, .ref 372, .ref 406, .ref 1824, .int 0])))) (g0_406 : am_nth S 406 = some (19, some (.inr (10, [.ref 7, .ref 366, .ref 407, .ref 878, .ref 1349, .ref 1350, .ref 1350, .ref 1350, .long 0, .long 0, .ref 409, .ref 1352, .ref 1354, .int 0, .int 0, .long 0, .int 0, .int 0, .int 0])))) (g0_407 : am_nth S 407 = some (9, some (.inr (11, [.ref 408, .ref 409, .int 0, .int 0, .int 0, .int 0, .int 0, .long 0, .long 0])))) (g0_1826 : am_nth S 1826 = some (115, some (.inr (13, [.int 0, .int 0, .ref 1827, .int 0, .ref 1828, .ref 1829, .ref 1830, .ref 1831, .int 0, .ref 1832, .ref 1833, .ref 1834, .ref 1835, .int 0, .ref 1836, .ref 1837, .ref 1838, .ref 1839, .ref 1840, .int 0, .ref 1841, .ref 1842, .ref 1843, .ref 1844, .ref 1845, .ref 1846, .ref 1847, .ref 1848, .int 0, .int 0, .int 0, .int 0, .int 0, .long 0, .int 0, .int 0, .int 0, .ref 1849, .ref 1850, .int 0, .int 0, .int 0, .ref 1851, .int 0, .int 0, .ref 1852, .ref 1853, .int 0, .ref 1854, .ref 1855, .int 0, .int 0, .ref 1856, .int 0, .ref 1857, .int 0, .int 0, .int 0, .ref 1858, .int 0, .ref 1859, .ref 1860, .ref 1861, .ref 1862, .ref 1863, .ref 1864, .ref 1865, .int (-1), .ref 1866, .ref 1867, .ref 1868, .ref 1869, .int 0, .ref 1870, .int (-1), .int 0, .int 0, .int 0, .ref 1871, .ref 1872, .ref 1873, .ref 1874, .ref 1875, .ref 1876, .ref 1877, .ref 1878, .ref 1879, .ref 1880, .ref 1881, .int 0, .ref 1882, .ref 1883, .ref 1884, .int 0, .ref 1885, .int 0, .ref 1886, .int (-1), .ref 1887, .int 0, .ref 1888, .int 0, .ref 1889, .ref 1890, .ref 1891, .ref 1892, .ref 1893, .ref 1894, .ref 1895, .ref 1896, .ref 1897, .ref 1898, .int 0, .int 0, .int 0])))) : am_G at_P at_cl at_ty 12 mt_law 810 [(4, .int 0), (3, .ref 1899), (2, .ref 1826), (1, .ref 1), (0, .ref 0)] [] S (fun r _ c n => r = some (.int 1) ∧ c = 0 ∧ n = 0) := by
  have hs0 : am_same [] S S := am_same_rf _ _
  refine G_ps 1 (pc' := 811) (l' := [(4, .int 0), (3, .ref 1899), (2, .ref 1826), (1, .ref 1), (0, .ref 0)]) (st' := [.ref 1]) rfl ?_
  refine G_cv (i := 100) (j := 17) (b := 1) (M' := mt_17) (xs := []) (rest := []) rfl rfl rfl rfl g0_1 (Nat.le_of_ble_eq_true rfl) (Nat.le_of_ble_eq_true rfl) ?_ (fun _ _ _ _ h9 => h9)
  show am_G at_P at_cl at_ty _ mt_17 0 [(0, .ref 1)] [] _ _
  refine G_ps 1 (pc' := 1) (l' := [(0, .ref 1)]) (st' := [.ref 1]) rfl ?_
  refine G_get (i := 60) (ci := 0) (k := 6) (v := .ref 406) rfl rfl g0_1 rfl ?_
  show am_G at_P at_cl at_ty _ mt_17 4 [(0, .ref 1)] [.ref 406] _ _
  refine G_get (i := 96) (ci := 10) (k := 2) (v := .ref 407) rfl rfl g0_406 rfl ?_
  show am_G at_P at_cl at_ty _ mt_17 7 [(0, .ref 1)] [.ref 407] _ _
  refine G_get (i := 129) (ci := 11) (k := 2) (v := .int 0) rfl rfl g0_407 rfl ?_
  show am_G at_P at_cl at_ty _ mt_17 10 [(0, .ref 1)] [.int 0] _ _
  refine G_ps 2 (pc' := 25) (l' := [(0, .ref 1)]) (st' := [.int (-103)]) rfl ?_
  refine G_ret rfl rfl rfl ?_
  show am_G at_P at_cl at_ty _ mt_law 814 [(4, .int 0), (3, .ref 1899), (2, .ref 1826), (1, .ref 1), (0, .ref 0)] [.int (-103)] _ _
  refine G_ps 1 (pc' := 815) (l' := [(4, .int 0), (3, .ref 1899), (2, .ref 1826), (1, .ref 1), (0, .ref 0)]) (st' := [.ref 1826, .int (-103)]) rfl ?_
  refine G_cv (i := 103) (j := 261) (b := 1826) (M' := mt_261) (xs := []) (rest := [.int (-103)]) rfl rfl rfl rfl g0_1826 (Nat.le_of_ble_eq_true rfl) (Nat.le_of_ble_eq_true rfl) ?_ (fun _ _ _ _ h9 => h9)
  show am_G at_P at_cl at_ty _ mt_261 0 [(0, .ref 1826)] [] _ _
  refine G_ps 1 (pc' := 1) (l' := [(0, .ref 1826)]) (st' := [.ref 1826]) rfl ?_
  refine G_cv (i := 563) (j := 235) (b := 1826) (M' := mt_235) (xs := []) (rest := []) rfl rfl rfl rfl g0_1826 (Nat.le_of_ble_eq_true rfl) (Nat.le_of_ble_eq_true rfl) ?_ (fun _ _ _ _ h9 => h9)
  show am_G at_P at_cl at_ty _ mt_235 0 [(0, .ref 1826)] [] _ _
  refine G_ps 1 (pc' := 1) (l' := [(0, .ref 1826)]) (st' := [.ref 1826]) rfl ?_
  refine G_get (i := 414) (ci := 13) (k := 77) (v := .int 0) rfl rfl g0_1826 rfl ?_
  show am_G at_P at_cl at_ty _ mt_235 4 [(0, .ref 1826)] [.int 0] _ _
  refine G_ps 3 (pc' := 12) (l' := [(0, .ref 1826)]) (st' := [.int 1]) rfl ?_
  refine G_ret rfl rfl rfl ?_
  show am_G at_P at_cl at_ty _ mt_261 4 [(0, .ref 1826)] [.int 1] _ _
  refine G_ps 2 (pc' := 9) (l' := [(0, .ref 1826)]) (st' := [.int (-103)]) rfl ?_
  refine G_ret rfl rfl rfl ?_
  show am_G at_P at_cl at_ty _ mt_law 818 [(4, .int 0), (3, .ref 1899), (2, .ref 1826), (1, .ref 1), (0, .ref 0)] [.int (-103), .int (-103)] _ _
  refine G_ps 5 (pc' := 26) (l' := [(4, .int 6), (3, .ref 1899), (2, .ref 1826), (1, .ref 1), (0, .ref 0)]) (st' := [.ref 0, .int 6]) rfl ?_
  refine G_alen rfl g0_0 ?_
  show am_G at_P at_cl at_ty _ mt_law 27 [(4, .int 6), (3, .ref 1899), (2, .ref 1826), (1, .ref 1), (0, .ref 0)] [.int 6, .int 6] _ _
  refine G_ps 4 (pc' := 1004) (l' := [(4, .int 6), (3, .ref 1899), (2, .ref 1826), (1, .ref 1), (0, .ref 0)]) (st' := [.int 1]) rfl ?_
  refine G_ret rfl rfl rfl ?_
  exact ⟨rfl, by simp, by simp⟩
set_option maxRecDepth 100000 in
set_option maxHeartbeats 4000000 in
theorem lc_17 (S : am_S) (y0 y1 y2 y3 y4 y5 : Int32) (g0_0 : am_nth S 0 = some (6, some (.inl (.int, 6, .int 0, [(0, .int y0), (1, .int y1), (2, .int y2), (3, .int y3), (4, .int y4), (5, .int y5)])))) (g0_1 : am_nth S 1 = some (9, some (.inr (0, [.ref 2, .ref 7, .ref 361, .ref 363, .ref 366, .ref 372, .ref 406, .ref 1824, .int 0])))) (g0_406 : am_nth S 406 = some (19, some (.inr (10, [.ref 7, .ref 366, .ref 407, .ref 878, .ref 1349, .ref 1350, .ref 1350, .ref 1350, .long 0, .long 0, .ref 409, .ref 1352, .ref 1354, .int 0, .int 0, .long 0, .int 0, .int 0, .int 0])))) (g0_407 : am_nth S 407 = some (9, some (.inr (11, [.ref 408, .ref 409, .int 0, .int 0, .int 0, .int 0, .int 0, .long 0, .long 0])))) (g0_1826 : am_nth S 1826 = some (115, some (.inr (13, [.int 0, .int 0, .ref 1827, .int 0, .ref 1828, .ref 1829, .ref 1830, .ref 1831, .int 0, .ref 1832, .ref 1833, .ref 1834, .ref 1835, .int 0, .ref 1836, .ref 1837, .ref 1838, .ref 1839, .ref 1840, .int 0, .ref 1841, .ref 1842, .ref 1843, .ref 1844, .ref 1845, .ref 1846, .ref 1847, .ref 1848, .int 0, .int 0, .int 0, .int 0, .int 0, .long 0, .int 0, .int 0, .int 0, .ref 1849, .ref 1850, .int 0, .int 0, .int 0, .ref 1851, .int 0, .int 0, .ref 1852, .ref 1853, .int 0, .ref 1854, .ref 1855, .int 0, .int 0, .ref 1856, .int 0, .ref 1857, .int 0, .int 0, .int 0, .ref 1858, .int 0, .ref 1859, .ref 1860, .ref 1861, .ref 1862, .ref 1863, .ref 1864, .ref 1865, .int (-1), .ref 1866, .ref 1867, .ref 1868, .ref 1869, .int 0, .ref 1870, .int (-1), .int 0, .int 0, .int 0, .ref 1871, .ref 1872, .ref 1873, .ref 1874, .ref 1875, .ref 1876, .ref 1877, .ref 1878, .ref 1879, .ref 1880, .ref 1881, .int 0, .ref 1882, .ref 1883, .ref 1884, .int 0, .ref 1885, .int 0, .ref 1886, .int (-1), .ref 1887, .int 0, .ref 1888, .int 0, .ref 1889, .ref 1890, .ref 1891, .ref 1892, .ref 1893, .ref 1894, .ref 1895, .ref 1896, .ref 1897, .ref 1898, .int 0, .int 0, .int 0])))) : am_G at_P at_cl at_ty 12 mt_law 823 [(4, .int 0), (3, .ref 1899), (2, .ref 1826), (1, .ref 1), (0, .ref 0)] [] S (fun r _ c n => r = some (.int 1) ∧ c = 0 ∧ n = 0) := by
  have hs0 : am_same [] S S := am_same_rf _ _
  refine G_ps 1 (pc' := 824) (l' := [(4, .int 0), (3, .ref 1899), (2, .ref 1826), (1, .ref 1), (0, .ref 0)]) (st' := [.ref 1]) rfl ?_
  refine G_cv (i := 104) (j := 18) (b := 1) (M' := mt_18) (xs := []) (rest := []) rfl rfl rfl rfl g0_1 (Nat.le_of_ble_eq_true rfl) (Nat.le_of_ble_eq_true rfl) ?_ (fun _ _ _ _ h9 => h9)
  show am_G at_P at_cl at_ty _ mt_18 0 [(0, .ref 1)] [] _ _
  refine G_ps 1 (pc' := 1) (l' := [(0, .ref 1)]) (st' := [.ref 1]) rfl ?_
  refine G_get (i := 60) (ci := 0) (k := 6) (v := .ref 406) rfl rfl g0_1 rfl ?_
  show am_G at_P at_cl at_ty _ mt_18 4 [(0, .ref 1)] [.ref 406] _ _
  refine G_get (i := 96) (ci := 10) (k := 2) (v := .ref 407) rfl rfl g0_406 rfl ?_
  show am_G at_P at_cl at_ty _ mt_18 7 [(0, .ref 1)] [.ref 407] _ _
  refine G_get (i := 129) (ci := 11) (k := 2) (v := .int 0) rfl rfl g0_407 rfl ?_
  show am_G at_P at_cl at_ty _ mt_18 10 [(0, .ref 1)] [.int 0] _ _
  refine G_ps 2 (pc' := 25) (l' := [(0, .ref 1)]) (st' := [.int (-103)]) rfl ?_
  refine G_ret rfl rfl rfl ?_
  show am_G at_P at_cl at_ty _ mt_law 827 [(4, .int 0), (3, .ref 1899), (2, .ref 1826), (1, .ref 1), (0, .ref 0)] [.int (-103)] _ _
  refine G_ps 1 (pc' := 828) (l' := [(4, .int 0), (3, .ref 1899), (2, .ref 1826), (1, .ref 1), (0, .ref 0)]) (st' := [.ref 1826, .int (-103)]) rfl ?_
  refine G_cv (i := 107) (j := 262) (b := 1826) (M' := mt_262) (xs := []) (rest := [.int (-103)]) rfl rfl rfl rfl g0_1826 (Nat.le_of_ble_eq_true rfl) (Nat.le_of_ble_eq_true rfl) ?_ (fun _ _ _ _ h9 => h9)
  show am_G at_P at_cl at_ty _ mt_262 0 [(0, .ref 1826)] [] _ _
  refine G_ps 1 (pc' := 1) (l' := [(0, .ref 1826)]) (st' := [.ref 1826]) rfl ?_
  refine G_cv (i := 563) (j := 235) (b := 1826) (M' := mt_235) (xs := []) (rest := []) rfl rfl rfl rfl g0_1826 (Nat.le_of_ble_eq_true rfl) (Nat.le_of_ble_eq_true rfl) ?_ (fun _ _ _ _ h9 => h9)
  show am_G at_P at_cl at_ty _ mt_235 0 [(0, .ref 1826)] [] _ _
  refine G_ps 1 (pc' := 1) (l' := [(0, .ref 1826)]) (st' := [.ref 1826]) rfl ?_
  refine G_get (i := 414) (ci := 13) (k := 77) (v := .int 0) rfl rfl g0_1826 rfl ?_
  show am_G at_P at_cl at_ty _ mt_235 4 [(0, .ref 1826)] [.int 0] _ _
  refine G_ps 3 (pc' := 12) (l' := [(0, .ref 1826)]) (st' := [.int 1]) rfl ?_
  refine G_ret rfl rfl rfl ?_
  show am_G at_P at_cl at_ty _ mt_262 4 [(0, .ref 1826)] [.int 1] _ _
  refine G_ps 2 (pc' := 9) (l' := [(0, .ref 1826)]) (st' := [.int (-103)]) rfl ?_
  refine G_ret rfl rfl rfl ?_
  show am_G at_P at_cl at_ty _ mt_law 831 [(4, .int 0), (3, .ref 1899), (2, .ref 1826), (1, .ref 1), (0, .ref 0)] [.int (-103), .int (-103)] _ _
  refine G_ps 5 (pc' := 26) (l' := [(4, .int 6), (3, .ref 1899), (2, .ref 1826), (1, .ref 1), (0, .ref 0)]) (st' := [.ref 0, .int 6]) rfl ?_
  refine G_alen rfl g0_0 ?_
  show am_G at_P at_cl at_ty _ mt_law 27 [(4, .int 6), (3, .ref 1899), (2, .ref 1826), (1, .ref 1), (0, .ref 0)] [.int 6, .int 6] _ _
  refine G_ps 4 (pc' := 1004) (l' := [(4, .int 6), (3, .ref 1899), (2, .ref 1826), (1, .ref 1), (0, .ref 0)]) (st' := [.int 1]) rfl ?_
  refine G_ret rfl rfl rfl ?_
  exact ⟨rfl, by simp, by simp⟩
set_option maxRecDepth 100000 in
set_option maxHeartbeats 4000000 in
theorem lc_18 (S : am_S) (y0 y1 y2 y3 y4 y5 : Int32) (g0_0 : am_nth S 0 = some (6, some (.inl (.int, 6, .int 0, [(0, .int y0), (1, .int y1), (2, .int y2), (3, .int y3), (4, .int y4), (5, .int y5)])))) (g0_1 : am_nth S 1 = some (9, some (.inr (0, [.ref 2, .ref 7, .ref 361, .ref 363, .ref 366, .ref 372, .ref 406, .ref 1824, .int 0])))) (g0_406 : am_nth S 406 = some (19, some (.inr (10, [.ref 7, .ref 366, .ref 407, .ref 878, .ref 1349, .ref 1350, .ref 1350, .ref 1350, .long 0, .long 0, .ref 409, .ref 1352, .ref 1354, .int 0, .int 0, .long 0, .int 0, .int 0, .int 0])))) (g0_407 : am_nth S 407 = some (9, some (.inr (11, [.ref 408, .ref 409, .int 0, .int 0, .int 0, .int 0, .int 0, .long 0, .long 0])))) (g0_1826 : am_nth S 1826 = some (115, some (.inr (13, [.int 0, .int 0, .ref 1827, .int 0, .ref 1828, .ref 1829, .ref 1830, .ref 1831, .int 0, .ref 1832, .ref 1833, .ref 1834, .ref 1835, .int 0, .ref 1836, .ref 1837, .ref 1838, .ref 1839, .ref 1840, .int 0, .ref 1841, .ref 1842, .ref 1843, .ref 1844, .ref 1845, .ref 1846, .ref 1847, .ref 1848, .int 0, .int 0, .int 0, .int 0, .int 0, .long 0, .int 0, .int 0, .int 0, .ref 1849, .ref 1850, .int 0, .int 0, .int 0, .ref 1851, .int 0, .int 0, .ref 1852, .ref 1853, .int 0, .ref 1854, .ref 1855, .int 0, .int 0, .ref 1856, .int 0, .ref 1857, .int 0, .int 0, .int 0, .ref 1858, .int 0, .ref 1859, .ref 1860, .ref 1861, .ref 1862, .ref 1863, .ref 1864, .ref 1865, .int (-1), .ref 1866, .ref 1867, .ref 1868, .ref 1869, .int 0, .ref 1870, .int (-1), .int 0, .int 0, .int 0, .ref 1871, .ref 1872, .ref 1873, .ref 1874, .ref 1875, .ref 1876, .ref 1877, .ref 1878, .ref 1879, .ref 1880, .ref 1881, .int 0, .ref 1882, .ref 1883, .ref 1884, .int 0, .ref 1885, .int 0, .ref 1886, .int (-1), .ref 1887, .int 0, .ref 1888, .int 0, .ref 1889, .ref 1890, .ref 1891, .ref 1892, .ref 1893, .ref 1894, .ref 1895, .ref 1896, .ref 1897, .ref 1898, .int 0, .int 0, .int 0])))) : am_G at_P at_cl at_ty 12 mt_law 836 [(4, .int 0), (3, .ref 1899), (2, .ref 1826), (1, .ref 1), (0, .ref 0)] [] S (fun r _ c n => r = some (.int 1) ∧ c = 0 ∧ n = 0) := by
  have hs0 : am_same [] S S := am_same_rf _ _
  refine G_ps 5 (pc' := 842) (l' := [(4, .int 0), (3, .ref 1899), (2, .ref 1826), (1, .ref 1), (0, .ref 0)]) (st' := [.int 1, .ref 0, .ref 1]) rfl ?_
  refine G_ild (i := 1) rfl g0_0 (by decide) ?_
  show am_G at_P at_cl at_ty _ mt_law 843 [(4, .int 0), (3, .ref 1899), (2, .ref 1826), (1, .ref 1), (0, .ref 0)] [.int y1, .ref 1] _ _
  refine G_cv (i := 108) (j := 19) (b := 1) (M' := mt_19) (xs := [.int y1]) (rest := []) rfl rfl rfl rfl g0_1 (Nat.le_of_ble_eq_true rfl) (Nat.le_of_ble_eq_true rfl) ?_ (fun _ _ _ _ h9 => h9)
  show am_G at_P at_cl at_ty _ mt_19 0 [(0, .ref 1), (1, .int y1)] [] _ _
  refine G_ps 3 (pc' := if y1 < 1 then 12 else 5) (l' := [(0, .ref 1), (1, .int y1)]) (st' := []) rfl ?_
  by_cases hc1 : y1 < 1
  · rw [if_pos hc1]
    refine G_ps 1 (pc' := 14) (l' := [(0, .ref 1), (1, .int y1)]) (st' := [.int (-102)]) rfl ?_
    refine G_ret rfl rfl rfl ?_
    show am_G at_P at_cl at_ty _ mt_law 846 [(4, .int 0), (3, .ref 1899), (2, .ref 1826), (1, .ref 1), (0, .ref 0)] [.int (-102)] _ _
    refine G_ps 5 (pc' := 852) (l' := [(4, .int 0), (3, .ref 1899), (2, .ref 1826), (1, .ref 1), (0, .ref 0)]) (st' := [.int 1, .ref 0, .ref 1826, .int (-102)]) rfl ?_
    refine G_ild (i := 1) rfl g0_0 (by decide) ?_
    show am_G at_P at_cl at_ty _ mt_law 853 [(4, .int 0), (3, .ref 1899), (2, .ref 1826), (1, .ref 1), (0, .ref 0)] [.int y1, .ref 1826, .int (-102)] _ _
    refine G_cv (i := 111) (j := 266) (b := 1826) (M' := mt_266) (xs := [.int y1]) (rest := [.int (-102)]) rfl rfl rfl rfl g0_1826 (Nat.le_of_ble_eq_true rfl) (Nat.le_of_ble_eq_true rfl) ?_ (fun _ _ _ _ h9 => h9)
    show am_G at_P at_cl at_ty _ mt_266 0 [(0, .ref 1826), (1, .int y1)] [] _ _
    refine G_ps 3 (pc' := if y1 < 1 then 12 else 5) (l' := [(0, .ref 1826), (1, .int y1)]) (st' := []) rfl ?_
    by_cases hc2 : y1 < 1
    · rw [if_pos hc2]
      refine G_ps 1 (pc' := 14) (l' := [(0, .ref 1826), (1, .int y1)]) (st' := [.int (-102)]) rfl ?_
      refine G_ret rfl rfl rfl ?_
      show am_G at_P at_cl at_ty _ mt_law 856 [(4, .int 0), (3, .ref 1899), (2, .ref 1826), (1, .ref 1), (0, .ref 0)] [.int (-102), .int (-102)] _ _
      refine G_ps 5 (pc' := 26) (l' := [(4, .int 6), (3, .ref 1899), (2, .ref 1826), (1, .ref 1), (0, .ref 0)]) (st' := [.ref 0, .int 6]) rfl ?_
      refine G_alen rfl g0_0 ?_
      show am_G at_P at_cl at_ty _ mt_law 27 [(4, .int 6), (3, .ref 1899), (2, .ref 1826), (1, .ref 1), (0, .ref 0)] [.int 6, .int 6] _ _
      refine G_ps 4 (pc' := 1004) (l' := [(4, .int 6), (3, .ref 1899), (2, .ref 1826), (1, .ref 1), (0, .ref 0)]) (st' := [.int 1]) rfl ?_
      refine G_ret rfl rfl rfl ?_
      exact ⟨rfl, by simp, by simp⟩
    · rw [if_neg hc2]
      exfalso
      simp only [Int32.lt_iff_toInt_lt, Int32.le_iff_toInt_le, show (1 : Int32).toInt = 1 by decide] at hc1 hc2
      omega
  · rw [if_neg hc1]
    refine G_ps 3 (pc' := if y1 ≤ 500 then 15 else 12) (l' := [(0, .ref 1), (1, .int y1)]) (st' := []) rfl ?_
    by_cases hc3 : y1 ≤ 500
    · rw [if_pos hc3]
      refine G_ps 1 (pc' := 16) (l' := [(0, .ref 1), (1, .int y1)]) (st' := [.ref 1]) rfl ?_
      refine G_get (i := 60) (ci := 0) (k := 6) (v := .ref 406) rfl rfl g0_1 rfl ?_
      show am_G at_P at_cl at_ty _ mt_19 19 [(0, .ref 1), (1, .int y1)] [.ref 406] _ _
      refine G_get (i := 96) (ci := 10) (k := 2) (v := .ref 407) rfl rfl g0_406 rfl ?_
      show am_G at_P at_cl at_ty _ mt_19 22 [(0, .ref 1), (1, .int y1)] [.ref 407] _ _
      refine G_get (i := 129) (ci := 11) (k := 2) (v := .int 0) rfl rfl g0_407 rfl ?_
      show am_G at_P at_cl at_ty _ mt_19 25 [(0, .ref 1), (1, .int y1)] [.int 0] _ _
      refine G_ps 2 (pc' := 30) (l' := [(0, .ref 1), (1, .int y1)]) (st' := [.int (-103)]) rfl ?_
      refine G_ret rfl rfl rfl ?_
      show am_G at_P at_cl at_ty _ mt_law 846 [(4, .int 0), (3, .ref 1899), (2, .ref 1826), (1, .ref 1), (0, .ref 0)] [.int (-103)] _ _
      refine G_ps 5 (pc' := 852) (l' := [(4, .int 0), (3, .ref 1899), (2, .ref 1826), (1, .ref 1), (0, .ref 0)]) (st' := [.int 1, .ref 0, .ref 1826, .int (-103)]) rfl ?_
      refine G_ild (i := 1) rfl g0_0 (by decide) ?_
      show am_G at_P at_cl at_ty _ mt_law 853 [(4, .int 0), (3, .ref 1899), (2, .ref 1826), (1, .ref 1), (0, .ref 0)] [.int y1, .ref 1826, .int (-103)] _ _
      refine G_cv (i := 111) (j := 266) (b := 1826) (M' := mt_266) (xs := [.int y1]) (rest := [.int (-103)]) rfl rfl rfl rfl g0_1826 (Nat.le_of_ble_eq_true rfl) (Nat.le_of_ble_eq_true rfl) ?_ (fun _ _ _ _ h9 => h9)
      show am_G at_P at_cl at_ty _ mt_266 0 [(0, .ref 1826), (1, .int y1)] [] _ _
      refine G_ps 3 (pc' := if y1 < 1 then 12 else 5) (l' := [(0, .ref 1826), (1, .int y1)]) (st' := []) rfl ?_
      by_cases hc4 : y1 < 1
      · rw [if_pos hc4]
        exfalso
        simp only [Int32.lt_iff_toInt_lt, Int32.le_iff_toInt_le, show (1 : Int32).toInt = 1 by decide, show (500 : Int32).toInt = 500 by decide] at hc1 hc3 hc4
        omega
      · rw [if_neg hc4]
        refine G_ps 3 (pc' := if y1 ≤ 500 then 15 else 12) (l' := [(0, .ref 1826), (1, .int y1)]) (st' := []) rfl ?_
        by_cases hc5 : y1 ≤ 500
        · rw [if_pos hc5]
          refine G_ps 1 (pc' := 16) (l' := [(0, .ref 1826), (1, .int y1)]) (st' := [.ref 1826]) rfl ?_
          refine G_cv (i := 563) (j := 235) (b := 1826) (M' := mt_235) (xs := []) (rest := []) rfl rfl rfl rfl g0_1826 (Nat.le_of_ble_eq_true rfl) (Nat.le_of_ble_eq_true rfl) ?_ (fun _ _ _ _ h9 => h9)
          show am_G at_P at_cl at_ty _ mt_235 0 [(0, .ref 1826)] [] _ _
          refine G_ps 1 (pc' := 1) (l' := [(0, .ref 1826)]) (st' := [.ref 1826]) rfl ?_
          refine G_get (i := 414) (ci := 13) (k := 77) (v := .int 0) rfl rfl g0_1826 rfl ?_
          show am_G at_P at_cl at_ty _ mt_235 4 [(0, .ref 1826)] [.int 0] _ _
          refine G_ps 3 (pc' := 12) (l' := [(0, .ref 1826)]) (st' := [.int 1]) rfl ?_
          refine G_ret rfl rfl rfl ?_
          show am_G at_P at_cl at_ty _ mt_266 19 [(0, .ref 1826), (1, .int y1)] [.int 1] _ _
          refine G_ps 2 (pc' := 24) (l' := [(0, .ref 1826), (1, .int y1)]) (st' := [.int (-103)]) rfl ?_
          refine G_ret rfl rfl rfl ?_
          show am_G at_P at_cl at_ty _ mt_law 856 [(4, .int 0), (3, .ref 1899), (2, .ref 1826), (1, .ref 1), (0, .ref 0)] [.int (-103), .int (-103)] _ _
          refine G_ps 5 (pc' := 26) (l' := [(4, .int 6), (3, .ref 1899), (2, .ref 1826), (1, .ref 1), (0, .ref 0)]) (st' := [.ref 0, .int 6]) rfl ?_
          refine G_alen rfl g0_0 ?_
          show am_G at_P at_cl at_ty _ mt_law 27 [(4, .int 6), (3, .ref 1899), (2, .ref 1826), (1, .ref 1), (0, .ref 0)] [.int 6, .int 6] _ _
          refine G_ps 4 (pc' := 1004) (l' := [(4, .int 6), (3, .ref 1899), (2, .ref 1826), (1, .ref 1), (0, .ref 0)]) (st' := [.int 1]) rfl ?_
          refine G_ret rfl rfl rfl ?_
          exact ⟨rfl, by simp, by simp⟩
        · rw [if_neg hc5]
          exfalso
          simp only [Int32.lt_iff_toInt_lt, Int32.le_iff_toInt_le, show (1 : Int32).toInt = 1 by decide, show (500 : Int32).toInt = 500 by decide] at hc1 hc3 hc4 hc5
          omega
    · rw [if_neg hc3]
      refine G_ps 1 (pc' := 14) (l' := [(0, .ref 1), (1, .int y1)]) (st' := [.int (-102)]) rfl ?_
      refine G_ret rfl rfl rfl ?_
      show am_G at_P at_cl at_ty _ mt_law 846 [(4, .int 0), (3, .ref 1899), (2, .ref 1826), (1, .ref 1), (0, .ref 0)] [.int (-102)] _ _
      refine G_ps 5 (pc' := 852) (l' := [(4, .int 0), (3, .ref 1899), (2, .ref 1826), (1, .ref 1), (0, .ref 0)]) (st' := [.int 1, .ref 0, .ref 1826, .int (-102)]) rfl ?_
      refine G_ild (i := 1) rfl g0_0 (by decide) ?_
      show am_G at_P at_cl at_ty _ mt_law 853 [(4, .int 0), (3, .ref 1899), (2, .ref 1826), (1, .ref 1), (0, .ref 0)] [.int y1, .ref 1826, .int (-102)] _ _
      refine G_cv (i := 111) (j := 266) (b := 1826) (M' := mt_266) (xs := [.int y1]) (rest := [.int (-102)]) rfl rfl rfl rfl g0_1826 (Nat.le_of_ble_eq_true rfl) (Nat.le_of_ble_eq_true rfl) ?_ (fun _ _ _ _ h9 => h9)
      show am_G at_P at_cl at_ty _ mt_266 0 [(0, .ref 1826), (1, .int y1)] [] _ _
      refine G_ps 3 (pc' := if y1 < 1 then 12 else 5) (l' := [(0, .ref 1826), (1, .int y1)]) (st' := []) rfl ?_
      by_cases hc6 : y1 < 1
      · rw [if_pos hc6]
        exfalso
        simp only [Int32.lt_iff_toInt_lt, Int32.le_iff_toInt_le, show (1 : Int32).toInt = 1 by decide, show (500 : Int32).toInt = 500 by decide] at hc1 hc3 hc6
        omega
      · rw [if_neg hc6]
        refine G_ps 3 (pc' := if y1 ≤ 500 then 15 else 12) (l' := [(0, .ref 1826), (1, .int y1)]) (st' := []) rfl ?_
        by_cases hc7 : y1 ≤ 500
        · rw [if_pos hc7]
          exfalso
          simp only [Int32.lt_iff_toInt_lt, Int32.le_iff_toInt_le, show (1 : Int32).toInt = 1 by decide, show (500 : Int32).toInt = 500 by decide] at hc1 hc3 hc6 hc7
          omega
        · rw [if_neg hc7]
          refine G_ps 1 (pc' := 14) (l' := [(0, .ref 1826), (1, .int y1)]) (st' := [.int (-102)]) rfl ?_
          refine G_ret rfl rfl rfl ?_
          show am_G at_P at_cl at_ty _ mt_law 856 [(4, .int 0), (3, .ref 1899), (2, .ref 1826), (1, .ref 1), (0, .ref 0)] [.int (-102), .int (-102)] _ _
          refine G_ps 5 (pc' := 26) (l' := [(4, .int 6), (3, .ref 1899), (2, .ref 1826), (1, .ref 1), (0, .ref 0)]) (st' := [.ref 0, .int 6]) rfl ?_
          refine G_alen rfl g0_0 ?_
          show am_G at_P at_cl at_ty _ mt_law 27 [(4, .int 6), (3, .ref 1899), (2, .ref 1826), (1, .ref 1), (0, .ref 0)] [.int 6, .int 6] _ _
          refine G_ps 4 (pc' := 1004) (l' := [(4, .int 6), (3, .ref 1899), (2, .ref 1826), (1, .ref 1), (0, .ref 0)]) (st' := [.int 1]) rfl ?_
          refine G_ret rfl rfl rfl ?_
          exact ⟨rfl, by simp, by simp⟩
set_option maxRecDepth 100000 in
set_option maxHeartbeats 4000000 in
theorem lc_19 (S : am_S) (y0 y1 y2 y3 y4 y5 : Int32) (g0_0 : am_nth S 0 = some (6, some (.inl (.int, 6, .int 0, [(0, .int y0), (1, .int y1), (2, .int y2), (3, .int y3), (4, .int y4), (5, .int y5)])))) (g0_1 : am_nth S 1 = some (9, some (.inr (0, [.ref 2, .ref 7, .ref 361, .ref 363, .ref 366, .ref 372, .ref 406, .ref 1824, .int 0])))) (g0_406 : am_nth S 406 = some (19, some (.inr (10, [.ref 7, .ref 366, .ref 407, .ref 878, .ref 1349, .ref 1350, .ref 1350, .ref 1350, .long 0, .long 0, .ref 409, .ref 1352, .ref 1354, .int 0, .int 0, .long 0, .int 0, .int 0, .int 0])))) (g0_407 : am_nth S 407 = some (9, some (.inr (11, [.ref 408, .ref 409, .int 0, .int 0, .int 0, .int 0, .int 0, .long 0, .long 0])))) (g0_1826 : am_nth S 1826 = some (115, some (.inr (13, [.int 0, .int 0, .ref 1827, .int 0, .ref 1828, .ref 1829, .ref 1830, .ref 1831, .int 0, .ref 1832, .ref 1833, .ref 1834, .ref 1835, .int 0, .ref 1836, .ref 1837, .ref 1838, .ref 1839, .ref 1840, .int 0, .ref 1841, .ref 1842, .ref 1843, .ref 1844, .ref 1845, .ref 1846, .ref 1847, .ref 1848, .int 0, .int 0, .int 0, .int 0, .int 0, .long 0, .int 0, .int 0, .int 0, .ref 1849, .ref 1850, .int 0, .int 0, .int 0, .ref 1851, .int 0, .int 0, .ref 1852, .ref 1853, .int 0, .ref 1854, .ref 1855, .int 0, .int 0, .ref 1856, .int 0, .ref 1857, .int 0, .int 0, .int 0, .ref 1858, .int 0, .ref 1859, .ref 1860, .ref 1861, .ref 1862, .ref 1863, .ref 1864, .ref 1865, .int (-1), .ref 1866, .ref 1867, .ref 1868, .ref 1869, .int 0, .ref 1870, .int (-1), .int 0, .int 0, .int 0, .ref 1871, .ref 1872, .ref 1873, .ref 1874, .ref 1875, .ref 1876, .ref 1877, .ref 1878, .ref 1879, .ref 1880, .ref 1881, .int 0, .ref 1882, .ref 1883, .ref 1884, .int 0, .ref 1885, .int 0, .ref 1886, .int (-1), .ref 1887, .int 0, .ref 1888, .int 0, .ref 1889, .ref 1890, .ref 1891, .ref 1892, .ref 1893, .ref 1894, .ref 1895, .ref 1896, .ref 1897, .ref 1898, .int 0, .int 0, .int 0])))) : am_G at_P at_cl at_ty 12 mt_law 861 [(4, .int 0), (3, .ref 1899), (2, .ref 1826), (1, .ref 1), (0, .ref 0)] [] S (fun r _ c n => r = some (.int 1) ∧ c = 0 ∧ n = 0) := by
  have hs0 : am_same [] S S := am_same_rf _ _
  refine G_ps 5 (pc' := 867) (l' := [(4, .int 0), (3, .ref 1899), (2, .ref 1826), (1, .ref 1), (0, .ref 0)]) (st' := [.int 1, .ref 0, .ref 1]) rfl ?_
  refine G_ild (i := 1) rfl g0_0 (by decide) ?_
  show am_G at_P at_cl at_ty _ mt_law 868 [(4, .int 0), (3, .ref 1899), (2, .ref 1826), (1, .ref 1), (0, .ref 0)] [.int y1, .ref 1] _ _
  refine G_ps 4 (pc' := 873) (l' := [(4, .int 0), (3, .ref 1899), (2, .ref 1826), (1, .ref 1), (0, .ref 0)]) (st' := [.int 2, .ref 0, .int y1, .ref 1]) rfl ?_
  refine G_ild (i := 2) rfl g0_0 (by decide) ?_
  show am_G at_P at_cl at_ty _ mt_law 874 [(4, .int 0), (3, .ref 1899), (2, .ref 1826), (1, .ref 1), (0, .ref 0)] [.int y2, .int y1, .ref 1] _ _
  refine G_cv (i := 112) (j := 20) (b := 1) (M' := mt_20) (xs := [.int y2, .int y1]) (rest := []) rfl rfl rfl rfl g0_1 (Nat.le_of_ble_eq_true rfl) (Nat.le_of_ble_eq_true rfl) ?_ (fun _ _ _ _ h9 => h9)
  show am_G at_P at_cl at_ty _ mt_20 0 [(0, .ref 1), (1, .int y1), (2, .int y2)] [] _ _
  refine G_ps 1 (pc' := 1) (l' := [(0, .ref 1), (1, .int y1), (2, .int y2)]) (st' := [.ref 1]) rfl ?_
  refine G_get (i := 60) (ci := 0) (k := 6) (v := .ref 406) rfl rfl g0_1 rfl ?_
  show am_G at_P at_cl at_ty _ mt_20 4 [(0, .ref 1), (1, .int y1), (2, .int y2)] [.ref 406] _ _
  refine G_get (i := 96) (ci := 10) (k := 2) (v := .ref 407) rfl rfl g0_406 rfl ?_
  show am_G at_P at_cl at_ty _ mt_20 7 [(0, .ref 1), (1, .int y1), (2, .int y2)] [.ref 407] _ _
  refine G_ps 2 (pc' := 9) (l' := [(3, .ref 407), (0, .ref 1), (1, .int y1), (2, .int y2)]) (st' := [.ref 407]) rfl ?_
  refine G_get (i := 129) (ci := 11) (k := 2) (v := .int 0) rfl rfl g0_407 rfl ?_
  show am_G at_P at_cl at_ty _ mt_20 12 [(3, .ref 407), (0, .ref 1), (1, .int y1), (2, .int y2)] [.int 0] _ _
  refine G_ps 2 (pc' := 17) (l' := [(3, .ref 407), (0, .ref 1), (1, .int y1), (2, .int y2)]) (st' := [.int (-103)]) rfl ?_
  refine G_ret rfl rfl rfl ?_
  show am_G at_P at_cl at_ty _ mt_law 877 [(4, .int 0), (3, .ref 1899), (2, .ref 1826), (1, .ref 1), (0, .ref 0)] [.int (-103)] _ _
  refine G_ps 5 (pc' := 883) (l' := [(4, .int 0), (3, .ref 1899), (2, .ref 1826), (1, .ref 1), (0, .ref 0)]) (st' := [.int 1, .ref 0, .ref 1826, .int (-103)]) rfl ?_
  refine G_ild (i := 1) rfl g0_0 (by decide) ?_
  show am_G at_P at_cl at_ty _ mt_law 884 [(4, .int 0), (3, .ref 1899), (2, .ref 1826), (1, .ref 1), (0, .ref 0)] [.int y1, .ref 1826, .int (-103)] _ _
  refine G_ps 4 (pc' := 889) (l' := [(4, .int 0), (3, .ref 1899), (2, .ref 1826), (1, .ref 1), (0, .ref 0)]) (st' := [.int 2, .ref 0, .int y1, .ref 1826, .int (-103)]) rfl ?_
  refine G_ild (i := 2) rfl g0_0 (by decide) ?_
  show am_G at_P at_cl at_ty _ mt_law 890 [(4, .int 0), (3, .ref 1899), (2, .ref 1826), (1, .ref 1), (0, .ref 0)] [.int y2, .int y1, .ref 1826, .int (-103)] _ _
  refine G_cv (i := 115) (j := 270) (b := 1826) (M' := mt_270) (xs := [.int y2, .int y1]) (rest := [.int (-103)]) rfl rfl rfl rfl g0_1826 (Nat.le_of_ble_eq_true rfl) (Nat.le_of_ble_eq_true rfl) ?_ (fun _ _ _ _ h9 => h9)
  show am_G at_P at_cl at_ty _ mt_270 0 [(0, .ref 1826), (1, .int y1), (2, .int y2)] [] _ _
  refine G_ps 1 (pc' := 1) (l' := [(0, .ref 1826), (1, .int y1), (2, .int y2)]) (st' := [.ref 1826]) rfl ?_
  refine G_cv (i := 563) (j := 235) (b := 1826) (M' := mt_235) (xs := []) (rest := []) rfl rfl rfl rfl g0_1826 (Nat.le_of_ble_eq_true rfl) (Nat.le_of_ble_eq_true rfl) ?_ (fun _ _ _ _ h9 => h9)
  show am_G at_P at_cl at_ty _ mt_235 0 [(0, .ref 1826)] [] _ _
  refine G_ps 1 (pc' := 1) (l' := [(0, .ref 1826)]) (st' := [.ref 1826]) rfl ?_
  refine G_get (i := 414) (ci := 13) (k := 77) (v := .int 0) rfl rfl g0_1826 rfl ?_
  show am_G at_P at_cl at_ty _ mt_235 4 [(0, .ref 1826)] [.int 0] _ _
  refine G_ps 3 (pc' := 12) (l' := [(0, .ref 1826)]) (st' := [.int 1]) rfl ?_
  refine G_ret rfl rfl rfl ?_
  show am_G at_P at_cl at_ty _ mt_270 4 [(0, .ref 1826), (1, .int y1), (2, .int y2)] [.int 1] _ _
  refine G_ps 2 (pc' := 9) (l' := [(0, .ref 1826), (1, .int y1), (2, .int y2)]) (st' := [.int (-103)]) rfl ?_
  refine G_ret rfl rfl rfl ?_
  show am_G at_P at_cl at_ty _ mt_law 893 [(4, .int 0), (3, .ref 1899), (2, .ref 1826), (1, .ref 1), (0, .ref 0)] [.int (-103), .int (-103)] _ _
  refine G_ps 5 (pc' := 26) (l' := [(4, .int 6), (3, .ref 1899), (2, .ref 1826), (1, .ref 1), (0, .ref 0)]) (st' := [.ref 0, .int 6]) rfl ?_
  refine G_alen rfl g0_0 ?_
  show am_G at_P at_cl at_ty _ mt_law 27 [(4, .int 6), (3, .ref 1899), (2, .ref 1826), (1, .ref 1), (0, .ref 0)] [.int 6, .int 6] _ _
  refine G_ps 4 (pc' := 1004) (l' := [(4, .int 6), (3, .ref 1899), (2, .ref 1826), (1, .ref 1), (0, .ref 0)]) (st' := [.int 1]) rfl ?_
  refine G_ret rfl rfl rfl ?_
  exact ⟨rfl, by simp, by simp⟩
set_option maxRecDepth 100000 in
set_option maxHeartbeats 4000000 in
theorem lc_20 (S : am_S) (y0 y1 y2 y3 y4 y5 : Int32) (g0_0 : am_nth S 0 = some (6, some (.inl (.int, 6, .int 0, [(0, .int y0), (1, .int y1), (2, .int y2), (3, .int y3), (4, .int y4), (5, .int y5)])))) (g0_1 : am_nth S 1 = some (9, some (.inr (0, [.ref 2, .ref 7, .ref 361, .ref 363, .ref 366, .ref 372, .ref 406, .ref 1824, .int 0])))) (g0_406 : am_nth S 406 = some (19, some (.inr (10, [.ref 7, .ref 366, .ref 407, .ref 878, .ref 1349, .ref 1350, .ref 1350, .ref 1350, .long 0, .long 0, .ref 409, .ref 1352, .ref 1354, .int 0, .int 0, .long 0, .int 0, .int 0, .int 0])))) (g0_407 : am_nth S 407 = some (9, some (.inr (11, [.ref 408, .ref 409, .int 0, .int 0, .int 0, .int 0, .int 0, .long 0, .long 0])))) (g0_1826 : am_nth S 1826 = some (115, some (.inr (13, [.int 0, .int 0, .ref 1827, .int 0, .ref 1828, .ref 1829, .ref 1830, .ref 1831, .int 0, .ref 1832, .ref 1833, .ref 1834, .ref 1835, .int 0, .ref 1836, .ref 1837, .ref 1838, .ref 1839, .ref 1840, .int 0, .ref 1841, .ref 1842, .ref 1843, .ref 1844, .ref 1845, .ref 1846, .ref 1847, .ref 1848, .int 0, .int 0, .int 0, .int 0, .int 0, .long 0, .int 0, .int 0, .int 0, .ref 1849, .ref 1850, .int 0, .int 0, .int 0, .ref 1851, .int 0, .int 0, .ref 1852, .ref 1853, .int 0, .ref 1854, .ref 1855, .int 0, .int 0, .ref 1856, .int 0, .ref 1857, .int 0, .int 0, .int 0, .ref 1858, .int 0, .ref 1859, .ref 1860, .ref 1861, .ref 1862, .ref 1863, .ref 1864, .ref 1865, .int (-1), .ref 1866, .ref 1867, .ref 1868, .ref 1869, .int 0, .ref 1870, .int (-1), .int 0, .int 0, .int 0, .ref 1871, .ref 1872, .ref 1873, .ref 1874, .ref 1875, .ref 1876, .ref 1877, .ref 1878, .ref 1879, .ref 1880, .ref 1881, .int 0, .ref 1882, .ref 1883, .ref 1884, .int 0, .ref 1885, .int 0, .ref 1886, .int (-1), .ref 1887, .int 0, .ref 1888, .int 0, .ref 1889, .ref 1890, .ref 1891, .ref 1892, .ref 1893, .ref 1894, .ref 1895, .ref 1896, .ref 1897, .ref 1898, .int 0, .int 0, .int 0])))) : am_G at_P at_cl at_ty 12 mt_law 898 [(4, .int 0), (3, .ref 1899), (2, .ref 1826), (1, .ref 1), (0, .ref 0)] [] S (fun r _ c n => r = some (.int 1) ∧ c = 0 ∧ n = 0) := by
  have hs0 : am_same [] S S := am_same_rf _ _
  refine G_ps 5 (pc' := 904) (l' := [(4, .int 0), (3, .ref 1899), (2, .ref 1826), (1, .ref 1), (0, .ref 0)]) (st' := [.int 1, .ref 0, .ref 1]) rfl ?_
  refine G_ild (i := 1) rfl g0_0 (by decide) ?_
  show am_G at_P at_cl at_ty _ mt_law 905 [(4, .int 0), (3, .ref 1899), (2, .ref 1826), (1, .ref 1), (0, .ref 0)] [.int y1, .ref 1] _ _
  refine G_ps 4 (pc' := 910) (l' := [(4, .int 0), (3, .ref 1899), (2, .ref 1826), (1, .ref 1), (0, .ref 0)]) (st' := [.int 2, .ref 0, .int y1, .ref 1]) rfl ?_
  refine G_ild (i := 2) rfl g0_0 (by decide) ?_
  show am_G at_P at_cl at_ty _ mt_law 911 [(4, .int 0), (3, .ref 1899), (2, .ref 1826), (1, .ref 1), (0, .ref 0)] [.int y2, .int y1, .ref 1] _ _
  refine G_cv (i := 116) (j := 21) (b := 1) (M' := mt_21) (xs := [.int y2, .int y1]) (rest := []) rfl rfl rfl rfl g0_1 (Nat.le_of_ble_eq_true rfl) (Nat.le_of_ble_eq_true rfl) ?_ (fun _ _ _ _ h9 => h9)
  show am_G at_P at_cl at_ty _ mt_21 0 [(0, .ref 1), (1, .int y1), (2, .int y2)] [] _ _
  refine G_ps 1 (pc' := 1) (l' := [(0, .ref 1), (1, .int y1), (2, .int y2)]) (st' := [.ref 1]) rfl ?_
  refine G_get (i := 60) (ci := 0) (k := 6) (v := .ref 406) rfl rfl g0_1 rfl ?_
  show am_G at_P at_cl at_ty _ mt_21 4 [(0, .ref 1), (1, .int y1), (2, .int y2)] [.ref 406] _ _
  refine G_get (i := 96) (ci := 10) (k := 2) (v := .ref 407) rfl rfl g0_406 rfl ?_
  show am_G at_P at_cl at_ty _ mt_21 7 [(0, .ref 1), (1, .int y1), (2, .int y2)] [.ref 407] _ _
  refine G_get (i := 129) (ci := 11) (k := 2) (v := .int 0) rfl rfl g0_407 rfl ?_
  show am_G at_P at_cl at_ty _ mt_21 10 [(0, .ref 1), (1, .int y1), (2, .int y2)] [.int 0] _ _
  refine G_ps 2 (pc' := 15) (l' := [(0, .ref 1), (1, .int y1), (2, .int y2)]) (st' := [.int (-103)]) rfl ?_
  refine G_ret rfl rfl rfl ?_
  show am_G at_P at_cl at_ty _ mt_law 914 [(4, .int 0), (3, .ref 1899), (2, .ref 1826), (1, .ref 1), (0, .ref 0)] [.int (-103)] _ _
  refine G_ps 5 (pc' := 920) (l' := [(4, .int 0), (3, .ref 1899), (2, .ref 1826), (1, .ref 1), (0, .ref 0)]) (st' := [.int 1, .ref 0, .ref 1826, .int (-103)]) rfl ?_
  refine G_ild (i := 1) rfl g0_0 (by decide) ?_
  show am_G at_P at_cl at_ty _ mt_law 921 [(4, .int 0), (3, .ref 1899), (2, .ref 1826), (1, .ref 1), (0, .ref 0)] [.int y1, .ref 1826, .int (-103)] _ _
  refine G_ps 4 (pc' := 926) (l' := [(4, .int 0), (3, .ref 1899), (2, .ref 1826), (1, .ref 1), (0, .ref 0)]) (st' := [.int 2, .ref 0, .int y1, .ref 1826, .int (-103)]) rfl ?_
  refine G_ild (i := 2) rfl g0_0 (by decide) ?_
  show am_G at_P at_cl at_ty _ mt_law 927 [(4, .int 0), (3, .ref 1899), (2, .ref 1826), (1, .ref 1), (0, .ref 0)] [.int y2, .int y1, .ref 1826, .int (-103)] _ _
  refine G_cv (i := 119) (j := 271) (b := 1826) (M' := mt_271) (xs := [.int y2, .int y1]) (rest := [.int (-103)]) rfl rfl rfl rfl g0_1826 (Nat.le_of_ble_eq_true rfl) (Nat.le_of_ble_eq_true rfl) ?_ (fun _ _ _ _ h9 => h9)
  show am_G at_P at_cl at_ty _ mt_271 0 [(0, .ref 1826), (1, .int y1), (2, .int y2)] [] _ _
  refine G_ps 1 (pc' := 1) (l' := [(0, .ref 1826), (1, .int y1), (2, .int y2)]) (st' := [.ref 1826]) rfl ?_
  refine G_cv (i := 563) (j := 235) (b := 1826) (M' := mt_235) (xs := []) (rest := []) rfl rfl rfl rfl g0_1826 (Nat.le_of_ble_eq_true rfl) (Nat.le_of_ble_eq_true rfl) ?_ (fun _ _ _ _ h9 => h9)
  show am_G at_P at_cl at_ty _ mt_235 0 [(0, .ref 1826)] [] _ _
  refine G_ps 1 (pc' := 1) (l' := [(0, .ref 1826)]) (st' := [.ref 1826]) rfl ?_
  refine G_get (i := 414) (ci := 13) (k := 77) (v := .int 0) rfl rfl g0_1826 rfl ?_
  show am_G at_P at_cl at_ty _ mt_235 4 [(0, .ref 1826)] [.int 0] _ _
  refine G_ps 3 (pc' := 12) (l' := [(0, .ref 1826)]) (st' := [.int 1]) rfl ?_
  refine G_ret rfl rfl rfl ?_
  show am_G at_P at_cl at_ty _ mt_271 4 [(0, .ref 1826), (1, .int y1), (2, .int y2)] [.int 1] _ _
  refine G_ps 2 (pc' := 9) (l' := [(0, .ref 1826), (1, .int y1), (2, .int y2)]) (st' := [.int (-103)]) rfl ?_
  refine G_ret rfl rfl rfl ?_
  show am_G at_P at_cl at_ty _ mt_law 930 [(4, .int 0), (3, .ref 1899), (2, .ref 1826), (1, .ref 1), (0, .ref 0)] [.int (-103), .int (-103)] _ _
  refine G_ps 5 (pc' := 26) (l' := [(4, .int 6), (3, .ref 1899), (2, .ref 1826), (1, .ref 1), (0, .ref 0)]) (st' := [.ref 0, .int 6]) rfl ?_
  refine G_alen rfl g0_0 ?_
  show am_G at_P at_cl at_ty _ mt_law 27 [(4, .int 6), (3, .ref 1899), (2, .ref 1826), (1, .ref 1), (0, .ref 0)] [.int 6, .int 6] _ _
  refine G_ps 4 (pc' := 1004) (l' := [(4, .int 6), (3, .ref 1899), (2, .ref 1826), (1, .ref 1), (0, .ref 0)]) (st' := [.int 1]) rfl ?_
  refine G_ret rfl rfl rfl ?_
  exact ⟨rfl, by simp, by simp⟩
set_option maxRecDepth 100000 in
set_option maxHeartbeats 4000000 in
theorem lc_21 (S : am_S) (y0 y1 y2 y3 y4 y5 : Int32) (g0_0 : am_nth S 0 = some (6, some (.inl (.int, 6, .int 0, [(0, .int y0), (1, .int y1), (2, .int y2), (3, .int y3), (4, .int y4), (5, .int y5)])))) (g0_1 : am_nth S 1 = some (9, some (.inr (0, [.ref 2, .ref 7, .ref 361, .ref 363, .ref 366, .ref 372, .ref 406, .ref 1824, .int 0])))) (g0_7 : am_nth S 7 = some (7, some (.inr (2, [.ref 8, .ref 13, .ref 18, .ref 23, .ref 24, .int 0, .int 0])))) (g0_1826 : am_nth S 1826 = some (115, some (.inr (13, [.int 0, .int 0, .ref 1827, .int 0, .ref 1828, .ref 1829, .ref 1830, .ref 1831, .int 0, .ref 1832, .ref 1833, .ref 1834, .ref 1835, .int 0, .ref 1836, .ref 1837, .ref 1838, .ref 1839, .ref 1840, .int 0, .ref 1841, .ref 1842, .ref 1843, .ref 1844, .ref 1845, .ref 1846, .ref 1847, .ref 1848, .int 0, .int 0, .int 0, .int 0, .int 0, .long 0, .int 0, .int 0, .int 0, .ref 1849, .ref 1850, .int 0, .int 0, .int 0, .ref 1851, .int 0, .int 0, .ref 1852, .ref 1853, .int 0, .ref 1854, .ref 1855, .int 0, .int 0, .ref 1856, .int 0, .ref 1857, .int 0, .int 0, .int 0, .ref 1858, .int 0, .ref 1859, .ref 1860, .ref 1861, .ref 1862, .ref 1863, .ref 1864, .ref 1865, .int (-1), .ref 1866, .ref 1867, .ref 1868, .ref 1869, .int 0, .ref 1870, .int (-1), .int 0, .int 0, .int 0, .ref 1871, .ref 1872, .ref 1873, .ref 1874, .ref 1875, .ref 1876, .ref 1877, .ref 1878, .ref 1879, .ref 1880, .ref 1881, .int 0, .ref 1882, .ref 1883, .ref 1884, .int 0, .ref 1885, .int 0, .ref 1886, .int (-1), .ref 1887, .int 0, .ref 1888, .int 0, .ref 1889, .ref 1890, .ref 1891, .ref 1892, .ref 1893, .ref 1894, .ref 1895, .ref 1896, .ref 1897, .ref 1898, .int 0, .int 0, .int 0])))) : am_G at_P at_cl at_ty 12 mt_law 935 [(4, .int 0), (3, .ref 1899), (2, .ref 1826), (1, .ref 1), (0, .ref 0)] [] S (fun r _ c n => r = some (.int 1) ∧ c = 0 ∧ n = 0) := by
  have hs0 : am_same [] S S := am_same_rf _ _
  refine G_ps 5 (pc' := 941) (l' := [(4, .int 0), (3, .ref 1899), (2, .ref 1826), (1, .ref 1), (0, .ref 0)]) (st' := [.int 1, .ref 0, .ref 1]) rfl ?_
  refine G_ild (i := 1) rfl g0_0 (by decide) ?_
  show am_G at_P at_cl at_ty _ mt_law 942 [(4, .int 0), (3, .ref 1899), (2, .ref 1826), (1, .ref 1), (0, .ref 0)] [.int y1, .ref 1] _ _
  refine G_ps 4 (pc' := 947) (l' := [(4, .int 0), (3, .ref 1899), (2, .ref 1826), (1, .ref 1), (0, .ref 0)]) (st' := [.int 2, .ref 0, .int y1, .ref 1]) rfl ?_
  refine G_ild (i := 2) rfl g0_0 (by decide) ?_
  show am_G at_P at_cl at_ty _ mt_law 948 [(4, .int 0), (3, .ref 1899), (2, .ref 1826), (1, .ref 1), (0, .ref 0)] [.int y2, .int y1, .ref 1] _ _
  refine G_cv (i := 120) (j := 22) (b := 1) (M' := mt_22) (xs := [.int y2, .int y1]) (rest := []) rfl rfl rfl rfl g0_1 (Nat.le_of_ble_eq_true rfl) (Nat.le_of_ble_eq_true rfl) ?_ (fun _ _ _ _ h9 => h9)
  show am_G at_P at_cl at_ty _ mt_22 0 [(0, .ref 1), (1, .int y1), (2, .int y2)] [] _ _
  refine G_ps 1 (pc' := 1) (l' := [(0, .ref 1), (1, .int y1), (2, .int y2)]) (st' := [.ref 1]) rfl ?_
  refine G_get (i := 19) (ci := 0) (k := 1) (v := .ref 7) rfl rfl g0_1 rfl ?_
  show am_G at_P at_cl at_ty _ mt_22 4 [(0, .ref 1), (1, .int y1), (2, .int y2)] [.ref 7] _ _
  refine G_ps 1 (pc' := 5) (l' := [(0, .ref 1), (1, .int y1), (2, .int y2)]) (st' := [.int y1, .ref 7]) rfl ?_
  refine G_cv (i := 144) (j := 35) (b := 7) (M' := mt_35) (xs := [.int y1]) (rest := []) rfl rfl rfl rfl g0_7 (Nat.le_of_ble_eq_true rfl) (Nat.le_of_ble_eq_true rfl) ?_ (fun _ _ _ _ h9 => h9)
  show am_G at_P at_cl at_ty _ mt_35 0 [(0, .ref 7), (1, .int y1)] [] _ _
  refine G_ps 2 (pc' := if y1 < 0 then 25 else 4) (l' := [(0, .ref 7), (1, .int y1)]) (st' := []) rfl ?_
  by_cases hc1 : y1 < 0
  · rw [if_pos hc1]
    refine G_ps 1 (pc' := 26) (l' := [(0, .ref 7), (1, .int y1)]) (st' := [.int 0]) rfl ?_
    refine G_ret rfl rfl rfl ?_
    show am_G at_P at_cl at_ty _ mt_22 8 [(0, .ref 1), (1, .int y1), (2, .int y2)] [.int 0] _ _
    refine G_ps 2 (pc' := 13) (l' := [(0, .ref 1), (1, .int y1), (2, .int y2)]) (st' := [.int (-101)]) rfl ?_
    refine G_ret rfl rfl rfl ?_
    show am_G at_P at_cl at_ty _ mt_law 951 [(4, .int 0), (3, .ref 1899), (2, .ref 1826), (1, .ref 1), (0, .ref 0)] [.int (-101)] _ _
    refine G_ps 5 (pc' := 957) (l' := [(4, .int 0), (3, .ref 1899), (2, .ref 1826), (1, .ref 1), (0, .ref 0)]) (st' := [.int 1, .ref 0, .ref 1826, .int (-101)]) rfl ?_
    refine G_ild (i := 1) rfl g0_0 (by decide) ?_
    show am_G at_P at_cl at_ty _ mt_law 958 [(4, .int 0), (3, .ref 1899), (2, .ref 1826), (1, .ref 1), (0, .ref 0)] [.int y1, .ref 1826, .int (-101)] _ _
    refine G_ps 4 (pc' := 963) (l' := [(4, .int 0), (3, .ref 1899), (2, .ref 1826), (1, .ref 1), (0, .ref 0)]) (st' := [.int 2, .ref 0, .int y1, .ref 1826, .int (-101)]) rfl ?_
    refine G_ild (i := 2) rfl g0_0 (by decide) ?_
    show am_G at_P at_cl at_ty _ mt_law 964 [(4, .int 0), (3, .ref 1899), (2, .ref 1826), (1, .ref 1), (0, .ref 0)] [.int y2, .int y1, .ref 1826, .int (-101)] _ _
    refine G_cv (i := 123) (j := 272) (b := 1826) (M' := mt_272) (xs := [.int y2, .int y1]) (rest := [.int (-101)]) rfl rfl rfl rfl g0_1826 (Nat.le_of_ble_eq_true rfl) (Nat.le_of_ble_eq_true rfl) ?_ (fun _ _ _ _ h9 => h9)
    show am_G at_P at_cl at_ty _ mt_272 0 [(0, .ref 1826), (1, .int y1), (2, .int y2)] [] _ _
    refine G_ps 2 (pc' := if y1 < 0 then 12 else 4) (l' := [(0, .ref 1826), (1, .int y1), (2, .int y2)]) (st' := []) rfl ?_
    by_cases hc2 : y1 < 0
    · rw [if_pos hc2]
      refine G_ps 1 (pc' := 14) (l' := [(0, .ref 1826), (1, .int y1), (2, .int y2)]) (st' := [.int (-101)]) rfl ?_
      refine G_ret rfl rfl rfl ?_
      show am_G at_P at_cl at_ty _ mt_law 967 [(4, .int 0), (3, .ref 1899), (2, .ref 1826), (1, .ref 1), (0, .ref 0)] [.int (-101), .int (-101)] _ _
      refine G_ps 5 (pc' := 26) (l' := [(4, .int 6), (3, .ref 1899), (2, .ref 1826), (1, .ref 1), (0, .ref 0)]) (st' := [.ref 0, .int 6]) rfl ?_
      refine G_alen rfl g0_0 ?_
      show am_G at_P at_cl at_ty _ mt_law 27 [(4, .int 6), (3, .ref 1899), (2, .ref 1826), (1, .ref 1), (0, .ref 0)] [.int 6, .int 6] _ _
      refine G_ps 4 (pc' := 1004) (l' := [(4, .int 6), (3, .ref 1899), (2, .ref 1826), (1, .ref 1), (0, .ref 0)]) (st' := [.int 1]) rfl ?_
      refine G_ret rfl rfl rfl ?_
      exact ⟨rfl, by simp, by simp⟩
    · rw [if_neg hc2]
      exfalso
      simp only [Int32.lt_iff_toInt_lt, Int32.le_iff_toInt_le, show (0 : Int32).toInt = 0 by decide] at hc1 hc2
      omega
  · rw [if_neg hc1]
    refine G_ps 2 (pc' := 6) (l' := [(0, .ref 7), (1, .int y1)]) (st' := [.ref 7, .int y1]) rfl ?_
    refine G_get (i := 36) (ci := 2) (k := 6) (v := .int 0) rfl rfl g0_7 rfl ?_
    show am_G at_P at_cl at_ty _ mt_35 9 [(0, .ref 7), (1, .int y1)] [.int 0, .int y1] _ _
    refine G_ps 1 (pc' := if 0 ≤ y1 then 25 else 12) (l' := [(0, .ref 7), (1, .int y1)]) (st' := []) rfl ?_
    by_cases hc3 : 0 ≤ y1
    · rw [if_pos hc3]
      refine G_ps 1 (pc' := 26) (l' := [(0, .ref 7), (1, .int y1)]) (st' := [.int 0]) rfl ?_
      refine G_ret rfl rfl rfl ?_
      show am_G at_P at_cl at_ty _ mt_22 8 [(0, .ref 1), (1, .int y1), (2, .int y2)] [.int 0] _ _
      refine G_ps 2 (pc' := 13) (l' := [(0, .ref 1), (1, .int y1), (2, .int y2)]) (st' := [.int (-101)]) rfl ?_
      refine G_ret rfl rfl rfl ?_
      show am_G at_P at_cl at_ty _ mt_law 951 [(4, .int 0), (3, .ref 1899), (2, .ref 1826), (1, .ref 1), (0, .ref 0)] [.int (-101)] _ _
      refine G_ps 5 (pc' := 957) (l' := [(4, .int 0), (3, .ref 1899), (2, .ref 1826), (1, .ref 1), (0, .ref 0)]) (st' := [.int 1, .ref 0, .ref 1826, .int (-101)]) rfl ?_
      refine G_ild (i := 1) rfl g0_0 (by decide) ?_
      show am_G at_P at_cl at_ty _ mt_law 958 [(4, .int 0), (3, .ref 1899), (2, .ref 1826), (1, .ref 1), (0, .ref 0)] [.int y1, .ref 1826, .int (-101)] _ _
      refine G_ps 4 (pc' := 963) (l' := [(4, .int 0), (3, .ref 1899), (2, .ref 1826), (1, .ref 1), (0, .ref 0)]) (st' := [.int 2, .ref 0, .int y1, .ref 1826, .int (-101)]) rfl ?_
      refine G_ild (i := 2) rfl g0_0 (by decide) ?_
      show am_G at_P at_cl at_ty _ mt_law 964 [(4, .int 0), (3, .ref 1899), (2, .ref 1826), (1, .ref 1), (0, .ref 0)] [.int y2, .int y1, .ref 1826, .int (-101)] _ _
      refine G_cv (i := 123) (j := 272) (b := 1826) (M' := mt_272) (xs := [.int y2, .int y1]) (rest := [.int (-101)]) rfl rfl rfl rfl g0_1826 (Nat.le_of_ble_eq_true rfl) (Nat.le_of_ble_eq_true rfl) ?_ (fun _ _ _ _ h9 => h9)
      show am_G at_P at_cl at_ty _ mt_272 0 [(0, .ref 1826), (1, .int y1), (2, .int y2)] [] _ _
      refine G_ps 2 (pc' := if y1 < 0 then 12 else 4) (l' := [(0, .ref 1826), (1, .int y1), (2, .int y2)]) (st' := []) rfl ?_
      by_cases hc4 : y1 < 0
      · rw [if_pos hc4]
        exfalso
        simp only [Int32.lt_iff_toInt_lt, Int32.le_iff_toInt_le, show (0 : Int32).toInt = 0 by decide] at hc1 hc3 hc4
        omega
      · rw [if_neg hc4]
        refine G_ps 2 (pc' := 6) (l' := [(0, .ref 1826), (1, .int y1), (2, .int y2)]) (st' := [.ref 1826, .int y1]) rfl ?_
        refine G_get (i := 387) (ci := 13) (k := 19) (v := .int 0) rfl rfl g0_1826 rfl ?_
        show am_G at_P at_cl at_ty _ mt_272 9 [(0, .ref 1826), (1, .int y1), (2, .int y2)] [.int 0, .int y1] _ _
        refine G_ps 1 (pc' := if y1 < 0 then 15 else 12) (l' := [(0, .ref 1826), (1, .int y1), (2, .int y2)]) (st' := []) rfl ?_
        by_cases hc5 : y1 < 0
        · rw [if_pos hc5]
          exfalso
          simp only [Int32.lt_iff_toInt_lt, Int32.le_iff_toInt_le, show (0 : Int32).toInt = 0 by decide] at hc1 hc3 hc4 hc5
          omega
        · rw [if_neg hc5]
          refine G_ps 1 (pc' := 14) (l' := [(0, .ref 1826), (1, .int y1), (2, .int y2)]) (st' := [.int (-101)]) rfl ?_
          refine G_ret rfl rfl rfl ?_
          show am_G at_P at_cl at_ty _ mt_law 967 [(4, .int 0), (3, .ref 1899), (2, .ref 1826), (1, .ref 1), (0, .ref 0)] [.int (-101), .int (-101)] _ _
          refine G_ps 5 (pc' := 26) (l' := [(4, .int 6), (3, .ref 1899), (2, .ref 1826), (1, .ref 1), (0, .ref 0)]) (st' := [.ref 0, .int 6]) rfl ?_
          refine G_alen rfl g0_0 ?_
          show am_G at_P at_cl at_ty _ mt_law 27 [(4, .int 6), (3, .ref 1899), (2, .ref 1826), (1, .ref 1), (0, .ref 0)] [.int 6, .int 6] _ _
          refine G_ps 4 (pc' := 1004) (l' := [(4, .int 6), (3, .ref 1899), (2, .ref 1826), (1, .ref 1), (0, .ref 0)]) (st' := [.int 1]) rfl ?_
          refine G_ret rfl rfl rfl ?_
          exact ⟨rfl, by simp, by simp⟩
    · rw [if_neg hc3]
      exfalso
      simp only [Int32.lt_iff_toInt_lt, Int32.le_iff_toInt_le, show (0 : Int32).toInt = 0 by decide] at hc1 hc3
      omega
set_option maxRecDepth 100000 in
set_option maxHeartbeats 4000000 in
theorem lc_22 (S : am_S) (y0 y1 y2 y3 y4 y5 : Int32) (g0_0 : am_nth S 0 = some (6, some (.inl (.int, 6, .int 0, [(0, .int y0), (1, .int y1), (2, .int y2), (3, .int y3), (4, .int y4), (5, .int y5)])))) (g0_1 : am_nth S 1 = some (9, some (.inr (0, [.ref 2, .ref 7, .ref 361, .ref 363, .ref 366, .ref 372, .ref 406, .ref 1824, .int 0])))) (g0_363 : am_nth S 363 = some (4, some (.inr (7, [.ref 7, .ref 364, .ref 365, .int 0])))) (g0_1826 : am_nth S 1826 = some (115, some (.inr (13, [.int 0, .int 0, .ref 1827, .int 0, .ref 1828, .ref 1829, .ref 1830, .ref 1831, .int 0, .ref 1832, .ref 1833, .ref 1834, .ref 1835, .int 0, .ref 1836, .ref 1837, .ref 1838, .ref 1839, .ref 1840, .int 0, .ref 1841, .ref 1842, .ref 1843, .ref 1844, .ref 1845, .ref 1846, .ref 1847, .ref 1848, .int 0, .int 0, .int 0, .int 0, .int 0, .long 0, .int 0, .int 0, .int 0, .ref 1849, .ref 1850, .int 0, .int 0, .int 0, .ref 1851, .int 0, .int 0, .ref 1852, .ref 1853, .int 0, .ref 1854, .ref 1855, .int 0, .int 0, .ref 1856, .int 0, .ref 1857, .int 0, .int 0, .int 0, .ref 1858, .int 0, .ref 1859, .ref 1860, .ref 1861, .ref 1862, .ref 1863, .ref 1864, .ref 1865, .int (-1), .ref 1866, .ref 1867, .ref 1868, .ref 1869, .int 0, .ref 1870, .int (-1), .int 0, .int 0, .int 0, .ref 1871, .ref 1872, .ref 1873, .ref 1874, .ref 1875, .ref 1876, .ref 1877, .ref 1878, .ref 1879, .ref 1880, .ref 1881, .int 0, .ref 1882, .ref 1883, .ref 1884, .int 0, .ref 1885, .int 0, .ref 1886, .int (-1), .ref 1887, .int 0, .ref 1888, .int 0, .ref 1889, .ref 1890, .ref 1891, .ref 1892, .ref 1893, .ref 1894, .ref 1895, .ref 1896, .ref 1897, .ref 1898, .int 0, .int 0, .int 0])))) : am_G at_P at_cl at_ty 12 mt_law 972 [(4, .int 0), (3, .ref 1899), (2, .ref 1826), (1, .ref 1), (0, .ref 0)] [] S (fun r _ c n => r = some (.int 1) ∧ c = 0 ∧ n = 0) := by
  have hs0 : am_same [] S S := am_same_rf _ _
  refine G_ps 5 (pc' := 978) (l' := [(4, .int 0), (3, .ref 1899), (2, .ref 1826), (1, .ref 1), (0, .ref 0)]) (st' := [.int 1, .ref 0, .ref 1]) rfl ?_
  refine G_ild (i := 1) rfl g0_0 (by decide) ?_
  show am_G at_P at_cl at_ty _ mt_law 979 [(4, .int 0), (3, .ref 1899), (2, .ref 1826), (1, .ref 1), (0, .ref 0)] [.int y1, .ref 1] _ _
  refine G_cv (i := 124) (j := 23) (b := 1) (M' := mt_23) (xs := [.int y1]) (rest := []) rfl rfl rfl rfl g0_1 (Nat.le_of_ble_eq_true rfl) (Nat.le_of_ble_eq_true rfl) ?_ (fun _ _ _ _ h9 => h9)
  show am_G at_P at_cl at_ty _ mt_23 0 [(0, .ref 1), (1, .int y1)] [] _ _
  refine G_ps 2 (pc' := if y1 < 0 then 27 else 4) (l' := [(0, .ref 1), (1, .int y1)]) (st' := []) rfl ?_
  by_cases hc1 : y1 < 0
  · rw [if_pos hc1]
    refine G_ps 1 (pc' := 28) (l' := [(0, .ref 1), (1, .int y1)]) (st' := [.int (-1)]) rfl ?_
    refine G_ret rfl rfl rfl ?_
    show am_G at_P at_cl at_ty _ mt_law 982 [(4, .int 0), (3, .ref 1899), (2, .ref 1826), (1, .ref 1), (0, .ref 0)] [.int (-1)] _ _
    refine G_ps 5 (pc' := 988) (l' := [(4, .int 0), (3, .ref 1899), (2, .ref 1826), (1, .ref 1), (0, .ref 0)]) (st' := [.int 1, .ref 0, .ref 1826, .int (-1)]) rfl ?_
    refine G_ild (i := 1) rfl g0_0 (by decide) ?_
    show am_G at_P at_cl at_ty _ mt_law 989 [(4, .int 0), (3, .ref 1899), (2, .ref 1826), (1, .ref 1), (0, .ref 0)] [.int y1, .ref 1826, .int (-1)] _ _
    refine G_cv (i := 127) (j := 207) (b := 1826) (M' := mt_207) (xs := [.int y1]) (rest := [.int (-1)]) rfl rfl rfl rfl g0_1826 (Nat.le_of_ble_eq_true rfl) (Nat.le_of_ble_eq_true rfl) ?_ (fun _ _ _ _ h9 => h9)
    show am_G at_P at_cl at_ty _ mt_207 0 [(0, .ref 1826), (1, .int y1)] [] _ _
    refine G_ps 2 (pc' := if y1 < 0 then 21 else 4) (l' := [(0, .ref 1826), (1, .int y1)]) (st' := []) rfl ?_
    by_cases hc2 : y1 < 0
    · rw [if_pos hc2]
      refine G_ps 1 (pc' := 22) (l' := [(0, .ref 1826), (1, .int y1)]) (st' := [.int (-1)]) rfl ?_
      refine G_ret rfl rfl rfl ?_
      show am_G at_P at_cl at_ty _ mt_law 992 [(4, .int 0), (3, .ref 1899), (2, .ref 1826), (1, .ref 1), (0, .ref 0)] [.int (-1), .int (-1)] _ _
      refine G_ps 5 (pc' := 26) (l' := [(4, .int 6), (3, .ref 1899), (2, .ref 1826), (1, .ref 1), (0, .ref 0)]) (st' := [.ref 0, .int 6]) rfl ?_
      refine G_alen rfl g0_0 ?_
      show am_G at_P at_cl at_ty _ mt_law 27 [(4, .int 6), (3, .ref 1899), (2, .ref 1826), (1, .ref 1), (0, .ref 0)] [.int 6, .int 6] _ _
      refine G_ps 4 (pc' := 1004) (l' := [(4, .int 6), (3, .ref 1899), (2, .ref 1826), (1, .ref 1), (0, .ref 0)]) (st' := [.int 1]) rfl ?_
      refine G_ret rfl rfl rfl ?_
      exact ⟨rfl, by simp, by simp⟩
    · rw [if_neg hc2]
      exfalso
      simp only [Int32.lt_iff_toInt_lt, Int32.le_iff_toInt_le, show (0 : Int32).toInt = 0 by decide] at hc1 hc2
      omega
  · rw [if_neg hc1]
    refine G_ps 2 (pc' := 6) (l' := [(0, .ref 1), (1, .int y1)]) (st' := [.ref 1, .int y1]) rfl ?_
    refine G_get (i := 37) (ci := 0) (k := 3) (v := .ref 363) rfl rfl g0_1 rfl ?_
    show am_G at_P at_cl at_ty _ mt_23 9 [(0, .ref 1), (1, .int y1)] [.ref 363, .int y1] _ _
    refine G_get (i := 253) (ci := 7) (k := 3) (v := .int 0) rfl rfl g0_363 rfl ?_
    show am_G at_P at_cl at_ty _ mt_23 12 [(0, .ref 1), (1, .int y1)] [.int 0, .int y1] _ _
    refine G_ps 1 (pc' := if 0 ≤ y1 then 27 else 15) (l' := [(0, .ref 1), (1, .int y1)]) (st' := []) rfl ?_
    by_cases hc3 : 0 ≤ y1
    · rw [if_pos hc3]
      refine G_ps 1 (pc' := 28) (l' := [(0, .ref 1), (1, .int y1)]) (st' := [.int (-1)]) rfl ?_
      refine G_ret rfl rfl rfl ?_
      show am_G at_P at_cl at_ty _ mt_law 982 [(4, .int 0), (3, .ref 1899), (2, .ref 1826), (1, .ref 1), (0, .ref 0)] [.int (-1)] _ _
      refine G_ps 5 (pc' := 988) (l' := [(4, .int 0), (3, .ref 1899), (2, .ref 1826), (1, .ref 1), (0, .ref 0)]) (st' := [.int 1, .ref 0, .ref 1826, .int (-1)]) rfl ?_
      refine G_ild (i := 1) rfl g0_0 (by decide) ?_
      show am_G at_P at_cl at_ty _ mt_law 989 [(4, .int 0), (3, .ref 1899), (2, .ref 1826), (1, .ref 1), (0, .ref 0)] [.int y1, .ref 1826, .int (-1)] _ _
      refine G_cv (i := 127) (j := 207) (b := 1826) (M' := mt_207) (xs := [.int y1]) (rest := [.int (-1)]) rfl rfl rfl rfl g0_1826 (Nat.le_of_ble_eq_true rfl) (Nat.le_of_ble_eq_true rfl) ?_ (fun _ _ _ _ h9 => h9)
      show am_G at_P at_cl at_ty _ mt_207 0 [(0, .ref 1826), (1, .int y1)] [] _ _
      refine G_ps 2 (pc' := if y1 < 0 then 21 else 4) (l' := [(0, .ref 1826), (1, .int y1)]) (st' := []) rfl ?_
      by_cases hc4 : y1 < 0
      · rw [if_pos hc4]
        exfalso
        simp only [Int32.lt_iff_toInt_lt, Int32.le_iff_toInt_le, show (0 : Int32).toInt = 0 by decide] at hc1 hc3 hc4
        omega
      · rw [if_neg hc4]
        refine G_ps 2 (pc' := 6) (l' := [(0, .ref 1826), (1, .int y1)]) (st' := [.ref 1826, .int y1]) rfl ?_
        refine G_get (i := 470) (ci := 13) (k := 59) (v := .int 0) rfl rfl g0_1826 rfl ?_
        show am_G at_P at_cl at_ty _ mt_207 9 [(0, .ref 1826), (1, .int y1)] [.int 0, .int y1] _ _
        refine G_ps 1 (pc' := if 0 ≤ y1 then 21 else 12) (l' := [(0, .ref 1826), (1, .int y1)]) (st' := []) rfl ?_
        by_cases hc5 : 0 ≤ y1
        · rw [if_pos hc5]
          refine G_ps 1 (pc' := 22) (l' := [(0, .ref 1826), (1, .int y1)]) (st' := [.int (-1)]) rfl ?_
          refine G_ret rfl rfl rfl ?_
          show am_G at_P at_cl at_ty _ mt_law 992 [(4, .int 0), (3, .ref 1899), (2, .ref 1826), (1, .ref 1), (0, .ref 0)] [.int (-1), .int (-1)] _ _
          refine G_ps 5 (pc' := 26) (l' := [(4, .int 6), (3, .ref 1899), (2, .ref 1826), (1, .ref 1), (0, .ref 0)]) (st' := [.ref 0, .int 6]) rfl ?_
          refine G_alen rfl g0_0 ?_
          show am_G at_P at_cl at_ty _ mt_law 27 [(4, .int 6), (3, .ref 1899), (2, .ref 1826), (1, .ref 1), (0, .ref 0)] [.int 6, .int 6] _ _
          refine G_ps 4 (pc' := 1004) (l' := [(4, .int 6), (3, .ref 1899), (2, .ref 1826), (1, .ref 1), (0, .ref 0)]) (st' := [.int 1]) rfl ?_
          refine G_ret rfl rfl rfl ?_
          exact ⟨rfl, by simp, by simp⟩
        · rw [if_neg hc5]
          exfalso
          simp only [Int32.lt_iff_toInt_lt, Int32.le_iff_toInt_le, show (0 : Int32).toInt = 0 by decide] at hc1 hc3 hc4 hc5
          omega
    · rw [if_neg hc3]
      exfalso
      simp only [Int32.lt_iff_toInt_lt, Int32.le_iff_toInt_le, show (0 : Int32).toInt = 0 by decide] at hc1 hc3
      omega
set_option maxRecDepth 100000 in
set_option maxHeartbeats 4000000 in
theorem lc_d (S : am_S) (y0 y1 y2 y3 y4 y5 : Int32) (g0_0 : am_nth S 0 = some (6, some (.inl (.int, 6, .int 0, [(0, .int y0), (1, .int y1), (2, .int y2), (3, .int y3), (4, .int y4), (5, .int y5)])))) : am_G at_P at_cl at_ty 12 mt_law 997 [(4, .int 0), (3, .ref 1899), (2, .ref 1826), (1, .ref 1), (0, .ref 0)] [] S (fun r _ c n => r = some (.int 1) ∧ c = 0 ∧ n = 0) := by
  have hs0 : am_same [] S S := am_same_rf _ _
  refine G_ps 4 (pc' := 26) (l' := [(4, .int 6), (3, .ref 1899), (2, .ref 1826), (1, .ref 1), (0, .ref 0)]) (st' := [.ref 0, .int 6]) rfl ?_
  refine G_alen rfl g0_0 ?_
  show am_G at_P at_cl at_ty _ mt_law 27 [(4, .int 6), (3, .ref 1899), (2, .ref 1826), (1, .ref 1), (0, .ref 0)] [.int 6, .int 6] _ _
  refine G_ps 4 (pc' := 1004) (l' := [(4, .int 6), (3, .ref 1899), (2, .ref 1826), (1, .ref 1), (0, .ref 0)]) (st' := [.int 1]) rfl ?_
  refine G_ret rfl rfl rfl ?_
  exact ⟨rfl, by simp, by simp⟩
