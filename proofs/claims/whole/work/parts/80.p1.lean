/-! one call on fresh objects -/
def s8 : Nat × List am_C := (1899, (1, some (.inl (.long, 1, .long 0, []))) :: ss_7.2.2)
theorem s8_at {L : Nat × List am_C} {k : Nat} {x : am_C} (h : (match am_nth ((0, none), L) (k + 1) with | some y => am_eqC y x | none => false) = true) (c0 : am_C) : am_nth (c0, L) (k + 1) = some x := by
  have e : am_nth (c0, L) (k + 1) = am_nth ((0, none), L) (k + 1) := rfl
  rw [e]
  split at h
  · rename_i y hy
    rw [hy, am_eqC_of h]
  · cases h
theorem s8_1 (c0 : am_C) : am_nth (c0, s8) 1 = some (9, some (.inr (0, [.ref 2, .ref 7, .ref 361, .ref 363, .ref 366, .ref 372, .ref 406, .ref 1824, .int 0]))) := s8_at (by decide +kernel) c0
theorem s8_7 (c0 : am_C) : am_nth (c0, s8) 7 = some (7, some (.inr (2, [.ref 8, .ref 13, .ref 18, .ref 23, .ref 24, .int 0, .int 0]))) := s8_at (by decide +kernel) c0
theorem s8_361 (c0 : am_C) : am_nth (c0, s8) 361 = some (10, some (.inr (6, [.ref 2, .ref 7, .ref 362, .int 0, .int 0, .int 0, .int 0, .ref 25, .ref 26, .int 0]))) := s8_at (by decide +kernel) c0
theorem s8_363 (c0 : am_C) : am_nth (c0, s8) 363 = some (4, some (.inr (7, [.ref 7, .ref 364, .ref 365, .int 0]))) := s8_at (by decide +kernel) c0
theorem s8_372 (c0 : am_C) : am_nth (c0, s8) 372 = some (11, some (.inr (9, [.ref 7, .ref 366, .ref 373, .ref 374, .ref 375, .ref 376, .ref 377, .ref 378, .ref 380, .int 0, .int (-1)]))) := s8_at (by decide +kernel) c0
theorem s8_406 (c0 : am_C) : am_nth (c0, s8) 406 = some (19, some (.inr (10, [.ref 7, .ref 366, .ref 407, .ref 878, .ref 1349, .ref 1350, .ref 1350, .ref 1350, .long 0, .long 0, .ref 409, .ref 1352, .ref 1354, .int 0, .int 0, .long 0, .int 0, .int 0, .int 0]))) := s8_at (by decide +kernel) c0
theorem s8_407 (c0 : am_C) : am_nth (c0, s8) 407 = some (8, some (.inr (11, [.ref 408, .ref 409, .int 0, .int 0, .int 0, .int 0, .int 0, .long 0]))) := s8_at (by decide +kernel) c0
theorem s8_1826 (c0 : am_C) : am_nth (c0, s8) 1826 = some (115, some (.inr (13, [.int 0, .int 0, .ref 1827, .int 0, .ref 1828, .ref 1829, .ref 1830, .ref 1831, .int 0, .ref 1832, .ref 1833, .ref 1834, .ref 1835, .int 0, .ref 1836, .ref 1837, .ref 1838, .ref 1839, .ref 1840, .int 0, .ref 1841, .ref 1842, .ref 1843, .ref 1844, .ref 1845, .ref 1846, .ref 1847, .ref 1848, .int 0, .int 0, .int 0, .int 0, .int 0, .long 0, .int 0, .int 0, .int 0, .ref 1849, .ref 1850, .int 0, .int 0, .int 0, .ref 1851, .int 0, .int 0, .ref 1852, .ref 1853, .int 0, .ref 1854, .ref 1855, .int 0, .int 0, .ref 1856, .int 0, .ref 1857, .int 0, .int 0, .int 0, .ref 1858, .int 0, .ref 1859, .ref 1860, .ref 1861, .ref 1862, .ref 1863, .ref 1864, .ref 1865, .int (-1), .ref 1866, .ref 1867, .ref 1868, .ref 1869, .int 0, .ref 1870, .int (-1), .int 0, .int 0, .int 0, .ref 1871, .ref 1872, .ref 1873, .ref 1874, .ref 1875, .ref 1876, .ref 1877, .ref 1878, .ref 1879, .ref 1880, .ref 1881, .int 0, .ref 1882, .ref 1883, .ref 1884, .int 0, .ref 1885, .int 0, .ref 1886, .int (-1), .ref 1887, .int 0, .ref 1888, .int 0, .ref 1889, .ref 1890, .ref 1891, .ref 1892, .ref 1893, .ref 1894, .ref 1895, .ref 1896, .ref 1897, .ref 1898, .int 0, .int 0, .int 0]))) := s8_at (by decide +kernel) c0
def F_zero : Int32 := 0
def F_state : Int32 := -103
def F_prin (_ : Int32) : Int32 := -1
def F_told (_ : Int32) : Int32 := -103
def F_unk (_ : Int32) : Int32 := -101
def F_st (_ : Int32) : Int32 := -103
def F_place (s p : Int32) : Int32 := if s < 0 ∨ 1 < s ∨ p < 0 then -102 else -103
def F_srch (r : Int32) : Int32 := if r < 1 ∨ 500 < r then -102 else -103
theorem x_fault (c0 : am_C) : am_G at_P at_cl at_ty 5 mt_4 0 [(0, .ref 1)] [] (c0, s8) (fun r S c n => r = some (.int (F_zero)) ∧ S = (c0, s8) ∧ c = 0 ∧ n = 0) := by
  refine G_ps 1 (pc' := 1) (l' := [(0, .ref 1)]) (st' := [.ref 1]) rfl ?_
  refine G_get (i := 28) (ci := 0) (k := 2) (v := .ref 361) rfl rfl (s8_1 c0) rfl ?_
  show am_G at_P at_cl at_ty _ mt_4 4 [(0, .ref 1)] [.ref 361] _ _
  refine G_get (i := 105) (ci := 6) (k := 4) (v := .int 0) rfl rfl (s8_361 c0) rfl ?_
  show am_G at_P at_cl at_ty _ mt_4 7 [(0, .ref 1)] [.int 0] _ _
  refine G_ret rfl rfl rfl ?_
  exact ⟨by simp [F_zero, *], rfl, by simp, by simp⟩
theorem m_fault (c0 : am_C) : am_G at_P at_cl at_ty 5 mt_193 0 [(0, .ref 1826)] [] (c0, s8) (fun r S c n => r = some (.int (F_zero)) ∧ S = (c0, s8) ∧ c = 0 ∧ n = 0) := by
  refine G_ps 1 (pc' := 1) (l' := [(0, .ref 1826)]) (st' := [.ref 1826]) rfl ?_
  refine G_get (i := 411) (ci := 13) (k := 34) (v := .int 0) rfl rfl (s8_1826 c0) rfl ?_
  show am_G at_P at_cl at_ty _ mt_193 4 [(0, .ref 1826)] [.int 0] _ _
  refine G_ret rfl rfl rfl ?_
  exact ⟨by simp [F_zero, *], rfl, by simp, by simp⟩
theorem x_steps (c0 : am_C) : am_G at_P at_cl at_ty 5 mt_8 0 [(0, .ref 1)] [] (c0, s8) (fun r S c n => r = some (.int (F_zero)) ∧ S = (c0, s8) ∧ c = 0 ∧ n = 0) := by
  refine G_ps 1 (pc' := 1) (l' := [(0, .ref 1)]) (st' := [.ref 1]) rfl ?_
  refine G_get (i := 180) (ci := 0) (k := 8) (v := .int 0) rfl rfl (s8_1 c0) rfl ?_
  show am_G at_P at_cl at_ty _ mt_8 4 [(0, .ref 1)] [.int 0] _ _
  refine G_ret rfl rfl rfl ?_
  exact ⟨by simp [F_zero, *], rfl, by simp, by simp⟩
theorem m_steps (c0 : am_C) : am_G at_P at_cl at_ty 5 mt_202 0 [(0, .ref 1826)] [] (c0, s8) (fun r S c n => r = some (.int (F_zero)) ∧ S = (c0, s8) ∧ c = 0 ∧ n = 0) := by
  refine G_ps 1 (pc' := 1) (l' := [(0, .ref 1826)]) (st' := [.ref 1826]) rfl ?_
  refine G_get (i := 463) (ci := 13) (k := 57) (v := .int 0) rfl rfl (s8_1826 c0) rfl ?_
  show am_G at_P at_cl at_ty _ mt_202 4 [(0, .ref 1826)] [.int 0] _ _
  refine G_ret rfl rfl rfl ?_
  exact ⟨by simp [F_zero, *], rfl, by simp, by simp⟩
theorem x_printed (c0 : am_C) (i : Int32) : am_G at_P at_cl at_ty 5 mt_23 0 [(0, .ref 1), (1, .int i)] [] (c0, s8) (fun r S c n => r = some (.int (F_prin i)) ∧ S = (c0, s8) ∧ c = 0 ∧ n = 0) := by
  refine G_ps 2 (pc' := if i < 0 then 27 else 4) (l' := [(0, .ref 1), (1, .int i)]) (st' := []) rfl ?_
  by_cases hc1 : i < 0
  · rw [if_pos hc1]
    refine G_ps 1 (pc' := 28) (l' := [(0, .ref 1), (1, .int i)]) (st' := [.int (-1)]) rfl ?_
    refine G_ret rfl rfl rfl ?_
    exact ⟨by simp [F_prin, *], rfl, by simp, by simp⟩
  · rw [if_neg hc1]
    refine G_ps 2 (pc' := 6) (l' := [(0, .ref 1), (1, .int i)]) (st' := [.ref 1, .int i]) rfl ?_
    refine G_get (i := 37) (ci := 0) (k := 3) (v := .ref 363) rfl rfl (s8_1 c0) rfl ?_
    show am_G at_P at_cl at_ty _ mt_23 9 [(0, .ref 1), (1, .int i)] [.ref 363, .int i] _ _
    refine G_get (i := 253) (ci := 7) (k := 3) (v := .int 0) rfl rfl (s8_363 c0) rfl ?_
    show am_G at_P at_cl at_ty _ mt_23 12 [(0, .ref 1), (1, .int i)] [.int 0, .int i] _ _
    refine G_ps 1 (pc' := if 0 ≤ i then 27 else 15) (l' := [(0, .ref 1), (1, .int i)]) (st' := []) rfl ?_
    by_cases hc2 : 0 ≤ i
    · rw [if_pos hc2]
      refine G_ps 1 (pc' := 28) (l' := [(0, .ref 1), (1, .int i)]) (st' := [.int (-1)]) rfl ?_
      refine G_ret rfl rfl rfl ?_
      exact ⟨by simp [F_prin, *], rfl, by simp, by simp⟩
    · rw [if_neg hc2]
      exfalso
      simp only [Int32.lt_iff_toInt_lt, Int32.le_iff_toInt_le, show (0 : Int32).toInt = 0 by decide] at hc1 hc2
      omega
theorem m_printed (c0 : am_C) (i : Int32) : am_G at_P at_cl at_ty 5 mt_207 0 [(0, .ref 1826), (1, .int i)] [] (c0, s8) (fun r S c n => r = some (.int (F_prin i)) ∧ S = (c0, s8) ∧ c = 0 ∧ n = 0) := by
  refine G_ps 2 (pc' := if i < 0 then 21 else 4) (l' := [(0, .ref 1826), (1, .int i)]) (st' := []) rfl ?_
  by_cases hc1 : i < 0
  · rw [if_pos hc1]
    refine G_ps 1 (pc' := 22) (l' := [(0, .ref 1826), (1, .int i)]) (st' := [.int (-1)]) rfl ?_
    refine G_ret rfl rfl rfl ?_
    exact ⟨by simp [F_prin, *], rfl, by simp, by simp⟩
  · rw [if_neg hc1]
    refine G_ps 2 (pc' := 6) (l' := [(0, .ref 1826), (1, .int i)]) (st' := [.ref 1826, .int i]) rfl ?_
    refine G_get (i := 470) (ci := 13) (k := 59) (v := .int 0) rfl rfl (s8_1826 c0) rfl ?_
    show am_G at_P at_cl at_ty _ mt_207 9 [(0, .ref 1826), (1, .int i)] [.int 0, .int i] _ _
    refine G_ps 1 (pc' := if 0 ≤ i then 21 else 12) (l' := [(0, .ref 1826), (1, .int i)]) (st' := []) rfl ?_
    by_cases hc2 : 0 ≤ i
    · rw [if_pos hc2]
      refine G_ps 1 (pc' := 22) (l' := [(0, .ref 1826), (1, .int i)]) (st' := [.int (-1)]) rfl ?_
      refine G_ret rfl rfl rfl ?_
      exact ⟨by simp [F_prin, *], rfl, by simp, by simp⟩
    · rw [if_neg hc2]
      exfalso
      simp only [Int32.lt_iff_toInt_lt, Int32.le_iff_toInt_le, show (0 : Int32).toInt = 0 by decide] at hc1 hc2
      omega
theorem x_told (c0 : am_C) (v : Int32) : am_G at_P at_cl at_ty 5 mt_10 0 [(0, .ref 1), (1, .int v)] [] (c0, s8) (fun r S c n => r = some (.int (F_told v)) ∧ S = (c0, s8) ∧ c = 0 ∧ n = 0) := by
  refine G_ps 1 (pc' := 1) (l' := [(0, .ref 1), (1, .int v)]) (st' := [.ref 1]) rfl ?_
  refine G_get (i := 53) (ci := 0) (k := 5) (v := .ref 372) rfl rfl (s8_1 c0) rfl ?_
  show am_G at_P at_cl at_ty _ mt_10 4 [(0, .ref 1), (1, .int v)] [.ref 372] _ _
  refine G_get (i := 191) (ci := 9) (k := 10) (v := .int (-1)) rfl rfl (s8_372 c0) rfl ?_
  show am_G at_P at_cl at_ty _ mt_10 7 [(0, .ref 1), (1, .int v)] [.int (-1)] _ _
  refine G_ps 2 (pc' := 12) (l' := [(0, .ref 1), (1, .int v)]) (st' := [.int (-103)]) rfl ?_
  refine G_ret rfl rfl rfl ?_
  exact ⟨by simp [F_told, *], rfl, by simp, by simp⟩
theorem m_told (c0 : am_C) (v : Int32) : am_G at_P at_cl at_ty 5 mt_220 0 [(0, .ref 1826), (1, .int v)] [] (c0, s8) (fun r S c n => r = some (.int (F_told v)) ∧ S = (c0, s8) ∧ c = 0 ∧ n = 0) := by
  refine G_ps 1 (pc' := 1) (l' := [(0, .ref 1826), (1, .int v)]) (st' := [.ref 1826]) rfl ?_
  refine G_get (i := 131) (ci := 13) (k := 67) (v := .int (-1)) rfl rfl (s8_1826 c0) rfl ?_
  show am_G at_P at_cl at_ty _ mt_220 4 [(0, .ref 1826), (1, .int v)] [.int (-1)] _ _
  refine G_ps 3 (pc' := 10) (l' := [(0, .ref 1826), (1, .int v)]) (st' := [.int (-103)]) rfl ?_
  refine G_ret rfl rfl rfl ?_
  exact ⟨by simp [F_told, *], rfl, by simp, by simp⟩
theorem x_test (c0 : am_C) (l z a : Int32) : am_G at_P at_cl at_ty 5 mt_9 0 [(0, .ref 1), (1, .int l), (2, .int z), (3, .int a)] [] (c0, s8) (fun r S c n => r = some (.int (F_unk l)) ∧ S = (c0, s8) ∧ c = 0 ∧ n = 0) := by
  refine G_ps 1 (pc' := 1) (l' := [(0, .ref 1), (1, .int l), (2, .int z), (3, .int a)]) (st' := [.ref 1]) rfl ?_
  refine G_get (i := 19) (ci := 0) (k := 1) (v := .ref 7) rfl rfl (s8_1 c0) rfl ?_
  show am_G at_P at_cl at_ty _ mt_9 4 [(0, .ref 1), (1, .int l), (2, .int z), (3, .int a)] [.ref 7] _ _
  refine G_ps 1 (pc' := 5) (l' := [(0, .ref 1), (1, .int l), (2, .int z), (3, .int a)]) (st' := [.int l, .ref 7]) rfl ?_
  refine G_cv (i := 144) (j := 35) (b := 7) (M' := mt_35) (xs := [.int l]) (rest := []) rfl rfl rfl rfl (s8_7 c0) (Nat.le_of_ble_eq_true rfl) (Nat.le_of_ble_eq_true rfl) ?_ (fun _ _ _ _ h9 => h9)
  show am_G at_P at_cl at_ty _ mt_35 0 [(0, .ref 7), (1, .int l)] [] _ _
  refine G_ps 2 (pc' := if l < 0 then 25 else 4) (l' := [(0, .ref 7), (1, .int l)]) (st' := []) rfl ?_
  by_cases hc1 : l < 0
  · rw [if_pos hc1]
    refine G_ps 1 (pc' := 26) (l' := [(0, .ref 7), (1, .int l)]) (st' := [.int 0]) rfl ?_
    refine G_ret rfl rfl rfl ?_
    show am_G at_P at_cl at_ty _ mt_9 8 [(0, .ref 1), (1, .int l), (2, .int z), (3, .int a)] [.int 0] _ _
    refine G_ps 2 (pc' := 13) (l' := [(0, .ref 1), (1, .int l), (2, .int z), (3, .int a)]) (st' := [.int (-101)]) rfl ?_
    refine G_ret rfl rfl rfl ?_
    exact ⟨by simp [F_unk, *], rfl, by simp, by simp⟩
  · rw [if_neg hc1]
    refine G_ps 2 (pc' := 6) (l' := [(0, .ref 7), (1, .int l)]) (st' := [.ref 7, .int l]) rfl ?_
    refine G_get (i := 36) (ci := 2) (k := 6) (v := .int 0) rfl rfl (s8_7 c0) rfl ?_
    show am_G at_P at_cl at_ty _ mt_35 9 [(0, .ref 7), (1, .int l)] [.int 0, .int l] _ _
    refine G_ps 1 (pc' := if 0 ≤ l then 25 else 12) (l' := [(0, .ref 7), (1, .int l)]) (st' := []) rfl ?_
    by_cases hc2 : 0 ≤ l
    · rw [if_pos hc2]
      refine G_ps 1 (pc' := 26) (l' := [(0, .ref 7), (1, .int l)]) (st' := [.int 0]) rfl ?_
      refine G_ret rfl rfl rfl ?_
      show am_G at_P at_cl at_ty _ mt_9 8 [(0, .ref 1), (1, .int l), (2, .int z), (3, .int a)] [.int 0] _ _
      refine G_ps 2 (pc' := 13) (l' := [(0, .ref 1), (1, .int l), (2, .int z), (3, .int a)]) (st' := [.int (-101)]) rfl ?_
      refine G_ret rfl rfl rfl ?_
      exact ⟨by simp [F_unk, *], rfl, by simp, by simp⟩
    · rw [if_neg hc2]
      exfalso
      simp only [Int32.lt_iff_toInt_lt, Int32.le_iff_toInt_le, show (0 : Int32).toInt = 0 by decide] at hc1 hc2
      omega
theorem m_test (c0 : am_C) (l z a : Int32) : am_G at_P at_cl at_ty 5 mt_218 0 [(0, .ref 1826), (1, .int l), (2, .int z), (3, .int a)] [] (c0, s8) (fun r S c n => r = some (.int (F_unk l)) ∧ S = (c0, s8) ∧ c = 0 ∧ n = 0) := by
  refine G_ps 2 (pc' := if l < 0 then 12 else 4) (l' := [(0, .ref 1826), (1, .int l), (2, .int z), (3, .int a)]) (st' := []) rfl ?_
  by_cases hc1 : l < 0
  · rw [if_pos hc1]
    refine G_ps 1 (pc' := 14) (l' := [(0, .ref 1826), (1, .int l), (2, .int z), (3, .int a)]) (st' := [.int (-101)]) rfl ?_
    refine G_ret rfl rfl rfl ?_
    exact ⟨by simp [F_unk, *], rfl, by simp, by simp⟩
  · rw [if_neg hc1]
    refine G_ps 2 (pc' := 6) (l' := [(0, .ref 1826), (1, .int l), (2, .int z), (3, .int a)]) (st' := [.ref 1826, .int l]) rfl ?_
    refine G_get (i := 387) (ci := 13) (k := 19) (v := .int 0) rfl rfl (s8_1826 c0) rfl ?_
    show am_G at_P at_cl at_ty _ mt_218 9 [(0, .ref 1826), (1, .int l), (2, .int z), (3, .int a)] [.int 0, .int l] _ _
    refine G_ps 1 (pc' := if l < 0 then 15 else 12) (l' := [(0, .ref 1826), (1, .int l), (2, .int z), (3, .int a)]) (st' := []) rfl ?_
    by_cases hc2 : l < 0
    · rw [if_pos hc2]
      exfalso
      simp only [Int32.lt_iff_toInt_lt, Int32.le_iff_toInt_le, show (0 : Int32).toInt = 0 by decide] at hc1 hc2
      omega
    · rw [if_neg hc2]
      refine G_ps 1 (pc' := 14) (l' := [(0, .ref 1826), (1, .int l), (2, .int z), (3, .int a)]) (st' := [.int (-101)]) rfl ?_
      refine G_ret rfl rfl rfl ?_
      exact ⟨by simp [F_unk, *], rfl, by simp, by simp⟩
theorem x_begin (c0 : am_C) (l a : Int32) : am_G at_P at_cl at_ty 5 mt_11 0 [(0, .ref 1), (1, .int l), (2, .int a)] [] (c0, s8) (fun r S c n => r = some (.int (F_unk l)) ∧ S = (c0, s8) ∧ c = 0 ∧ n = 0) := by
  refine G_ps 1 (pc' := 1) (l' := [(0, .ref 1), (1, .int l), (2, .int a)]) (st' := [.ref 1]) rfl ?_
  refine G_get (i := 19) (ci := 0) (k := 1) (v := .ref 7) rfl rfl (s8_1 c0) rfl ?_
  show am_G at_P at_cl at_ty _ mt_11 4 [(0, .ref 1), (1, .int l), (2, .int a)] [.ref 7] _ _
  refine G_ps 1 (pc' := 5) (l' := [(0, .ref 1), (1, .int l), (2, .int a)]) (st' := [.int l, .ref 7]) rfl ?_
  refine G_cv (i := 144) (j := 35) (b := 7) (M' := mt_35) (xs := [.int l]) (rest := []) rfl rfl rfl rfl (s8_7 c0) (Nat.le_of_ble_eq_true rfl) (Nat.le_of_ble_eq_true rfl) ?_ (fun _ _ _ _ h9 => h9)
  show am_G at_P at_cl at_ty _ mt_35 0 [(0, .ref 7), (1, .int l)] [] _ _
  refine G_ps 2 (pc' := if l < 0 then 25 else 4) (l' := [(0, .ref 7), (1, .int l)]) (st' := []) rfl ?_
  by_cases hc1 : l < 0
  · rw [if_pos hc1]
    refine G_ps 1 (pc' := 26) (l' := [(0, .ref 7), (1, .int l)]) (st' := [.int 0]) rfl ?_
    refine G_ret rfl rfl rfl ?_
    show am_G at_P at_cl at_ty _ mt_11 8 [(0, .ref 1), (1, .int l), (2, .int a)] [.int 0] _ _
    refine G_ps 2 (pc' := 13) (l' := [(0, .ref 1), (1, .int l), (2, .int a)]) (st' := [.int (-101)]) rfl ?_
    refine G_ret rfl rfl rfl ?_
    exact ⟨by simp [F_unk, *], rfl, by simp, by simp⟩
  · rw [if_neg hc1]
    refine G_ps 2 (pc' := 6) (l' := [(0, .ref 7), (1, .int l)]) (st' := [.ref 7, .int l]) rfl ?_
    refine G_get (i := 36) (ci := 2) (k := 6) (v := .int 0) rfl rfl (s8_7 c0) rfl ?_
    show am_G at_P at_cl at_ty _ mt_35 9 [(0, .ref 7), (1, .int l)] [.int 0, .int l] _ _
    refine G_ps 1 (pc' := if 0 ≤ l then 25 else 12) (l' := [(0, .ref 7), (1, .int l)]) (st' := []) rfl ?_
    by_cases hc2 : 0 ≤ l
    · rw [if_pos hc2]
      refine G_ps 1 (pc' := 26) (l' := [(0, .ref 7), (1, .int l)]) (st' := [.int 0]) rfl ?_
      refine G_ret rfl rfl rfl ?_
      show am_G at_P at_cl at_ty _ mt_11 8 [(0, .ref 1), (1, .int l), (2, .int a)] [.int 0] _ _
      refine G_ps 2 (pc' := 13) (l' := [(0, .ref 1), (1, .int l), (2, .int a)]) (st' := [.int (-101)]) rfl ?_
      refine G_ret rfl rfl rfl ?_
      exact ⟨by simp [F_unk, *], rfl, by simp, by simp⟩
    · rw [if_neg hc2]
      exfalso
      simp only [Int32.lt_iff_toInt_lt, Int32.le_iff_toInt_le, show (0 : Int32).toInt = 0 by decide] at hc1 hc2
      omega
theorem m_begin (c0 : am_C) (l a : Int32) : am_G at_P at_cl at_ty 5 mt_227 0 [(0, .ref 1826), (1, .int l), (2, .int a)] [] (c0, s8) (fun r S c n => r = some (.int (F_unk l)) ∧ S = (c0, s8) ∧ c = 0 ∧ n = 0) := by
  refine G_ps 2 (pc' := if l < 0 then 12 else 4) (l' := [(0, .ref 1826), (1, .int l), (2, .int a)]) (st' := []) rfl ?_
  by_cases hc1 : l < 0
  · rw [if_pos hc1]
    refine G_ps 1 (pc' := 14) (l' := [(0, .ref 1826), (1, .int l), (2, .int a)]) (st' := [.int (-101)]) rfl ?_
    refine G_ret rfl rfl rfl ?_
    exact ⟨by simp [F_unk, *], rfl, by simp, by simp⟩
  · rw [if_neg hc1]
    refine G_ps 2 (pc' := 6) (l' := [(0, .ref 1826), (1, .int l), (2, .int a)]) (st' := [.ref 1826, .int l]) rfl ?_
    refine G_get (i := 387) (ci := 13) (k := 19) (v := .int 0) rfl rfl (s8_1826 c0) rfl ?_
    show am_G at_P at_cl at_ty _ mt_227 9 [(0, .ref 1826), (1, .int l), (2, .int a)] [.int 0, .int l] _ _
    refine G_ps 1 (pc' := if l < 0 then 15 else 12) (l' := [(0, .ref 1826), (1, .int l), (2, .int a)]) (st' := []) rfl ?_
    by_cases hc2 : l < 0
    · rw [if_pos hc2]
      exfalso
      simp only [Int32.lt_iff_toInt_lt, Int32.le_iff_toInt_le, show (0 : Int32).toInt = 0 by decide] at hc1 hc2
      omega
    · rw [if_neg hc2]
      refine G_ps 1 (pc' := 14) (l' := [(0, .ref 1826), (1, .int l), (2, .int a)]) (st' := [.int (-101)]) rfl ?_
      refine G_ret rfl rfl rfl ?_
      exact ⟨by simp [F_unk, *], rfl, by simp, by simp⟩
theorem x_about (c0 : am_C) (l w : Int32) : am_G at_P at_cl at_ty 5 mt_6 0 [(0, .ref 1), (1, .int l), (2, .int w)] [] (c0, s8) (fun r S c n => r = some (.int (F_unk l)) ∧ S = (c0, s8) ∧ c = 0 ∧ n = 0) := by
  refine G_ps 1 (pc' := 1) (l' := [(0, .ref 1), (1, .int l), (2, .int w)]) (st' := [.ref 1]) rfl ?_
  refine G_get (i := 19) (ci := 0) (k := 1) (v := .ref 7) rfl rfl (s8_1 c0) rfl ?_
  show am_G at_P at_cl at_ty _ mt_6 4 [(0, .ref 1), (1, .int l), (2, .int w)] [.ref 7] _ _
  refine G_ps 1 (pc' := 5) (l' := [(0, .ref 1), (1, .int l), (2, .int w)]) (st' := [.int l, .ref 7]) rfl ?_
  refine G_cv (i := 144) (j := 35) (b := 7) (M' := mt_35) (xs := [.int l]) (rest := []) rfl rfl rfl rfl (s8_7 c0) (Nat.le_of_ble_eq_true rfl) (Nat.le_of_ble_eq_true rfl) ?_ (fun _ _ _ _ h9 => h9)
  show am_G at_P at_cl at_ty _ mt_35 0 [(0, .ref 7), (1, .int l)] [] _ _
  refine G_ps 2 (pc' := if l < 0 then 25 else 4) (l' := [(0, .ref 7), (1, .int l)]) (st' := []) rfl ?_
  by_cases hc1 : l < 0
  · rw [if_pos hc1]
    refine G_ps 1 (pc' := 26) (l' := [(0, .ref 7), (1, .int l)]) (st' := [.int 0]) rfl ?_
    refine G_ret rfl rfl rfl ?_
    show am_G at_P at_cl at_ty _ mt_6 8 [(0, .ref 1), (1, .int l), (2, .int w)] [.int 0] _ _
    refine G_ps 2 (pc' := 13) (l' := [(0, .ref 1), (1, .int l), (2, .int w)]) (st' := [.int (-101)]) rfl ?_
    refine G_ret rfl rfl rfl ?_
    exact ⟨by simp [F_unk, *], rfl, by simp, by simp⟩
  · rw [if_neg hc1]
    refine G_ps 2 (pc' := 6) (l' := [(0, .ref 7), (1, .int l)]) (st' := [.ref 7, .int l]) rfl ?_
    refine G_get (i := 36) (ci := 2) (k := 6) (v := .int 0) rfl rfl (s8_7 c0) rfl ?_
    show am_G at_P at_cl at_ty _ mt_35 9 [(0, .ref 7), (1, .int l)] [.int 0, .int l] _ _
    refine G_ps 1 (pc' := if 0 ≤ l then 25 else 12) (l' := [(0, .ref 7), (1, .int l)]) (st' := []) rfl ?_
    by_cases hc2 : 0 ≤ l
    · rw [if_pos hc2]
      refine G_ps 1 (pc' := 26) (l' := [(0, .ref 7), (1, .int l)]) (st' := [.int 0]) rfl ?_
      refine G_ret rfl rfl rfl ?_
      show am_G at_P at_cl at_ty _ mt_6 8 [(0, .ref 1), (1, .int l), (2, .int w)] [.int 0] _ _
      refine G_ps 2 (pc' := 13) (l' := [(0, .ref 1), (1, .int l), (2, .int w)]) (st' := [.int (-101)]) rfl ?_
      refine G_ret rfl rfl rfl ?_
      exact ⟨by simp [F_unk, *], rfl, by simp, by simp⟩
    · rw [if_neg hc2]
      exfalso
      simp only [Int32.lt_iff_toInt_lt, Int32.le_iff_toInt_le, show (0 : Int32).toInt = 0 by decide] at hc1 hc2
      omega
theorem m_about (c0 : am_C) (l w : Int32) : am_G at_P at_cl at_ty 5 mt_195 0 [(0, .ref 1826), (1, .int l), (2, .int w)] [] (c0, s8) (fun r S c n => r = some (.int (F_unk l)) ∧ S = (c0, s8) ∧ c = 0 ∧ n = 0) := by
  refine G_ps 2 (pc' := if l < 0 then 12 else 4) (l' := [(0, .ref 1826), (1, .int l), (2, .int w)]) (st' := []) rfl ?_
  by_cases hc1 : l < 0
  · rw [if_pos hc1]
    refine G_ps 1 (pc' := 14) (l' := [(0, .ref 1826), (1, .int l), (2, .int w)]) (st' := [.int (-101)]) rfl ?_
    refine G_ret rfl rfl rfl ?_
    exact ⟨by simp [F_unk, *], rfl, by simp, by simp⟩
  · rw [if_neg hc1]
    refine G_ps 2 (pc' := 6) (l' := [(0, .ref 1826), (1, .int l), (2, .int w)]) (st' := [.ref 1826, .int l]) rfl ?_
    refine G_get (i := 387) (ci := 13) (k := 19) (v := .int 0) rfl rfl (s8_1826 c0) rfl ?_
    show am_G at_P at_cl at_ty _ mt_195 9 [(0, .ref 1826), (1, .int l), (2, .int w)] [.int 0, .int l] _ _
    refine G_ps 1 (pc' := if l < 0 then 15 else 12) (l' := [(0, .ref 1826), (1, .int l), (2, .int w)]) (st' := []) rfl ?_
    by_cases hc2 : l < 0
    · rw [if_pos hc2]
      exfalso
      simp only [Int32.lt_iff_toInt_lt, Int32.le_iff_toInt_le, show (0 : Int32).toInt = 0 by decide] at hc1 hc2
      omega
    · rw [if_neg hc2]
      refine G_ps 1 (pc' := 14) (l' := [(0, .ref 1826), (1, .int l), (2, .int w)]) (st' := [.int (-101)]) rfl ?_
      refine G_ret rfl rfl rfl ?_
      exact ⟨by simp [F_unk, *], rfl, by simp, by simp⟩
theorem x_unfold (c0 : am_C) (s p : Int32) : am_G at_P at_cl at_ty 5 mt_12 0 [(0, .ref 1), (1, .int s), (2, .int p)] [] (c0, s8) (fun r S c n => r = some (.int (F_place s p)) ∧ S = (c0, s8) ∧ c = 0 ∧ n = 0) := by
  refine G_ps 3 (pc' := 3) (l' := [(0, .ref 1), (1, .int s), (2, .int p)]) (st' := [.int p, .int s, .ref 1]) rfl ?_
  refine G_cv (i := 202) (j := 24) (b := 1) (M' := mt_24) (xs := [.int p, .int s]) (rest := []) rfl rfl rfl rfl (s8_1 c0) (Nat.le_of_ble_eq_true rfl) (Nat.le_of_ble_eq_true rfl) ?_ (fun _ _ _ _ h9 => h9)
  show am_G at_P at_cl at_ty _ mt_24 0 [(0, .ref 1), (1, .int s), (2, .int p)] [] _ _
  refine G_ps 2 (pc' := if s < 0 then 13 else 4) (l' := [(0, .ref 1), (1, .int s), (2, .int p)]) (st' := []) rfl ?_
  by_cases hc1 : s < 0
  · rw [if_pos hc1]
    refine G_ps 1 (pc' := 15) (l' := [(0, .ref 1), (1, .int s), (2, .int p)]) (st' := [.int (-102)]) rfl ?_
    refine G_ret rfl rfl rfl ?_
    show am_G at_P at_cl at_ty _ mt_12 6 [(0, .ref 1), (1, .int s), (2, .int p)] [.int (-102)] _ _
    refine G_ps 5 (pc' := 32) (l' := [(3, .int (-102)), (0, .ref 1), (1, .int s), (2, .int p)]) (st' := [.int (-102)]) rfl ?_
    refine G_ret rfl rfl rfl ?_
    exact ⟨by simp [F_place, *], rfl, by simp, by simp⟩
  · rw [if_neg hc1]
    refine G_ps 3 (pc' := if 1 < s then 13 else 9) (l' := [(0, .ref 1), (1, .int s), (2, .int p)]) (st' := []) rfl ?_
    by_cases hc2 : 1 < s
    · rw [if_pos hc2]
      refine G_ps 1 (pc' := 15) (l' := [(0, .ref 1), (1, .int s), (2, .int p)]) (st' := [.int (-102)]) rfl ?_
      refine G_ret rfl rfl rfl ?_
      show am_G at_P at_cl at_ty _ mt_12 6 [(0, .ref 1), (1, .int s), (2, .int p)] [.int (-102)] _ _
      refine G_ps 5 (pc' := 32) (l' := [(3, .int (-102)), (0, .ref 1), (1, .int s), (2, .int p)]) (st' := [.int (-102)]) rfl ?_
      refine G_ret rfl rfl rfl ?_
      exact ⟨by simp [F_place, *], rfl, by simp, by simp⟩
    · rw [if_neg hc2]
      refine G_ps 2 (pc' := if 0 ≤ p then 16 else 13) (l' := [(0, .ref 1), (1, .int s), (2, .int p)]) (st' := []) rfl ?_
      by_cases hc3 : 0 ≤ p
      · rw [if_pos hc3]
        refine G_ps 1 (pc' := 17) (l' := [(0, .ref 1), (1, .int s), (2, .int p)]) (st' := [.ref 1]) rfl ?_
        refine G_get (i := 60) (ci := 0) (k := 6) (v := .ref 406) rfl rfl (s8_1 c0) rfl ?_
        show am_G at_P at_cl at_ty _ mt_24 20 [(0, .ref 1), (1, .int s), (2, .int p)] [.ref 406] _ _
        refine G_get (i := 96) (ci := 10) (k := 2) (v := .ref 407) rfl rfl (s8_406 c0) rfl ?_
        show am_G at_P at_cl at_ty _ mt_24 23 [(0, .ref 1), (1, .int s), (2, .int p)] [.ref 407] _ _
        refine G_get (i := 129) (ci := 11) (k := 2) (v := .int 0) rfl rfl (s8_407 c0) rfl ?_
        show am_G at_P at_cl at_ty _ mt_24 26 [(0, .ref 1), (1, .int s), (2, .int p)] [.int 0] _ _
        refine G_ps 2 (pc' := 35) (l' := [(0, .ref 1), (1, .int s), (2, .int p)]) (st' := [.int (-103)]) rfl ?_
        refine G_ret rfl rfl rfl ?_
        show am_G at_P at_cl at_ty _ mt_12 6 [(0, .ref 1), (1, .int s), (2, .int p)] [.int (-103)] _ _
        refine G_ps 5 (pc' := 32) (l' := [(3, .int (-103)), (0, .ref 1), (1, .int s), (2, .int p)]) (st' := [.int (-103)]) rfl ?_
        refine G_ret rfl rfl rfl ?_
        exact ⟨by simp [F_place, *], rfl, by simp, by simp⟩
      · rw [if_neg hc3]
        refine G_ps 1 (pc' := 15) (l' := [(0, .ref 1), (1, .int s), (2, .int p)]) (st' := [.int (-102)]) rfl ?_
        refine G_ret rfl rfl rfl ?_
        show am_G at_P at_cl at_ty _ mt_12 6 [(0, .ref 1), (1, .int s), (2, .int p)] [.int (-102)] _ _
        refine G_ps 5 (pc' := 32) (l' := [(3, .int (-102)), (0, .ref 1), (1, .int s), (2, .int p)]) (st' := [.int (-102)]) rfl ?_
        refine G_ret rfl rfl rfl ?_
        exact ⟨by simp [F_place, *], rfl, by simp, by simp⟩
theorem m_unfold (c0 : am_C) (s p : Int32) : am_G at_P at_cl at_ty 5 mt_237 0 [(0, .ref 1826), (1, .int s), (2, .int p)] [] (c0, s8) (fun r S c n => r = some (.int (F_place s p)) ∧ S = (c0, s8) ∧ c = 0 ∧ n = 0) := by
  refine G_ps 2 (pc' := 2) (l' := [(0, .ref 1826), (1, .int s), (2, .int p)]) (st' := [.int p, .int s]) rfl ?_
  refine G_cs (i := 559) (j := 236) (M' := mt_236) (xs := [.int p, .int s]) (rest := []) rfl rfl rfl rfl rfl (Nat.le_of_ble_eq_true rfl) (Nat.le_of_ble_eq_true rfl) ?_ (fun _ _ _ _ h9 => h9)
  show am_G at_P at_cl at_ty _ mt_236 0 [(0, .int s), (1, .int p)] [] _ _
  refine G_ps 2 (pc' := if s < 0 then 13 else 4) (l' := [(0, .int s), (1, .int p)]) (st' := []) rfl ?_
  by_cases hc1 : s < 0
  · rw [if_pos hc1]
    refine G_ps 2 (pc' := 18) (l' := [(0, .int s), (1, .int p)]) (st' := [.int 1]) rfl ?_
    refine G_ret rfl rfl rfl ?_
    show am_G at_P at_cl at_ty _ mt_237 5 [(0, .ref 1826), (1, .int s), (2, .int p)] [.int 1] _ _
    refine G_ps 3 (pc' := 32) (l' := [(0, .ref 1826), (1, .int s), (2, .int p)]) (st' := [.int (-102)]) rfl ?_
    refine G_ret rfl rfl rfl ?_
    exact ⟨by simp [F_place, *], rfl, by simp, by simp⟩
  · rw [if_neg hc1]
    refine G_ps 3 (pc' := if 1 < s then 13 else 9) (l' := [(0, .int s), (1, .int p)]) (st' := []) rfl ?_
    by_cases hc2 : 1 < s
    · rw [if_pos hc2]
      refine G_ps 2 (pc' := 18) (l' := [(0, .int s), (1, .int p)]) (st' := [.int 1]) rfl ?_
      refine G_ret rfl rfl rfl ?_
      show am_G at_P at_cl at_ty _ mt_237 5 [(0, .ref 1826), (1, .int s), (2, .int p)] [.int 1] _ _
      refine G_ps 3 (pc' := 32) (l' := [(0, .ref 1826), (1, .int s), (2, .int p)]) (st' := [.int (-102)]) rfl ?_
      refine G_ret rfl rfl rfl ?_
      exact ⟨by simp [F_place, *], rfl, by simp, by simp⟩
    · rw [if_neg hc2]
      refine G_ps 2 (pc' := if 0 ≤ p then 17 else 13) (l' := [(0, .int s), (1, .int p)]) (st' := []) rfl ?_
      by_cases hc3 : 0 ≤ p
      · rw [if_pos hc3]
        refine G_ps 1 (pc' := 18) (l' := [(0, .int s), (1, .int p)]) (st' := [.int 0]) rfl ?_
        refine G_ret rfl rfl rfl ?_
        show am_G at_P at_cl at_ty _ mt_237 5 [(0, .ref 1826), (1, .int s), (2, .int p)] [.int 0] _ _
        refine G_ps 2 (pc' := 14) (l' := [(0, .ref 1826), (1, .int s), (2, .int p)]) (st' := [.ref 1826]) rfl ?_
        refine G_cv (i := 563) (j := 235) (b := 1826) (M' := mt_235) (xs := []) (rest := []) rfl rfl rfl rfl (s8_1826 c0) (Nat.le_of_ble_eq_true rfl) (Nat.le_of_ble_eq_true rfl) ?_ (fun _ _ _ _ h9 => h9)
        show am_G at_P at_cl at_ty _ mt_235 0 [(0, .ref 1826)] [] _ _
        refine G_ps 1 (pc' := 1) (l' := [(0, .ref 1826)]) (st' := [.ref 1826]) rfl ?_
        refine G_get (i := 414) (ci := 13) (k := 77) (v := .int 0) rfl rfl (s8_1826 c0) rfl ?_
        show am_G at_P at_cl at_ty _ mt_235 4 [(0, .ref 1826)] [.int 0] _ _
        refine G_ps 3 (pc' := 12) (l' := [(0, .ref 1826)]) (st' := [.int 1]) rfl ?_
        refine G_ret rfl rfl rfl ?_
        show am_G at_P at_cl at_ty _ mt_237 17 [(0, .ref 1826), (1, .int s), (2, .int p)] [.int 1] _ _
        refine G_ps 3 (pc' := 32) (l' := [(0, .ref 1826), (1, .int s), (2, .int p)]) (st' := [.int (-103)]) rfl ?_
        refine G_ret rfl rfl rfl ?_
        exact ⟨by simp [F_place, *], rfl, by simp, by simp⟩
      · rw [if_neg hc3]
        refine G_ps 2 (pc' := 18) (l' := [(0, .int s), (1, .int p)]) (st' := [.int 1]) rfl ?_
        refine G_ret rfl rfl rfl ?_
        show am_G at_P at_cl at_ty _ mt_237 5 [(0, .ref 1826), (1, .int s), (2, .int p)] [.int 1] _ _
        refine G_ps 3 (pc' := 32) (l' := [(0, .ref 1826), (1, .int s), (2, .int p)]) (st' := [.int (-102)]) rfl ?_
        refine G_ret rfl rfl rfl ?_
        exact ⟨by simp [F_place, *], rfl, by simp, by simp⟩
theorem x_law (c0 : am_C) (l k s p : Int32) : am_G at_P at_cl at_ty 5 mt_13 0 [(0, .ref 1), (1, .int l), (2, .int k), (3, .int s), (4, .int p)] [] (c0, s8) (fun r S c n => r = some (.int (F_unk l)) ∧ S = (c0, s8) ∧ c = 0 ∧ n = 0) := by
  refine G_ps 1 (pc' := 1) (l' := [(0, .ref 1), (1, .int l), (2, .int k), (3, .int s), (4, .int p)]) (st' := [.ref 1]) rfl ?_
  refine G_get (i := 19) (ci := 0) (k := 1) (v := .ref 7) rfl rfl (s8_1 c0) rfl ?_
  show am_G at_P at_cl at_ty _ mt_13 4 [(0, .ref 1), (1, .int l), (2, .int k), (3, .int s), (4, .int p)] [.ref 7] _ _
  refine G_ps 1 (pc' := 5) (l' := [(0, .ref 1), (1, .int l), (2, .int k), (3, .int s), (4, .int p)]) (st' := [.int l, .ref 7]) rfl ?_
  refine G_cv (i := 144) (j := 35) (b := 7) (M' := mt_35) (xs := [.int l]) (rest := []) rfl rfl rfl rfl (s8_7 c0) (Nat.le_of_ble_eq_true rfl) (Nat.le_of_ble_eq_true rfl) ?_ (fun _ _ _ _ h9 => h9)
  show am_G at_P at_cl at_ty _ mt_35 0 [(0, .ref 7), (1, .int l)] [] _ _
  refine G_ps 2 (pc' := if l < 0 then 25 else 4) (l' := [(0, .ref 7), (1, .int l)]) (st' := []) rfl ?_
  by_cases hc1 : l < 0
  · rw [if_pos hc1]
    refine G_ps 1 (pc' := 26) (l' := [(0, .ref 7), (1, .int l)]) (st' := [.int 0]) rfl ?_
    refine G_ret rfl rfl rfl ?_
    show am_G at_P at_cl at_ty _ mt_13 8 [(0, .ref 1), (1, .int l), (2, .int k), (3, .int s), (4, .int p)] [.int 0] _ _
    refine G_ps 2 (pc' := 13) (l' := [(0, .ref 1), (1, .int l), (2, .int k), (3, .int s), (4, .int p)]) (st' := [.int (-101)]) rfl ?_
    refine G_ret rfl rfl rfl ?_
    exact ⟨by simp [F_unk, *], rfl, by simp, by simp⟩
  · rw [if_neg hc1]
    refine G_ps 2 (pc' := 6) (l' := [(0, .ref 7), (1, .int l)]) (st' := [.ref 7, .int l]) rfl ?_
    refine G_get (i := 36) (ci := 2) (k := 6) (v := .int 0) rfl rfl (s8_7 c0) rfl ?_
    show am_G at_P at_cl at_ty _ mt_35 9 [(0, .ref 7), (1, .int l)] [.int 0, .int l] _ _
    refine G_ps 1 (pc' := if 0 ≤ l then 25 else 12) (l' := [(0, .ref 7), (1, .int l)]) (st' := []) rfl ?_
    by_cases hc2 : 0 ≤ l
    · rw [if_pos hc2]
      refine G_ps 1 (pc' := 26) (l' := [(0, .ref 7), (1, .int l)]) (st' := [.int 0]) rfl ?_
      refine G_ret rfl rfl rfl ?_
      show am_G at_P at_cl at_ty _ mt_13 8 [(0, .ref 1), (1, .int l), (2, .int k), (3, .int s), (4, .int p)] [.int 0] _ _
      refine G_ps 2 (pc' := 13) (l' := [(0, .ref 1), (1, .int l), (2, .int k), (3, .int s), (4, .int p)]) (st' := [.int (-101)]) rfl ?_
      refine G_ret rfl rfl rfl ?_
      exact ⟨by simp [F_unk, *], rfl, by simp, by simp⟩
    · rw [if_neg hc2]
      exfalso
      simp only [Int32.lt_iff_toInt_lt, Int32.le_iff_toInt_le, show (0 : Int32).toInt = 0 by decide] at hc1 hc2
      omega
theorem m_law (c0 : am_C) (l k s p : Int32) : am_G at_P at_cl at_ty 5 mt_243 0 [(0, .ref 1826), (1, .int l), (2, .int k), (3, .int s), (4, .int p)] [] (c0, s8) (fun r S c n => r = some (.int (F_unk l)) ∧ S = (c0, s8) ∧ c = 0 ∧ n = 0) := by
  refine G_ps 2 (pc' := if l < 0 then 12 else 4) (l' := [(0, .ref 1826), (1, .int l), (2, .int k), (3, .int s), (4, .int p)]) (st' := []) rfl ?_
  by_cases hc1 : l < 0
  · rw [if_pos hc1]
    refine G_ps 2 (pc' := 53) (l' := [(0, .ref 1826), (1, .int l), (2, .int k), (3, .int s), (4, .int p)]) (st' := [.int (-101)]) rfl ?_
    refine G_ret rfl rfl rfl ?_
    exact ⟨by simp [F_unk, *], rfl, by simp, by simp⟩
  · rw [if_neg hc1]
    refine G_ps 2 (pc' := 6) (l' := [(0, .ref 1826), (1, .int l), (2, .int k), (3, .int s), (4, .int p)]) (st' := [.ref 1826, .int l]) rfl ?_
    refine G_get (i := 387) (ci := 13) (k := 19) (v := .int 0) rfl rfl (s8_1826 c0) rfl ?_
    show am_G at_P at_cl at_ty _ mt_243 9 [(0, .ref 1826), (1, .int l), (2, .int k), (3, .int s), (4, .int p)] [.int 0, .int l] _ _
    refine G_ps 1 (pc' := if l < 0 then 17 else 12) (l' := [(0, .ref 1826), (1, .int l), (2, .int k), (3, .int s), (4, .int p)]) (st' := []) rfl ?_
    by_cases hc2 : l < 0
    · rw [if_pos hc2]
      exfalso
      simp only [Int32.lt_iff_toInt_lt, Int32.le_iff_toInt_le, show (0 : Int32).toInt = 0 by decide] at hc1 hc2
      omega
    · rw [if_neg hc2]
      refine G_ps 2 (pc' := 53) (l' := [(0, .ref 1826), (1, .int l), (2, .int k), (3, .int s), (4, .int p)]) (st' := [.int (-101)]) rfl ?_
      refine G_ret rfl rfl rfl ?_
      exact ⟨by simp [F_unk, *], rfl, by simp, by simp⟩
theorem x_hypothesis (c0 : am_C) (k a s p : Int32) : am_G at_P at_cl at_ty 5 mt_14 0 [(0, .ref 1), (1, .int k), (2, .int a), (3, .int s), (4, .int p)] [] (c0, s8) (fun r S c n => r = some (.int (F_place s p)) ∧ S = (c0, s8) ∧ c = 0 ∧ n = 0) := by
  refine G_ps 3 (pc' := 4) (l' := [(0, .ref 1), (1, .int k), (2, .int a), (3, .int s), (4, .int p)]) (st' := [.int p, .int s, .ref 1]) rfl ?_
  refine G_cv (i := 202) (j := 24) (b := 1) (M' := mt_24) (xs := [.int p, .int s]) (rest := []) rfl rfl rfl rfl (s8_1 c0) (Nat.le_of_ble_eq_true rfl) (Nat.le_of_ble_eq_true rfl) ?_ (fun _ _ _ _ h9 => h9)
  show am_G at_P at_cl at_ty _ mt_24 0 [(0, .ref 1), (1, .int s), (2, .int p)] [] _ _
  refine G_ps 2 (pc' := if s < 0 then 13 else 4) (l' := [(0, .ref 1), (1, .int s), (2, .int p)]) (st' := []) rfl ?_
  by_cases hc1 : s < 0
  · rw [if_pos hc1]
    refine G_ps 1 (pc' := 15) (l' := [(0, .ref 1), (1, .int s), (2, .int p)]) (st' := [.int (-102)]) rfl ?_
    refine G_ret rfl rfl rfl ?_
    show am_G at_P at_cl at_ty _ mt_14 7 [(0, .ref 1), (1, .int k), (2, .int a), (3, .int s), (4, .int p)] [.int (-102)] _ _
    refine G_ps 4 (pc' := 16) (l' := [(5, .int (-102)), (0, .ref 1), (1, .int k), (2, .int a), (3, .int s), (4, .int p)]) (st' := [.int (-102)]) rfl ?_
    refine G_ret rfl rfl rfl ?_
    exact ⟨by simp [F_place, *], rfl, by simp, by simp⟩
  · rw [if_neg hc1]
    refine G_ps 3 (pc' := if 1 < s then 13 else 9) (l' := [(0, .ref 1), (1, .int s), (2, .int p)]) (st' := []) rfl ?_
    by_cases hc2 : 1 < s
    · rw [if_pos hc2]
      refine G_ps 1 (pc' := 15) (l' := [(0, .ref 1), (1, .int s), (2, .int p)]) (st' := [.int (-102)]) rfl ?_
      refine G_ret rfl rfl rfl ?_
      show am_G at_P at_cl at_ty _ mt_14 7 [(0, .ref 1), (1, .int k), (2, .int a), (3, .int s), (4, .int p)] [.int (-102)] _ _
      refine G_ps 4 (pc' := 16) (l' := [(5, .int (-102)), (0, .ref 1), (1, .int k), (2, .int a), (3, .int s), (4, .int p)]) (st' := [.int (-102)]) rfl ?_
      refine G_ret rfl rfl rfl ?_
      exact ⟨by simp [F_place, *], rfl, by simp, by simp⟩
    · rw [if_neg hc2]
      refine G_ps 2 (pc' := if 0 ≤ p then 16 else 13) (l' := [(0, .ref 1), (1, .int s), (2, .int p)]) (st' := []) rfl ?_
      by_cases hc3 : 0 ≤ p
      · rw [if_pos hc3]
        refine G_ps 1 (pc' := 17) (l' := [(0, .ref 1), (1, .int s), (2, .int p)]) (st' := [.ref 1]) rfl ?_
        refine G_get (i := 60) (ci := 0) (k := 6) (v := .ref 406) rfl rfl (s8_1 c0) rfl ?_
        show am_G at_P at_cl at_ty _ mt_24 20 [(0, .ref 1), (1, .int s), (2, .int p)] [.ref 406] _ _
        refine G_get (i := 96) (ci := 10) (k := 2) (v := .ref 407) rfl rfl (s8_406 c0) rfl ?_
        show am_G at_P at_cl at_ty _ mt_24 23 [(0, .ref 1), (1, .int s), (2, .int p)] [.ref 407] _ _
        refine G_get (i := 129) (ci := 11) (k := 2) (v := .int 0) rfl rfl (s8_407 c0) rfl ?_
        show am_G at_P at_cl at_ty _ mt_24 26 [(0, .ref 1), (1, .int s), (2, .int p)] [.int 0] _ _
        refine G_ps 2 (pc' := 35) (l' := [(0, .ref 1), (1, .int s), (2, .int p)]) (st' := [.int (-103)]) rfl ?_
        refine G_ret rfl rfl rfl ?_
        show am_G at_P at_cl at_ty _ mt_14 7 [(0, .ref 1), (1, .int k), (2, .int a), (3, .int s), (4, .int p)] [.int (-103)] _ _
        refine G_ps 4 (pc' := 16) (l' := [(5, .int (-103)), (0, .ref 1), (1, .int k), (2, .int a), (3, .int s), (4, .int p)]) (st' := [.int (-103)]) rfl ?_
        refine G_ret rfl rfl rfl ?_
        exact ⟨by simp [F_place, *], rfl, by simp, by simp⟩
      · rw [if_neg hc3]
        refine G_ps 1 (pc' := 15) (l' := [(0, .ref 1), (1, .int s), (2, .int p)]) (st' := [.int (-102)]) rfl ?_
        refine G_ret rfl rfl rfl ?_
        show am_G at_P at_cl at_ty _ mt_14 7 [(0, .ref 1), (1, .int k), (2, .int a), (3, .int s), (4, .int p)] [.int (-102)] _ _
        refine G_ps 4 (pc' := 16) (l' := [(5, .int (-102)), (0, .ref 1), (1, .int k), (2, .int a), (3, .int s), (4, .int p)]) (st' := [.int (-102)]) rfl ?_
        refine G_ret rfl rfl rfl ?_
        exact ⟨by simp [F_place, *], rfl, by simp, by simp⟩
theorem m_hypothesis (c0 : am_C) (k a s p : Int32) : am_G at_P at_cl at_ty 5 mt_245 0 [(0, .ref 1826), (1, .int k), (2, .int a), (3, .int s), (4, .int p)] [] (c0, s8) (fun r S c n => r = some (.int (F_place s p)) ∧ S = (c0, s8) ∧ c = 0 ∧ n = 0) := by
  refine G_ps 2 (pc' := 3) (l' := [(0, .ref 1826), (1, .int k), (2, .int a), (3, .int s), (4, .int p)]) (st' := [.int p, .int s]) rfl ?_
  refine G_cs (i := 559) (j := 236) (M' := mt_236) (xs := [.int p, .int s]) (rest := []) rfl rfl rfl rfl rfl (Nat.le_of_ble_eq_true rfl) (Nat.le_of_ble_eq_true rfl) ?_ (fun _ _ _ _ h9 => h9)
  show am_G at_P at_cl at_ty _ mt_236 0 [(0, .int s), (1, .int p)] [] _ _
  refine G_ps 2 (pc' := if s < 0 then 13 else 4) (l' := [(0, .int s), (1, .int p)]) (st' := []) rfl ?_
  by_cases hc1 : s < 0
  · rw [if_pos hc1]
    refine G_ps 2 (pc' := 18) (l' := [(0, .int s), (1, .int p)]) (st' := [.int 1]) rfl ?_
    refine G_ret rfl rfl rfl ?_
    show am_G at_P at_cl at_ty _ mt_245 6 [(0, .ref 1826), (1, .int k), (2, .int a), (3, .int s), (4, .int p)] [.int 1] _ _
    refine G_ps 3 (pc' := 36) (l' := [(0, .ref 1826), (1, .int k), (2, .int a), (3, .int s), (4, .int p)]) (st' := [.int (-102)]) rfl ?_
    refine G_ret rfl rfl rfl ?_
    exact ⟨by simp [F_place, *], rfl, by simp, by simp⟩
  · rw [if_neg hc1]
    refine G_ps 3 (pc' := if 1 < s then 13 else 9) (l' := [(0, .int s), (1, .int p)]) (st' := []) rfl ?_
    by_cases hc2 : 1 < s
    · rw [if_pos hc2]
      refine G_ps 2 (pc' := 18) (l' := [(0, .int s), (1, .int p)]) (st' := [.int 1]) rfl ?_
      refine G_ret rfl rfl rfl ?_
      show am_G at_P at_cl at_ty _ mt_245 6 [(0, .ref 1826), (1, .int k), (2, .int a), (3, .int s), (4, .int p)] [.int 1] _ _
      refine G_ps 3 (pc' := 36) (l' := [(0, .ref 1826), (1, .int k), (2, .int a), (3, .int s), (4, .int p)]) (st' := [.int (-102)]) rfl ?_
      refine G_ret rfl rfl rfl ?_
      exact ⟨by simp [F_place, *], rfl, by simp, by simp⟩
    · rw [if_neg hc2]
      refine G_ps 2 (pc' := if 0 ≤ p then 17 else 13) (l' := [(0, .int s), (1, .int p)]) (st' := []) rfl ?_
      by_cases hc3 : 0 ≤ p
      · rw [if_pos hc3]
        refine G_ps 1 (pc' := 18) (l' := [(0, .int s), (1, .int p)]) (st' := [.int 0]) rfl ?_
        refine G_ret rfl rfl rfl ?_
        show am_G at_P at_cl at_ty _ mt_245 6 [(0, .ref 1826), (1, .int k), (2, .int a), (3, .int s), (4, .int p)] [.int 0] _ _
        refine G_ps 2 (pc' := 15) (l' := [(0, .ref 1826), (1, .int k), (2, .int a), (3, .int s), (4, .int p)]) (st' := [.ref 1826]) rfl ?_
        refine G_cv (i := 563) (j := 235) (b := 1826) (M' := mt_235) (xs := []) (rest := []) rfl rfl rfl rfl (s8_1826 c0) (Nat.le_of_ble_eq_true rfl) (Nat.le_of_ble_eq_true rfl) ?_ (fun _ _ _ _ h9 => h9)
        show am_G at_P at_cl at_ty _ mt_235 0 [(0, .ref 1826)] [] _ _
        refine G_ps 1 (pc' := 1) (l' := [(0, .ref 1826)]) (st' := [.ref 1826]) rfl ?_
        refine G_get (i := 414) (ci := 13) (k := 77) (v := .int 0) rfl rfl (s8_1826 c0) rfl ?_
        show am_G at_P at_cl at_ty _ mt_235 4 [(0, .ref 1826)] [.int 0] _ _
        refine G_ps 3 (pc' := 12) (l' := [(0, .ref 1826)]) (st' := [.int 1]) rfl ?_
        refine G_ret rfl rfl rfl ?_
        show am_G at_P at_cl at_ty _ mt_245 18 [(0, .ref 1826), (1, .int k), (2, .int a), (3, .int s), (4, .int p)] [.int 1] _ _
        refine G_ps 3 (pc' := 36) (l' := [(0, .ref 1826), (1, .int k), (2, .int a), (3, .int s), (4, .int p)]) (st' := [.int (-103)]) rfl ?_
        refine G_ret rfl rfl rfl ?_
        exact ⟨by simp [F_place, *], rfl, by simp, by simp⟩
      · rw [if_neg hc3]
        refine G_ps 2 (pc' := 18) (l' := [(0, .int s), (1, .int p)]) (st' := [.int 1]) rfl ?_
        refine G_ret rfl rfl rfl ?_
        show am_G at_P at_cl at_ty _ mt_245 6 [(0, .ref 1826), (1, .int k), (2, .int a), (3, .int s), (4, .int p)] [.int 1] _ _
        refine G_ps 3 (pc' := 36) (l' := [(0, .ref 1826), (1, .int k), (2, .int a), (3, .int s), (4, .int p)]) (st' := [.int (-102)]) rfl ?_
        refine G_ret rfl rfl rfl ?_
        exact ⟨by simp [F_place, *], rfl, by simp, by simp⟩
theorem x_induction (c0 : am_C) (v : Int32) : am_G at_P at_cl at_ty 5 mt_15 0 [(0, .ref 1), (1, .int v)] [] (c0, s8) (fun r S c n => r = some (.int (F_st v)) ∧ S = (c0, s8) ∧ c = 0 ∧ n = 0) := by
  refine G_ps 1 (pc' := 1) (l' := [(0, .ref 1), (1, .int v)]) (st' := [.ref 1]) rfl ?_
  refine G_get (i := 60) (ci := 0) (k := 6) (v := .ref 406) rfl rfl (s8_1 c0) rfl ?_
  show am_G at_P at_cl at_ty _ mt_15 4 [(0, .ref 1), (1, .int v)] [.ref 406] _ _
  refine G_get (i := 96) (ci := 10) (k := 2) (v := .ref 407) rfl rfl (s8_406 c0) rfl ?_
  show am_G at_P at_cl at_ty _ mt_15 7 [(0, .ref 1), (1, .int v)] [.ref 407] _ _
  refine G_get (i := 129) (ci := 11) (k := 2) (v := .int 0) rfl rfl (s8_407 c0) rfl ?_
  show am_G at_P at_cl at_ty _ mt_15 10 [(0, .ref 1), (1, .int v)] [.int 0] _ _
  refine G_ps 2 (pc' := 26) (l' := [(0, .ref 1), (1, .int v)]) (st' := [.int (-103)]) rfl ?_
  refine G_ret rfl rfl rfl ?_
  exact ⟨by simp [F_st, *], rfl, by simp, by simp⟩
theorem m_induction (c0 : am_C) (v : Int32) : am_G at_P at_cl at_ty 5 mt_252 0 [(0, .ref 1826), (1, .int v)] [] (c0, s8) (fun r S c n => r = some (.int (F_st v)) ∧ S = (c0, s8) ∧ c = 0 ∧ n = 0) := by
  refine G_ps 1 (pc' := 1) (l' := [(0, .ref 1826), (1, .int v)]) (st' := [.ref 1826]) rfl ?_
  refine G_cv (i := 563) (j := 235) (b := 1826) (M' := mt_235) (xs := []) (rest := []) rfl rfl rfl rfl (s8_1826 c0) (Nat.le_of_ble_eq_true rfl) (Nat.le_of_ble_eq_true rfl) ?_ (fun _ _ _ _ h9 => h9)
  show am_G at_P at_cl at_ty _ mt_235 0 [(0, .ref 1826)] [] _ _
  refine G_ps 1 (pc' := 1) (l' := [(0, .ref 1826)]) (st' := [.ref 1826]) rfl ?_
  refine G_get (i := 414) (ci := 13) (k := 77) (v := .int 0) rfl rfl (s8_1826 c0) rfl ?_
  show am_G at_P at_cl at_ty _ mt_235 4 [(0, .ref 1826)] [.int 0] _ _
  refine G_ps 3 (pc' := 12) (l' := [(0, .ref 1826)]) (st' := [.int 1]) rfl ?_
  refine G_ret rfl rfl rfl ?_
  show am_G at_P at_cl at_ty _ mt_252 4 [(0, .ref 1826), (1, .int v)] [.int 1] _ _
  refine G_ps 3 (pc' := 68) (l' := [(0, .ref 1826), (1, .int v)]) (st' := [.int (-103)]) rfl ?_
  refine G_ret rfl rfl rfl ?_
  exact ⟨by simp [F_st, *], rfl, by simp, by simp⟩
theorem x_cases (c0 : am_C) (s p : Int32) : am_G at_P at_cl at_ty 5 mt_16 0 [(0, .ref 1), (1, .int s), (2, .int p)] [] (c0, s8) (fun r S c n => r = some (.int (F_place s p)) ∧ S = (c0, s8) ∧ c = 0 ∧ n = 0) := by
  refine G_ps 3 (pc' := 3) (l' := [(0, .ref 1), (1, .int s), (2, .int p)]) (st' := [.int p, .int s, .ref 1]) rfl ?_
  refine G_cv (i := 202) (j := 24) (b := 1) (M' := mt_24) (xs := [.int p, .int s]) (rest := []) rfl rfl rfl rfl (s8_1 c0) (Nat.le_of_ble_eq_true rfl) (Nat.le_of_ble_eq_true rfl) ?_ (fun _ _ _ _ h9 => h9)
  show am_G at_P at_cl at_ty _ mt_24 0 [(0, .ref 1), (1, .int s), (2, .int p)] [] _ _
  refine G_ps 2 (pc' := if s < 0 then 13 else 4) (l' := [(0, .ref 1), (1, .int s), (2, .int p)]) (st' := []) rfl ?_
  by_cases hc1 : s < 0
  · rw [if_pos hc1]
    refine G_ps 1 (pc' := 15) (l' := [(0, .ref 1), (1, .int s), (2, .int p)]) (st' := [.int (-102)]) rfl ?_
    refine G_ret rfl rfl rfl ?_
    show am_G at_P at_cl at_ty _ mt_16 6 [(0, .ref 1), (1, .int s), (2, .int p)] [.int (-102)] _ _
    refine G_ps 5 (pc' := 32) (l' := [(3, .int (-102)), (0, .ref 1), (1, .int s), (2, .int p)]) (st' := [.int (-102)]) rfl ?_
    refine G_ret rfl rfl rfl ?_
    exact ⟨by simp [F_place, *], rfl, by simp, by simp⟩
  · rw [if_neg hc1]
    refine G_ps 3 (pc' := if 1 < s then 13 else 9) (l' := [(0, .ref 1), (1, .int s), (2, .int p)]) (st' := []) rfl ?_
    by_cases hc2 : 1 < s
    · rw [if_pos hc2]
      refine G_ps 1 (pc' := 15) (l' := [(0, .ref 1), (1, .int s), (2, .int p)]) (st' := [.int (-102)]) rfl ?_
      refine G_ret rfl rfl rfl ?_
      show am_G at_P at_cl at_ty _ mt_16 6 [(0, .ref 1), (1, .int s), (2, .int p)] [.int (-102)] _ _
      refine G_ps 5 (pc' := 32) (l' := [(3, .int (-102)), (0, .ref 1), (1, .int s), (2, .int p)]) (st' := [.int (-102)]) rfl ?_
      refine G_ret rfl rfl rfl ?_
      exact ⟨by simp [F_place, *], rfl, by simp, by simp⟩
    · rw [if_neg hc2]
      refine G_ps 2 (pc' := if 0 ≤ p then 16 else 13) (l' := [(0, .ref 1), (1, .int s), (2, .int p)]) (st' := []) rfl ?_
      by_cases hc3 : 0 ≤ p
      · rw [if_pos hc3]
        refine G_ps 1 (pc' := 17) (l' := [(0, .ref 1), (1, .int s), (2, .int p)]) (st' := [.ref 1]) rfl ?_
        refine G_get (i := 60) (ci := 0) (k := 6) (v := .ref 406) rfl rfl (s8_1 c0) rfl ?_
        show am_G at_P at_cl at_ty _ mt_24 20 [(0, .ref 1), (1, .int s), (2, .int p)] [.ref 406] _ _
        refine G_get (i := 96) (ci := 10) (k := 2) (v := .ref 407) rfl rfl (s8_406 c0) rfl ?_
        show am_G at_P at_cl at_ty _ mt_24 23 [(0, .ref 1), (1, .int s), (2, .int p)] [.ref 407] _ _
        refine G_get (i := 129) (ci := 11) (k := 2) (v := .int 0) rfl rfl (s8_407 c0) rfl ?_
        show am_G at_P at_cl at_ty _ mt_24 26 [(0, .ref 1), (1, .int s), (2, .int p)] [.int 0] _ _
        refine G_ps 2 (pc' := 35) (l' := [(0, .ref 1), (1, .int s), (2, .int p)]) (st' := [.int (-103)]) rfl ?_
        refine G_ret rfl rfl rfl ?_
        show am_G at_P at_cl at_ty _ mt_16 6 [(0, .ref 1), (1, .int s), (2, .int p)] [.int (-103)] _ _
        refine G_ps 5 (pc' := 32) (l' := [(3, .int (-103)), (0, .ref 1), (1, .int s), (2, .int p)]) (st' := [.int (-103)]) rfl ?_
        refine G_ret rfl rfl rfl ?_
        exact ⟨by simp [F_place, *], rfl, by simp, by simp⟩
      · rw [if_neg hc3]
        refine G_ps 1 (pc' := 15) (l' := [(0, .ref 1), (1, .int s), (2, .int p)]) (st' := [.int (-102)]) rfl ?_
        refine G_ret rfl rfl rfl ?_
        show am_G at_P at_cl at_ty _ mt_16 6 [(0, .ref 1), (1, .int s), (2, .int p)] [.int (-102)] _ _
        refine G_ps 5 (pc' := 32) (l' := [(3, .int (-102)), (0, .ref 1), (1, .int s), (2, .int p)]) (st' := [.int (-102)]) rfl ?_
        refine G_ret rfl rfl rfl ?_
        exact ⟨by simp [F_place, *], rfl, by simp, by simp⟩
theorem m_cases (c0 : am_C) (s p : Int32) : am_G at_P at_cl at_ty 5 mt_255 0 [(0, .ref 1826), (1, .int s), (2, .int p)] [] (c0, s8) (fun r S c n => r = some (.int (F_place s p)) ∧ S = (c0, s8) ∧ c = 0 ∧ n = 0) := by
  refine G_ps 2 (pc' := 2) (l' := [(0, .ref 1826), (1, .int s), (2, .int p)]) (st' := [.int p, .int s]) rfl ?_
  refine G_cs (i := 559) (j := 236) (M' := mt_236) (xs := [.int p, .int s]) (rest := []) rfl rfl rfl rfl rfl (Nat.le_of_ble_eq_true rfl) (Nat.le_of_ble_eq_true rfl) ?_ (fun _ _ _ _ h9 => h9)
  show am_G at_P at_cl at_ty _ mt_236 0 [(0, .int s), (1, .int p)] [] _ _
  refine G_ps 2 (pc' := if s < 0 then 13 else 4) (l' := [(0, .int s), (1, .int p)]) (st' := []) rfl ?_
  by_cases hc1 : s < 0
  · rw [if_pos hc1]
    refine G_ps 2 (pc' := 18) (l' := [(0, .int s), (1, .int p)]) (st' := [.int 1]) rfl ?_
    refine G_ret rfl rfl rfl ?_
    show am_G at_P at_cl at_ty _ mt_255 5 [(0, .ref 1826), (1, .int s), (2, .int p)] [.int 1] _ _
    refine G_ps 3 (pc' := 32) (l' := [(0, .ref 1826), (1, .int s), (2, .int p)]) (st' := [.int (-102)]) rfl ?_
    refine G_ret rfl rfl rfl ?_
    exact ⟨by simp [F_place, *], rfl, by simp, by simp⟩
  · rw [if_neg hc1]
    refine G_ps 3 (pc' := if 1 < s then 13 else 9) (l' := [(0, .int s), (1, .int p)]) (st' := []) rfl ?_
    by_cases hc2 : 1 < s
    · rw [if_pos hc2]
      refine G_ps 2 (pc' := 18) (l' := [(0, .int s), (1, .int p)]) (st' := [.int 1]) rfl ?_
      refine G_ret rfl rfl rfl ?_
      show am_G at_P at_cl at_ty _ mt_255 5 [(0, .ref 1826), (1, .int s), (2, .int p)] [.int 1] _ _
      refine G_ps 3 (pc' := 32) (l' := [(0, .ref 1826), (1, .int s), (2, .int p)]) (st' := [.int (-102)]) rfl ?_
      refine G_ret rfl rfl rfl ?_
      exact ⟨by simp [F_place, *], rfl, by simp, by simp⟩
    · rw [if_neg hc2]
      refine G_ps 2 (pc' := if 0 ≤ p then 17 else 13) (l' := [(0, .int s), (1, .int p)]) (st' := []) rfl ?_
      by_cases hc3 : 0 ≤ p
      · rw [if_pos hc3]
        refine G_ps 1 (pc' := 18) (l' := [(0, .int s), (1, .int p)]) (st' := [.int 0]) rfl ?_
        refine G_ret rfl rfl rfl ?_
        show am_G at_P at_cl at_ty _ mt_255 5 [(0, .ref 1826), (1, .int s), (2, .int p)] [.int 0] _ _
        refine G_ps 2 (pc' := 14) (l' := [(0, .ref 1826), (1, .int s), (2, .int p)]) (st' := [.ref 1826]) rfl ?_
        refine G_cv (i := 563) (j := 235) (b := 1826) (M' := mt_235) (xs := []) (rest := []) rfl rfl rfl rfl (s8_1826 c0) (Nat.le_of_ble_eq_true rfl) (Nat.le_of_ble_eq_true rfl) ?_ (fun _ _ _ _ h9 => h9)
        show am_G at_P at_cl at_ty _ mt_235 0 [(0, .ref 1826)] [] _ _
        refine G_ps 1 (pc' := 1) (l' := [(0, .ref 1826)]) (st' := [.ref 1826]) rfl ?_
        refine G_get (i := 414) (ci := 13) (k := 77) (v := .int 0) rfl rfl (s8_1826 c0) rfl ?_
        show am_G at_P at_cl at_ty _ mt_235 4 [(0, .ref 1826)] [.int 0] _ _
        refine G_ps 3 (pc' := 12) (l' := [(0, .ref 1826)]) (st' := [.int 1]) rfl ?_
        refine G_ret rfl rfl rfl ?_
        show am_G at_P at_cl at_ty _ mt_255 17 [(0, .ref 1826), (1, .int s), (2, .int p)] [.int 1] _ _
        refine G_ps 3 (pc' := 32) (l' := [(0, .ref 1826), (1, .int s), (2, .int p)]) (st' := [.int (-103)]) rfl ?_
        refine G_ret rfl rfl rfl ?_
        exact ⟨by simp [F_place, *], rfl, by simp, by simp⟩
      · rw [if_neg hc3]
        refine G_ps 2 (pc' := 18) (l' := [(0, .int s), (1, .int p)]) (st' := [.int 1]) rfl ?_
        refine G_ret rfl rfl rfl ?_
        show am_G at_P at_cl at_ty _ mt_255 5 [(0, .ref 1826), (1, .int s), (2, .int p)] [.int 1] _ _
        refine G_ps 3 (pc' := 32) (l' := [(0, .ref 1826), (1, .int s), (2, .int p)]) (st' := [.int (-102)]) rfl ?_
        refine G_ret rfl rfl rfl ?_
        exact ⟨by simp [F_place, *], rfl, by simp, by simp⟩
theorem x_same (c0 : am_C) : am_G at_P at_cl at_ty 5 mt_17 0 [(0, .ref 1)] [] (c0, s8) (fun r S c n => r = some (.int (F_state)) ∧ S = (c0, s8) ∧ c = 0 ∧ n = 0) := by
  refine G_ps 1 (pc' := 1) (l' := [(0, .ref 1)]) (st' := [.ref 1]) rfl ?_
  refine G_get (i := 60) (ci := 0) (k := 6) (v := .ref 406) rfl rfl (s8_1 c0) rfl ?_
  show am_G at_P at_cl at_ty _ mt_17 4 [(0, .ref 1)] [.ref 406] _ _
  refine G_get (i := 96) (ci := 10) (k := 2) (v := .ref 407) rfl rfl (s8_406 c0) rfl ?_
  show am_G at_P at_cl at_ty _ mt_17 7 [(0, .ref 1)] [.ref 407] _ _
  refine G_get (i := 129) (ci := 11) (k := 2) (v := .int 0) rfl rfl (s8_407 c0) rfl ?_
  show am_G at_P at_cl at_ty _ mt_17 10 [(0, .ref 1)] [.int 0] _ _
  refine G_ps 2 (pc' := 25) (l' := [(0, .ref 1)]) (st' := [.int (-103)]) rfl ?_
  refine G_ret rfl rfl rfl ?_
  exact ⟨by simp [F_state, *], rfl, by simp, by simp⟩
theorem m_same (c0 : am_C) : am_G at_P at_cl at_ty 5 mt_261 0 [(0, .ref 1826)] [] (c0, s8) (fun r S c n => r = some (.int (F_state)) ∧ S = (c0, s8) ∧ c = 0 ∧ n = 0) := by
  refine G_ps 1 (pc' := 1) (l' := [(0, .ref 1826)]) (st' := [.ref 1826]) rfl ?_
  refine G_cv (i := 563) (j := 235) (b := 1826) (M' := mt_235) (xs := []) (rest := []) rfl rfl rfl rfl (s8_1826 c0) (Nat.le_of_ble_eq_true rfl) (Nat.le_of_ble_eq_true rfl) ?_ (fun _ _ _ _ h9 => h9)
  show am_G at_P at_cl at_ty _ mt_235 0 [(0, .ref 1826)] [] _ _
  refine G_ps 1 (pc' := 1) (l' := [(0, .ref 1826)]) (st' := [.ref 1826]) rfl ?_
  refine G_get (i := 414) (ci := 13) (k := 77) (v := .int 0) rfl rfl (s8_1826 c0) rfl ?_
  show am_G at_P at_cl at_ty _ mt_235 4 [(0, .ref 1826)] [.int 0] _ _
  refine G_ps 3 (pc' := 12) (l' := [(0, .ref 1826)]) (st' := [.int 1]) rfl ?_
  refine G_ret rfl rfl rfl ?_
  show am_G at_P at_cl at_ty _ mt_261 4 [(0, .ref 1826)] [.int 1] _ _
  refine G_ps 2 (pc' := 9) (l' := [(0, .ref 1826)]) (st' := [.int (-103)]) rfl ?_
  refine G_ret rfl rfl rfl ?_
  exact ⟨by simp [F_state, *], rfl, by simp, by simp⟩
theorem x_parts (c0 : am_C) : am_G at_P at_cl at_ty 5 mt_18 0 [(0, .ref 1)] [] (c0, s8) (fun r S c n => r = some (.int (F_state)) ∧ S = (c0, s8) ∧ c = 0 ∧ n = 0) := by
  refine G_ps 1 (pc' := 1) (l' := [(0, .ref 1)]) (st' := [.ref 1]) rfl ?_
  refine G_get (i := 60) (ci := 0) (k := 6) (v := .ref 406) rfl rfl (s8_1 c0) rfl ?_
  show am_G at_P at_cl at_ty _ mt_18 4 [(0, .ref 1)] [.ref 406] _ _
  refine G_get (i := 96) (ci := 10) (k := 2) (v := .ref 407) rfl rfl (s8_406 c0) rfl ?_
  show am_G at_P at_cl at_ty _ mt_18 7 [(0, .ref 1)] [.ref 407] _ _
  refine G_get (i := 129) (ci := 11) (k := 2) (v := .int 0) rfl rfl (s8_407 c0) rfl ?_
  show am_G at_P at_cl at_ty _ mt_18 10 [(0, .ref 1)] [.int 0] _ _
  refine G_ps 2 (pc' := 25) (l' := [(0, .ref 1)]) (st' := [.int (-103)]) rfl ?_
  refine G_ret rfl rfl rfl ?_
  exact ⟨by simp [F_state, *], rfl, by simp, by simp⟩
theorem m_parts (c0 : am_C) : am_G at_P at_cl at_ty 5 mt_262 0 [(0, .ref 1826)] [] (c0, s8) (fun r S c n => r = some (.int (F_state)) ∧ S = (c0, s8) ∧ c = 0 ∧ n = 0) := by
  refine G_ps 1 (pc' := 1) (l' := [(0, .ref 1826)]) (st' := [.ref 1826]) rfl ?_
  refine G_cv (i := 563) (j := 235) (b := 1826) (M' := mt_235) (xs := []) (rest := []) rfl rfl rfl rfl (s8_1826 c0) (Nat.le_of_ble_eq_true rfl) (Nat.le_of_ble_eq_true rfl) ?_ (fun _ _ _ _ h9 => h9)
  show am_G at_P at_cl at_ty _ mt_235 0 [(0, .ref 1826)] [] _ _
  refine G_ps 1 (pc' := 1) (l' := [(0, .ref 1826)]) (st' := [.ref 1826]) rfl ?_
  refine G_get (i := 414) (ci := 13) (k := 77) (v := .int 0) rfl rfl (s8_1826 c0) rfl ?_
  show am_G at_P at_cl at_ty _ mt_235 4 [(0, .ref 1826)] [.int 0] _ _
  refine G_ps 3 (pc' := 12) (l' := [(0, .ref 1826)]) (st' := [.int 1]) rfl ?_
  refine G_ret rfl rfl rfl ?_
  show am_G at_P at_cl at_ty _ mt_262 4 [(0, .ref 1826)] [.int 1] _ _
  refine G_ps 2 (pc' := 9) (l' := [(0, .ref 1826)]) (st' := [.int (-103)]) rfl ?_
  refine G_ret rfl rfl rfl ?_
  exact ⟨by simp [F_state, *], rfl, by simp, by simp⟩
theorem x_search (c0 : am_C) (q : Int32) : am_G at_P at_cl at_ty 5 mt_19 0 [(0, .ref 1), (1, .int q)] [] (c0, s8) (fun r S c n => r = some (.int (F_srch q)) ∧ S = (c0, s8) ∧ c = 0 ∧ n = 0) := by
  refine G_ps 3 (pc' := if q < 1 then 12 else 5) (l' := [(0, .ref 1), (1, .int q)]) (st' := []) rfl ?_
  by_cases hc1 : q < 1
  · rw [if_pos hc1]
    refine G_ps 1 (pc' := 14) (l' := [(0, .ref 1), (1, .int q)]) (st' := [.int (-102)]) rfl ?_
    refine G_ret rfl rfl rfl ?_
    exact ⟨by simp [F_srch, *], rfl, by simp, by simp⟩
  · rw [if_neg hc1]
    refine G_ps 3 (pc' := if q ≤ 500 then 15 else 12) (l' := [(0, .ref 1), (1, .int q)]) (st' := []) rfl ?_
    by_cases hc2 : q ≤ 500
    · rw [if_pos hc2]
      refine G_ps 1 (pc' := 16) (l' := [(0, .ref 1), (1, .int q)]) (st' := [.ref 1]) rfl ?_
      refine G_get (i := 60) (ci := 0) (k := 6) (v := .ref 406) rfl rfl (s8_1 c0) rfl ?_
      show am_G at_P at_cl at_ty _ mt_19 19 [(0, .ref 1), (1, .int q)] [.ref 406] _ _
      refine G_get (i := 96) (ci := 10) (k := 2) (v := .ref 407) rfl rfl (s8_406 c0) rfl ?_
      show am_G at_P at_cl at_ty _ mt_19 22 [(0, .ref 1), (1, .int q)] [.ref 407] _ _
      refine G_get (i := 129) (ci := 11) (k := 2) (v := .int 0) rfl rfl (s8_407 c0) rfl ?_
      show am_G at_P at_cl at_ty _ mt_19 25 [(0, .ref 1), (1, .int q)] [.int 0] _ _
      refine G_ps 2 (pc' := 30) (l' := [(0, .ref 1), (1, .int q)]) (st' := [.int (-103)]) rfl ?_
      refine G_ret rfl rfl rfl ?_
      exact ⟨by simp [F_srch, *], rfl, by simp, by simp⟩
    · rw [if_neg hc2]
      refine G_ps 1 (pc' := 14) (l' := [(0, .ref 1), (1, .int q)]) (st' := [.int (-102)]) rfl ?_
      refine G_ret rfl rfl rfl ?_
      exact ⟨by simp [F_srch, *], rfl, by simp, by simp⟩
theorem m_search (c0 : am_C) (q : Int32) : am_G at_P at_cl at_ty 5 mt_266 0 [(0, .ref 1826), (1, .int q)] [] (c0, s8) (fun r S c n => r = some (.int (F_srch q)) ∧ S = (c0, s8) ∧ c = 0 ∧ n = 0) := by
  refine G_ps 3 (pc' := if q < 1 then 12 else 5) (l' := [(0, .ref 1826), (1, .int q)]) (st' := []) rfl ?_
  by_cases hc1 : q < 1
  · rw [if_pos hc1]
    refine G_ps 1 (pc' := 14) (l' := [(0, .ref 1826), (1, .int q)]) (st' := [.int (-102)]) rfl ?_
    refine G_ret rfl rfl rfl ?_
    exact ⟨by simp [F_srch, *], rfl, by simp, by simp⟩
  · rw [if_neg hc1]
    refine G_ps 3 (pc' := if q ≤ 500 then 15 else 12) (l' := [(0, .ref 1826), (1, .int q)]) (st' := []) rfl ?_
    by_cases hc2 : q ≤ 500
    · rw [if_pos hc2]
      refine G_ps 1 (pc' := 16) (l' := [(0, .ref 1826), (1, .int q)]) (st' := [.ref 1826]) rfl ?_
      refine G_cv (i := 563) (j := 235) (b := 1826) (M' := mt_235) (xs := []) (rest := []) rfl rfl rfl rfl (s8_1826 c0) (Nat.le_of_ble_eq_true rfl) (Nat.le_of_ble_eq_true rfl) ?_ (fun _ _ _ _ h9 => h9)
      show am_G at_P at_cl at_ty _ mt_235 0 [(0, .ref 1826)] [] _ _
      refine G_ps 1 (pc' := 1) (l' := [(0, .ref 1826)]) (st' := [.ref 1826]) rfl ?_
      refine G_get (i := 414) (ci := 13) (k := 77) (v := .int 0) rfl rfl (s8_1826 c0) rfl ?_
      show am_G at_P at_cl at_ty _ mt_235 4 [(0, .ref 1826)] [.int 0] _ _
      refine G_ps 3 (pc' := 12) (l' := [(0, .ref 1826)]) (st' := [.int 1]) rfl ?_
      refine G_ret rfl rfl rfl ?_
      show am_G at_P at_cl at_ty _ mt_266 19 [(0, .ref 1826), (1, .int q)] [.int 1] _ _
      refine G_ps 2 (pc' := 24) (l' := [(0, .ref 1826), (1, .int q)]) (st' := [.int (-103)]) rfl ?_
      refine G_ret rfl rfl rfl ?_
      exact ⟨by simp [F_srch, *], rfl, by simp, by simp⟩
    · rw [if_neg hc2]
      refine G_ps 1 (pc' := 14) (l' := [(0, .ref 1826), (1, .int q)]) (st' := [.int (-102)]) rfl ?_
      refine G_ret rfl rfl rfl ?_
      exact ⟨by simp [F_srch, *], rfl, by simp, by simp⟩
theorem x_show (c0 : am_C) (k s : Int32) : am_G at_P at_cl at_ty 5 mt_20 0 [(0, .ref 1), (1, .int k), (2, .int s)] [] (c0, s8) (fun r S c n => r = some (.int (F_st k)) ∧ S = (c0, s8) ∧ c = 0 ∧ n = 0) := by
  refine G_ps 1 (pc' := 1) (l' := [(0, .ref 1), (1, .int k), (2, .int s)]) (st' := [.ref 1]) rfl ?_
  refine G_get (i := 60) (ci := 0) (k := 6) (v := .ref 406) rfl rfl (s8_1 c0) rfl ?_
  show am_G at_P at_cl at_ty _ mt_20 4 [(0, .ref 1), (1, .int k), (2, .int s)] [.ref 406] _ _
  refine G_get (i := 96) (ci := 10) (k := 2) (v := .ref 407) rfl rfl (s8_406 c0) rfl ?_
  show am_G at_P at_cl at_ty _ mt_20 7 [(0, .ref 1), (1, .int k), (2, .int s)] [.ref 407] _ _
  refine G_ps 2 (pc' := 9) (l' := [(3, .ref 407), (0, .ref 1), (1, .int k), (2, .int s)]) (st' := [.ref 407]) rfl ?_
  refine G_get (i := 129) (ci := 11) (k := 2) (v := .int 0) rfl rfl (s8_407 c0) rfl ?_
  show am_G at_P at_cl at_ty _ mt_20 12 [(3, .ref 407), (0, .ref 1), (1, .int k), (2, .int s)] [.int 0] _ _
  refine G_ps 2 (pc' := 17) (l' := [(3, .ref 407), (0, .ref 1), (1, .int k), (2, .int s)]) (st' := [.int (-103)]) rfl ?_
  refine G_ret rfl rfl rfl ?_
  exact ⟨by simp [F_st, *], rfl, by simp, by simp⟩
theorem m_show (c0 : am_C) (k s : Int32) : am_G at_P at_cl at_ty 5 mt_270 0 [(0, .ref 1826), (1, .int k), (2, .int s)] [] (c0, s8) (fun r S c n => r = some (.int (F_st k)) ∧ S = (c0, s8) ∧ c = 0 ∧ n = 0) := by
  refine G_ps 1 (pc' := 1) (l' := [(0, .ref 1826), (1, .int k), (2, .int s)]) (st' := [.ref 1826]) rfl ?_
  refine G_cv (i := 563) (j := 235) (b := 1826) (M' := mt_235) (xs := []) (rest := []) rfl rfl rfl rfl (s8_1826 c0) (Nat.le_of_ble_eq_true rfl) (Nat.le_of_ble_eq_true rfl) ?_ (fun _ _ _ _ h9 => h9)
  show am_G at_P at_cl at_ty _ mt_235 0 [(0, .ref 1826)] [] _ _
  refine G_ps 1 (pc' := 1) (l' := [(0, .ref 1826)]) (st' := [.ref 1826]) rfl ?_
  refine G_get (i := 414) (ci := 13) (k := 77) (v := .int 0) rfl rfl (s8_1826 c0) rfl ?_
  show am_G at_P at_cl at_ty _ mt_235 4 [(0, .ref 1826)] [.int 0] _ _
  refine G_ps 3 (pc' := 12) (l' := [(0, .ref 1826)]) (st' := [.int 1]) rfl ?_
  refine G_ret rfl rfl rfl ?_
  show am_G at_P at_cl at_ty _ mt_270 4 [(0, .ref 1826), (1, .int k), (2, .int s)] [.int 1] _ _
  refine G_ps 2 (pc' := 9) (l' := [(0, .ref 1826), (1, .int k), (2, .int s)]) (st' := [.int (-103)]) rfl ?_
  refine G_ret rfl rfl rfl ?_
  exact ⟨by simp [F_st, *], rfl, by simp, by simp⟩
theorem x_showHypothesis (c0 : am_C) (k s : Int32) : am_G at_P at_cl at_ty 5 mt_21 0 [(0, .ref 1), (1, .int k), (2, .int s)] [] (c0, s8) (fun r S c n => r = some (.int (F_st k)) ∧ S = (c0, s8) ∧ c = 0 ∧ n = 0) := by
  refine G_ps 1 (pc' := 1) (l' := [(0, .ref 1), (1, .int k), (2, .int s)]) (st' := [.ref 1]) rfl ?_
  refine G_get (i := 60) (ci := 0) (k := 6) (v := .ref 406) rfl rfl (s8_1 c0) rfl ?_
  show am_G at_P at_cl at_ty _ mt_21 4 [(0, .ref 1), (1, .int k), (2, .int s)] [.ref 406] _ _
  refine G_get (i := 96) (ci := 10) (k := 2) (v := .ref 407) rfl rfl (s8_406 c0) rfl ?_
  show am_G at_P at_cl at_ty _ mt_21 7 [(0, .ref 1), (1, .int k), (2, .int s)] [.ref 407] _ _
  refine G_get (i := 129) (ci := 11) (k := 2) (v := .int 0) rfl rfl (s8_407 c0) rfl ?_
  show am_G at_P at_cl at_ty _ mt_21 10 [(0, .ref 1), (1, .int k), (2, .int s)] [.int 0] _ _
  refine G_ps 2 (pc' := 15) (l' := [(0, .ref 1), (1, .int k), (2, .int s)]) (st' := [.int (-103)]) rfl ?_
  refine G_ret rfl rfl rfl ?_
  exact ⟨by simp [F_st, *], rfl, by simp, by simp⟩
theorem m_showHypothesis (c0 : am_C) (k s : Int32) : am_G at_P at_cl at_ty 5 mt_271 0 [(0, .ref 1826), (1, .int k), (2, .int s)] [] (c0, s8) (fun r S c n => r = some (.int (F_st k)) ∧ S = (c0, s8) ∧ c = 0 ∧ n = 0) := by
  refine G_ps 1 (pc' := 1) (l' := [(0, .ref 1826), (1, .int k), (2, .int s)]) (st' := [.ref 1826]) rfl ?_
  refine G_cv (i := 563) (j := 235) (b := 1826) (M' := mt_235) (xs := []) (rest := []) rfl rfl rfl rfl (s8_1826 c0) (Nat.le_of_ble_eq_true rfl) (Nat.le_of_ble_eq_true rfl) ?_ (fun _ _ _ _ h9 => h9)
  show am_G at_P at_cl at_ty _ mt_235 0 [(0, .ref 1826)] [] _ _
  refine G_ps 1 (pc' := 1) (l' := [(0, .ref 1826)]) (st' := [.ref 1826]) rfl ?_
  refine G_get (i := 414) (ci := 13) (k := 77) (v := .int 0) rfl rfl (s8_1826 c0) rfl ?_
  show am_G at_P at_cl at_ty _ mt_235 4 [(0, .ref 1826)] [.int 0] _ _
  refine G_ps 3 (pc' := 12) (l' := [(0, .ref 1826)]) (st' := [.int 1]) rfl ?_
  refine G_ret rfl rfl rfl ?_
  show am_G at_P at_cl at_ty _ mt_271 4 [(0, .ref 1826), (1, .int k), (2, .int s)] [.int 1] _ _
  refine G_ps 2 (pc' := 9) (l' := [(0, .ref 1826), (1, .int k), (2, .int s)]) (st' := [.int (-103)]) rfl ?_
  refine G_ret rfl rfl rfl ?_
  exact ⟨by simp [F_st, *], rfl, by simp, by simp⟩
theorem x_showLaw (c0 : am_C) (l s : Int32) : am_G at_P at_cl at_ty 5 mt_22 0 [(0, .ref 1), (1, .int l), (2, .int s)] [] (c0, s8) (fun r S c n => r = some (.int (F_unk l)) ∧ S = (c0, s8) ∧ c = 0 ∧ n = 0) := by
  refine G_ps 1 (pc' := 1) (l' := [(0, .ref 1), (1, .int l), (2, .int s)]) (st' := [.ref 1]) rfl ?_
  refine G_get (i := 19) (ci := 0) (k := 1) (v := .ref 7) rfl rfl (s8_1 c0) rfl ?_
  show am_G at_P at_cl at_ty _ mt_22 4 [(0, .ref 1), (1, .int l), (2, .int s)] [.ref 7] _ _
  refine G_ps 1 (pc' := 5) (l' := [(0, .ref 1), (1, .int l), (2, .int s)]) (st' := [.int l, .ref 7]) rfl ?_
  refine G_cv (i := 144) (j := 35) (b := 7) (M' := mt_35) (xs := [.int l]) (rest := []) rfl rfl rfl rfl (s8_7 c0) (Nat.le_of_ble_eq_true rfl) (Nat.le_of_ble_eq_true rfl) ?_ (fun _ _ _ _ h9 => h9)
  show am_G at_P at_cl at_ty _ mt_35 0 [(0, .ref 7), (1, .int l)] [] _ _
  refine G_ps 2 (pc' := if l < 0 then 25 else 4) (l' := [(0, .ref 7), (1, .int l)]) (st' := []) rfl ?_
  by_cases hc1 : l < 0
  · rw [if_pos hc1]
    refine G_ps 1 (pc' := 26) (l' := [(0, .ref 7), (1, .int l)]) (st' := [.int 0]) rfl ?_
    refine G_ret rfl rfl rfl ?_
    show am_G at_P at_cl at_ty _ mt_22 8 [(0, .ref 1), (1, .int l), (2, .int s)] [.int 0] _ _
    refine G_ps 2 (pc' := 13) (l' := [(0, .ref 1), (1, .int l), (2, .int s)]) (st' := [.int (-101)]) rfl ?_
    refine G_ret rfl rfl rfl ?_
    exact ⟨by simp [F_unk, *], rfl, by simp, by simp⟩
  · rw [if_neg hc1]
    refine G_ps 2 (pc' := 6) (l' := [(0, .ref 7), (1, .int l)]) (st' := [.ref 7, .int l]) rfl ?_
    refine G_get (i := 36) (ci := 2) (k := 6) (v := .int 0) rfl rfl (s8_7 c0) rfl ?_
    show am_G at_P at_cl at_ty _ mt_35 9 [(0, .ref 7), (1, .int l)] [.int 0, .int l] _ _
    refine G_ps 1 (pc' := if 0 ≤ l then 25 else 12) (l' := [(0, .ref 7), (1, .int l)]) (st' := []) rfl ?_
    by_cases hc2 : 0 ≤ l
    · rw [if_pos hc2]
      refine G_ps 1 (pc' := 26) (l' := [(0, .ref 7), (1, .int l)]) (st' := [.int 0]) rfl ?_
      refine G_ret rfl rfl rfl ?_
      show am_G at_P at_cl at_ty _ mt_22 8 [(0, .ref 1), (1, .int l), (2, .int s)] [.int 0] _ _
      refine G_ps 2 (pc' := 13) (l' := [(0, .ref 1), (1, .int l), (2, .int s)]) (st' := [.int (-101)]) rfl ?_
      refine G_ret rfl rfl rfl ?_
      exact ⟨by simp [F_unk, *], rfl, by simp, by simp⟩
    · rw [if_neg hc2]
      exfalso
      simp only [Int32.lt_iff_toInt_lt, Int32.le_iff_toInt_le, show (0 : Int32).toInt = 0 by decide] at hc1 hc2
      omega
theorem m_showLaw (c0 : am_C) (l s : Int32) : am_G at_P at_cl at_ty 5 mt_272 0 [(0, .ref 1826), (1, .int l), (2, .int s)] [] (c0, s8) (fun r S c n => r = some (.int (F_unk l)) ∧ S = (c0, s8) ∧ c = 0 ∧ n = 0) := by
  refine G_ps 2 (pc' := if l < 0 then 12 else 4) (l' := [(0, .ref 1826), (1, .int l), (2, .int s)]) (st' := []) rfl ?_
  by_cases hc1 : l < 0
  · rw [if_pos hc1]
    refine G_ps 1 (pc' := 14) (l' := [(0, .ref 1826), (1, .int l), (2, .int s)]) (st' := [.int (-101)]) rfl ?_
    refine G_ret rfl rfl rfl ?_
    exact ⟨by simp [F_unk, *], rfl, by simp, by simp⟩
  · rw [if_neg hc1]
    refine G_ps 2 (pc' := 6) (l' := [(0, .ref 1826), (1, .int l), (2, .int s)]) (st' := [.ref 1826, .int l]) rfl ?_
    refine G_get (i := 387) (ci := 13) (k := 19) (v := .int 0) rfl rfl (s8_1826 c0) rfl ?_
    show am_G at_P at_cl at_ty _ mt_272 9 [(0, .ref 1826), (1, .int l), (2, .int s)] [.int 0, .int l] _ _
    refine G_ps 1 (pc' := if l < 0 then 15 else 12) (l' := [(0, .ref 1826), (1, .int l), (2, .int s)]) (st' := []) rfl ?_
    by_cases hc2 : l < 0
    · rw [if_pos hc2]
      exfalso
      simp only [Int32.lt_iff_toInt_lt, Int32.le_iff_toInt_le, show (0 : Int32).toInt = 0 by decide] at hc1 hc2
      omega
    · rw [if_neg hc2]
      refine G_ps 1 (pc' := 14) (l' := [(0, .ref 1826), (1, .int l), (2, .int s)]) (st' := [.int (-101)]) rfl ?_
      refine G_ret rfl rfl rfl ?_
      exact ⟨by simp [F_unk, *], rfl, by simp, by simp⟩
