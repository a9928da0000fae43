/-! the law on scripts of at most six ints -/
theorem s8_1 (c0 : am_C) : am_nth (c0, s8) 1 = some (9, some (.inr (0, [.ref 2, .ref 7, .ref 361, .ref 363, .ref 366, .ref 372, .ref 406, .ref 1824, .int 0]))) := s8_at (by decide +kernel) c0
theorem s8_2 (c0 : am_C) : am_nth (c0, s8) 2 = some (6, some (.inr (1, [.ref 3, .int 0, .ref 4, .ref 5, .ref 6, .int 0]))) := s8_at (by decide +kernel) c0
theorem s8_3 (c0 : am_C) : am_nth (c0, s8) 3 = some (1000, some (.inl (.int, 1000, .int 0, []))) := s8_at (by decide +kernel) c0
theorem s8_4 (c0 : am_C) : am_nth (c0, s8) 4 = some (1001, some (.inl (.int, 1001, .int 0, []))) := s8_at (by decide +kernel) c0
theorem s8_5 (c0 : am_C) : am_nth (c0, s8) 5 = some (1001, some (.inl (.int, 1001, .int 0, []))) := s8_at (by decide +kernel) c0
theorem s8_6 (c0 : am_C) : am_nth (c0, s8) 6 = some (1001, some (.inl (.long, 1001, .long 0, []))) := s8_at (by decide +kernel) c0
theorem s8_7 (c0 : am_C) : am_nth (c0, s8) 7 = some (7, some (.inr (2, [.ref 8, .ref 13, .ref 18, .ref 23, .ref 24, .int 0, .int 0]))) := s8_at (by decide +kernel) c0
theorem s8_8 (c0 : am_C) : am_nth (c0, s8) 8 = some (5, some (.inr (3, [.ref 9, .ref 10, .ref 11, .ref 12, .int 0]))) := s8_at (by decide +kernel) c0
theorem s8_13 (c0 : am_C) : am_nth (c0, s8) 13 = some (5, some (.inr (3, [.ref 14, .ref 15, .ref 16, .ref 17, .int 0]))) := s8_at (by decide +kernel) c0
theorem s8_18 (c0 : am_C) : am_nth (c0, s8) 18 = some (5, some (.inr (3, [.ref 19, .ref 20, .ref 21, .ref 22, .int 0]))) := s8_at (by decide +kernel) c0
theorem s8_361 (c0 : am_C) : am_nth (c0, s8) 361 = some (10, some (.inr (6, [.ref 2, .ref 7, .ref 362, .int 0, .int 0, .int 0, .int 0, .ref 25, .ref 26, .int 0]))) := s8_at (by decide +kernel) c0
theorem s8_363 (c0 : am_C) : am_nth (c0, s8) 363 = some (4, some (.inr (7, [.ref 7, .ref 364, .ref 365, .int 0]))) := s8_at (by decide +kernel) c0
theorem s8_372 (c0 : am_C) : am_nth (c0, s8) 372 = some (11, some (.inr (9, [.ref 7, .ref 366, .ref 373, .ref 374, .ref 375, .ref 376, .ref 377, .ref 378, .ref 380, .int 0, .int (-1)]))) := s8_at (by decide +kernel) c0
theorem s8_406 (c0 : am_C) : am_nth (c0, s8) 406 = some (19, some (.inr (10, [.ref 7, .ref 366, .ref 407, .ref 878, .ref 1349, .ref 1350, .ref 1350, .ref 1350, .long 0, .long 0, .ref 409, .ref 1352, .ref 1354, .int 0, .int 0, .long 0, .int 0, .int 0, .int 0]))) := s8_at (by decide +kernel) c0
theorem s8_407 (c0 : am_C) : am_nth (c0, s8) 407 = some (9, some (.inr (11, [.ref 408, .ref 409, .int 0, .int 0, .int 0, .int 0, .int 0, .long 0, .long 0]))) := s8_at (by decide +kernel) c0
theorem s8_1824 (c0 : am_C) : am_nth (c0, s8) 1824 = some (2, some (.inr (5, [.ref 1825, .int 0]))) := s8_at (by decide +kernel) c0
theorem s8_1826 (c0 : am_C) : am_nth (c0, s8) 1826 = some (115, some (.inr (13, [.int 0, .int 0, .ref 1827, .int 0, .ref 1828, .ref 1829, .ref 1830, .ref 1831, .int 0, .ref 1832, .ref 1833, .ref 1834, .ref 1835, .int 0, .ref 1836, .ref 1837, .ref 1838, .ref 1839, .ref 1840, .int 0, .ref 1841, .ref 1842, .ref 1843, .ref 1844, .ref 1845, .ref 1846, .ref 1847, .ref 1848, .int 0, .int 0, .int 0, .int 0, .int 0, .long 0, .int 0, .int 0, .int 0, .ref 1849, .ref 1850, .int 0, .int 0, .int 0, .ref 1851, .int 0, .int 0, .ref 1852, .ref 1853, .int 0, .ref 1854, .ref 1855, .int 0, .int 0, .ref 1856, .int 0, .ref 1857, .int 0, .int 0, .int 0, .ref 1858, .int 0, .ref 1859, .ref 1860, .ref 1861, .ref 1862, .ref 1863, .ref 1864, .ref 1865, .int (-1), .ref 1866, .ref 1867, .ref 1868, .ref 1869, .int 0, .ref 1870, .int (-1), .int 0, .int 0, .int 0, .ref 1871, .ref 1872, .ref 1873, .ref 1874, .ref 1875, .ref 1876, .ref 1877, .ref 1878, .ref 1879, .ref 1880, .ref 1881, .int 0, .ref 1882, .ref 1883, .ref 1884, .int 0, .ref 1885, .int 0, .ref 1886, .int (-1), .ref 1887, .int 0, .ref 1888, .int 0, .ref 1889, .ref 1890, .ref 1891, .ref 1892, .ref 1893, .ref 1894, .ref 1895, .ref 1896, .ref 1897, .ref 1898, .int 0, .int 0, .int 0]))) := s8_at (by decide +kernel) c0
theorem s8_1848 (c0 : am_C) : am_nth (c0, s8) 1848 = some (1000, some (.inl (.byte, 1000, .int 0, []))) := s8_at (by decide +kernel) c0
theorem s8_1899 (c0 : am_C) : am_nth (c0, s8) 1899 = some (1, some (.inl (.long, 1, .long 0, []))) := s8_at (by decide +kernel) c0
def lw_c0 (L : Nat) (xs : Nat → Int32) : am_C := (L, some (.inl (.int, L, .int 0, [(0, .int (xs 0)), (1, .int (xs 1)), (2, .int (xs 2)), (3, .int (xs 3)), (4, .int (xs 4)), (5, .int (xs 5))])))
theorem am_ro_add {M : am_M} {S : am_S} : ∀ (n : Nat) {k pc : Nat} {l : am_L} {st : List Value} {pc1 : Nat} {l1 : am_L} {st1 : List Value} {r : Nat × am_L × List Value}, am_ro M S n pc l st = some (pc1, l1, st1) → am_ro M S k pc1 l1 st1 = some r → am_ro M S (k + n) pc l st = some r := by
  intro n
  induction n with
  | zero =>
    intro k pc l st pc1 l1 st1 r h1 h2
    cases h1
    exact h2
  | succ n ih =>
    intro k pc l st pc1 l1 st1 r h1 h2
    show am_ro M S ((k + n) + 1) pc l st = some r
    unfold am_ro at h1 ⊢
    cases hins : am_find pc M.2.2.2.2.2.1 with
    | none => rw [hins] at h1; cases h1
    | some q =>
      obtain ⟨ins, len⟩ := q
      rw [hins] at h1
      dsimp only at h1 ⊢
      cases hp : am_pure M.2.2.1 ins len pc l st with
      | some q2 =>
        rw [hp] at h1
        exact ih h1 h2
      | none =>
        rw [hp] at h1
        dsimp only at h1 ⊢
        split at h1
        · split at h1
          · split at h1
            · exact ih h1 h2
            · cases h1
          · cases h1
        · split at h1
          · exact ih h1 h2
          · cases h1
        · split at h1
          · exact ih h1 h2
          · cases h1
        · cases h1
theorem am_ro_get {M : am_M} {S : am_S} {n pc i ci k a z : Nat} {l : am_L} {st fs : List Value} {v : Value} {r : Nat × am_L × List Value} (hf : am_find pc M.2.2.2.2.2.1 = some (.getfield i, 3)) (hi : am_find i M.2.2.2.2.1.1 = some (ci, k)) (hS : am_nth S a = some (z, some (.inr (ci, fs)))) (hv : fs[k]? = some v) (kk : am_ro M S n (pc + 3) l (v :: st) = some r) : am_ro M S (n + 1) pc l (.ref a :: st) = some r := by
  have h1 : am_getf S a ci k = some v := by
    unfold am_getf
    rw [hS]
    show (if ci = ci then _ else _) = _
    rw [if_pos rfl, hv]
  unfold am_ro
  rw [hf]
  show (match am_find i M.2.2.2.2.1.1 with
    | some (ci, k) => (match am_getf S a ci k with
      | some v => am_ro M S n (pc + 3) l (v :: st)
      | none => none)
    | none => none) = some r
  rw [hi]
  dsimp only
  rw [h1]
  exact kk
/-- end(n) of a fresh object, n other than 0: to its throw -/
theorem ro_end (c0 : am_C) (y : Int32) (h : y ≠ 0) : ∃ n, am_ro mt_2 (c0, s8) n 0 (lv_args 0 [.ref 1, .int y]) [] = some (15, [(0, .ref 1), (1, .int y)], []) := by
  by_cases hn : y < 0
  · refine ⟨2, ?_⟩
    have h1 : am_ro mt_2 (c0, s8) 2 0 (lv_args 0 [.ref 1, .int y]) [] = some (if y < 0 then 15 else 4, [(0, .ref 1), (1, .int y)], []) := rfl
    rw [h1, if_pos hn]
  · have h1 : am_ro mt_2 (c0, s8) 2 0 (lv_args 0 [.ref 1, .int y]) [] = some (if y < 0 then 15 else 4, [(0, .ref 1), (1, .int y)], []) := rfl
    rw [if_neg hn] at h1
    have h2 : am_ro mt_2 (c0, s8) 2 4 [(0, .ref 1), (1, .int y)] [] = some (6, [(0, .ref 1), (1, .int y)], [.ref 1, .int y]) := rfl
    have h3 : am_ro mt_2 (c0, s8) 1 12 [(0, .ref 1), (1, .int y)] [.int 0, .int y] = some (if y ≤ 0 then 25 else 15, [(0, .ref 1), (1, .int y)], []) := rfl
    rw [if_neg (fun q => h (Int32.le_antisymm q (Int32.not_lt.mp hn)))] at h3
    exact ⟨_, am_ro_add 2 h1 (am_ro_add 2 h2 (am_ro_get (i := 10) (ci := 0) (k := 0) (v := .ref 2) rfl rfl (s8_1 c0) rfl (am_ro_get (i := 73) (ci := 1) (k := 1) (v := .int 0) rfl rfl (s8_2 c0) rfl h3)))⟩
theorem s8_add (c0 : am_C) (x : am_C) {k : Nat} {y : am_C} (hk : k < 1899) (h : am_nth (c0, s8) (k + 1) = some y) : am_nth (am_add (c0, s8) x) (k + 1) = some y := by
  rw [am_nth_add, if_neg (by show ¬ k = 1899; omega)]
  exact h
section LWG
variable {p : Program} {l0 : Launch} {e : Env} {R : Room} {s : State} {m : MethodId} {args : Array Value} {below : List Frame} {meth : Method} {c : Code} {H : Heap} {locs : List Loc} {cells slots : Nat} {Q : State → Prop}
variable {ls : Array Slot} {D : va_G} {b : Nat} {Hb : Heap}
def lw_K (p : Program) (l0 : Launch) (e : Env) (R : Room) (s : State) (m : MethodId) (args : Array Value) (below : List Frame) (meth : Method) (c : Code) (Hb : Heap) (cells slots : Nat) (Q : State → Prop) : Prop := ∀ (H1 : Heap) (locs1 : List Loc) (ls1 : Array Slot) (pc1 cells1 slots1 : Nat), cells1 ≤ cells + 1 → slots1 ≤ slots + 6 → decode code pc1 = .ok (.ireturn, 1) → (∀ q ∈ locs1, Hb.size ≤ q.base) → W p l0 e R s m args below meth c H1 locs1 cells1 slots1 Q (F0 m pc1 ls1 [.int 1])
set_option maxRecDepth 100000 in
set_option maxHeartbeats 2000000 in
theorem lw_feed (xs : Nat → Int32) (hIn : am_In at_Ts D at_cl at_AO at_NL mt_law p s m args meth c) (hRf : 40 ≤ R.frames) (hRl : 2400 ≤ R.locals) (hcs : cells + 1 ≤ R.cells) (hss : slots + 6 ≤ R.slots) (hR : am_R D at_cl b Hb (lw_c0 6 xs, s8) s H) (hL : ∀ q ∈ locs, Hb.size ≤ q.base) (hl : lv_has ls 7 (am_cl (am_ad b Hb.size) lw_L)) (kk : lw_K p l0 e R s m args below meth c Hb cells slots Q) : W p l0 e R s m args below meth c H locs cells slots Q (F0 m 148 ls (List.map (am_cv (am_ad b Hb.size)) [])) := by
  have hIn0 := hIn
  obtain ⟨hx, hb, hml, hnm, hown, hts, hK⟩ := hIn
  refine am_ro_ok at_Fix.1 bd_law hIn0 hR 27 (pc' := 180) (l' := lw_L) (st' := [.ref 1899, .int (xs 5), .int (xs 4), .int (xs 3), .int (xs 2), .int (xs 1), .ref 1]) rfl hl (fun ls1 hl1 => ?_)
  obtain ⟨f, r, T, c', n', h1, rfl, hsame, h1899, rfl, rfl⟩ := (lc_0a (lw_c0 6 xs, s8) (xs 0) (xs 1) (xs 2) (xs 3) (xs 4) (xs 5) (s8_1 _) (s8_2 _) (s8_3 _) (s8_1899 _))
  refine am_runSW (M := mt_lfeed) (as := [.ref 1, .int (xs 1), .int (xs 2), .int (xs 3), .int (xs 4), .int (xs 5), .ref 1899]) (rest := []) (d := 11) (hh := [(0, 16, 19, 13)]) (S1 := T) at_Fix.2.2.1 hx hb (hml.trans hl1.1.symm) hts hown hK (by omega) (by omega) (c1 := 0) (n1 := 0) (by omega) (by omega) hR hL (at_at 1143 rfl rfl) (at_at 1144 rfl rfl) (at_at 0 rfl rfl) (hts _ (at_at 1145 rfl rfl)) (by decide) (by decide) rfl (by decide) (by decide +kernel) (am_metW (by decide) (Nat.le_of_ble_eq_true rfl) (am_sound at_Fix f 11 mt_lfeed bd_lfeed 0 _ [] _ _ T 0 0 h1)) (fun H1 locs1 hR1 hL1 => ?_)
  have e0 : ∀ k, k ∉ [2, 3, 1899] → am_nth T k = am_nth (lw_c0 6 xs, s8) k := hsame.2.2
  exact lw_says (lc := lw_L) (st := [.int 0]) (d := 12) (lc_0b T (xs 0) (xs 1) (xs 2) (xs 3) (xs 4) (xs 5) ((e0 0 (by decide)).trans rfl) ((e0 1826 (by decide)).trans (s8_1826 _)) ((e0 1848 (by decide)).trans (s8_1848 _)) h1899) hIn0 (by omega) (by omega) (by omega) (by omega) hR1 hL1 hl1 (fun H2 locs2 ls2 pc2 hd2 hL2 => kk H2 locs2 ls2 pc2 _ _ (by omega) (by omega) hd2 hL2)
set_option maxRecDepth 100000 in
set_option maxHeartbeats 2000000 in
theorem lw_end (xs : Nat → Int32) (hst : ∀ e : Env, l0.admits e → e.platform.stackTraces = false) (hTX : am_TX Hb "EquationProofs" 89 "the tape has not so many bytes" s) (hIn : am_In at_Ts D at_cl at_AO at_NL mt_law p s m args meth c) (hRf : 40 ≤ R.frames) (hRl : 2400 ≤ R.locals) (hcs : cells + 1 ≤ R.cells) (hss : slots + 6 ≤ R.slots) (hR : am_R D at_cl b Hb (lw_c0 6 xs, s8) s H) (hL : ∀ q ∈ locs, Hb.size ≤ q.base) (hl : lv_has ls 7 (am_cl (am_ad b Hb.size) lw_L)) (kk : lw_K p l0 e R s m args below meth c Hb cells slots Q) : W p l0 e R s m args below meth c H locs cells slots Q (F0 m 252 ls (List.map (am_cv (am_ad b Hb.size)) [])) := by
  have hIn0 := hIn
  obtain ⟨hx, hb, hml, hnm, hown, hts, hK⟩ := hIn
  refine am_ro_ok at_Fix.1 bd_law hIn0 hR 6 (pc' := 259) (l' := lw_L) (st' := [.int (xs 1), .ref 1]) rfl hl (fun ls1 hl1 => ?_)
  by_cases hy : xs 1 = 0
  · obtain ⟨f, r, T, c', n', h1, rfl, hsame, rfl, rfl⟩ := (lc_1a (lw_c0 6 xs, s8)  (s8_1 _) (s8_2 _))
    have e0 : ∀ k, k ∉ [2] → am_nth T k = am_nth (lw_c0 6 xs, s8) k := hsame.2.2
    rw [hy]
    refine am_runSW (M := mt_lend) (as := [.ref 1, .int 0]) (rest := []) (d := 11) (hh := [(0, 5, 8, 19)]) (S1 := T) at_Fix.2.2.1 hx hb (hml.trans hl1.1.symm) hts hown hK (by omega) (by omega) (c1 := 0) (n1 := 0) (by omega) (by omega) hR hL (at_at 1222 rfl rfl) (at_at 1223 rfl rfl) (at_at 0 rfl rfl) (hts _ (at_at 1224 rfl rfl)) (by decide) (by decide) rfl (by decide) (by decide +kernel) (am_metW (by decide) (Nat.le_of_ble_eq_true rfl) (am_sound at_Fix f 11 mt_lend bd_lend 0 _ [] _ _ T 0 0 h1)) (fun H1 locs1 hR1 hL1 => ?_)
    have g0 : am_nth T 0 = some (6, some (.inl (.int, 6, .int 0, [(0, .int (xs 0)), (1, .int 0), (2, .int (xs 2)), (3, .int (xs 3)), (4, .int (xs 4)), (5, .int (xs 5))]))) := by
      rw [e0 0 (by decide)]
      show some (lw_c0 6 xs) = _
      unfold lw_c0
      rw [hy]
    exact lw_says (lc := lw_L) (st := [.int 0]) (d := 12) (lc_1b0 T (xs 0) (xs 2) (xs 3) (xs 4) (xs 5) g0 ((e0 1826 (by decide)).trans (s8_1826 _))) hIn0 (by omega) (by omega) (by omega) (by omega) hR1 hL1 hl1 (fun H2 locs2 ls2 pc2 hd2 hL2 => kk H2 locs2 ls2 pc2 _ _ (by omega) (by omega) hd2 hL2)
  · obtain ⟨n, hro⟩ := ro_end (lw_c0 6 xs) (xs 1) hy
    have hM2 : mt_2 ∈ at_P := List.mem_of_getElem? (i := 2) rfl
    have hMT := am_metT (D := D) (b := b) (Hb := Hb) (l0 := l0) (d := 10) (tx := "the tape has not so many bytes") (X := "java/lang/IllegalArgumentException") (names := ["java/lang/RuntimeException", "java/lang/Exception"]) (inw := 87) (il := 89) (ic := 91) at_Fix hM2 (Nat.le_of_ble_eq_true rfl) hst hro (by decide +kernel) (by decide +kernel) (by decide +kernel) (by decide +kernel) (by decide +kernel) (at_at 1230 rfl rfl) (at_at 1231 rfl rfl) (at_at 20 rfl rfl) (by decide +kernel) (by decide +kernel) oa_iae (by decide) (by decide)
    have hMet := am_metWT (M := mt_lend) (as := [.ref 1, .int (xs 1)]) (xs := [.int (xs 1)]) (rest := []) (b0 := 1) (n := 2) (pcI := 2) (l' := [(0, .ref 1), (1, .int (xs 1))]) (i := 15) (t0 := 0) (t1 := 5) (hp := 8) (ct := 19) (f := 3) (r := some (.int 1)) at_Fix bd_lend (by decide) (Nat.le_of_ble_eq_true rfl) rfl (by decide) hM2 (at_at 1226 rfl rfl) rfl (s8_1 _) hMT (by decide) (by decide) (by decide) (at_at 1225 rfl rfl) (by decide +kernel) rfl
    refine am_runSWT (M := mt_lend) (as := [.ref 1, .int (xs 1)]) (rest := []) (d := 11) (hh := [(0, 5, 8, 19)]) at_Fix.2.2.1 hx hb (hml.trans hl1.1.symm) hts hown hK (by omega) (by omega) (c1 := 1) (n1 := 6) (by omega) (by omega) hR hL (at_at 1222 rfl rfl) (at_at 1223 rfl rfl) (at_at 0 rfl rfl) (hts _ (at_at 1224 rfl rfl)) (by decide) (by decide) rfl (by decide) (by decide +kernel) hTX hMet (fun H1 locs1 hR1 hL1 => ?_)
    exact lw_says (lc := lw_L) (st := [.int 1]) (d := 12) (lc_1b1 _ (xs 0) (xs 1) (xs 2) (xs 3) (xs 4) (xs 5) hy rfl (s8_add _ _ (by decide) (s8_1826 _))) hIn0 (by omega) (by omega) (by omega) (by omega) hR1 hL1 hl1 (fun H2 locs2 ls2 pc2 hd2 hL2 => kk H2 locs2 ls2 pc2 _ _ (by omega) (by omega) hd2 hL2)
set_option maxRecDepth 100000 in
set_option maxHeartbeats 4000000 in
/-- one call on fresh objects: from the loop's head -/
theorem lw_six (xs : Nat → Int32) (hst : ∀ e : Env, l0.admits e → e.platform.stackTraces = false) (hTX : am_TX Hb "EquationProofs" 89 "the tape has not so many bytes" s) (hIn : am_In at_Ts D at_cl at_AO at_NL mt_law p s m args meth c) (hRf : 40 ≤ R.frames) (hRl : 2400 ≤ R.locals) (hcs : cells + 1 ≤ R.cells) (hss : slots + 6 ≤ R.slots) (hR : am_R D at_cl b Hb (lw_c0 6 xs, s8) s H) (hL : ∀ q ∈ locs, Hb.size ≤ q.base) (hl : lv_has ls 7 (am_cl (am_ad b Hb.size) lw_L)) (kk : lw_K p l0 e R s m args below meth c Hb cells slots Q) : W p l0 e R s m args below meth c H locs cells slots Q (F0 m 23 ls (List.map (am_cv (am_ad b Hb.size)) [])) := by
  refine am_ro_ok at_Fix.1 bd_law hIn hR 11 (pc' := 40) (l' := lw_L) (st' := [.int (xs 0 &&& 31)]) rfl hl (fun ls1 hl1 => ?_)
  have fin : ∀ {st : List Value}, am_G at_P at_cl at_ty 12 mt_law 40 lw_L st (lw_c0 6 xs, s8) (fun r _ c n => r = some (.int 1) ∧ c = 0 ∧ n = 0) → W p l0 e R s m args below meth c H locs cells slots Q (F0 m 40 ls1 (st.map (am_cv (am_ad b Hb.size)))) := fun h => lw_says h hIn (by omega) (by omega) (by omega) (by omega) hR hL hl1 (fun H2 locs2 ls2 pc2 hd2 hL2 => kk H2 locs2 ls2 pc2 _ _ (by omega) (by omega) hd2 hL2)
  by_cases hout : (xs 0 &&& 31).toInt < 0 ∨ 22 < (xs 0 &&& 31).toInt
  · exact fin (G_swo (t := 997) rfl hout rfl (lc_d (lw_c0 6 xs, s8) (xs 0) (xs 1) (xs 2) (xs 3) (xs 4) (xs 5) rfl))
  · obtain ⟨k9, hk9, e9⟩ := am_sm 22 (by decide) hout
    rw [e9]
    rcases (show k9 = 0 ∨ k9 = 1 ∨ k9 = 2 ∨ k9 = 3 ∨ k9 = 4 ∨ k9 = 5 ∨ k9 = 6 ∨ k9 = 7 ∨ k9 = 8 ∨ k9 = 9 ∨ k9 = 10 ∨ k9 = 11 ∨ k9 = 12 ∨ k9 = 13 ∨ k9 = 14 ∨ k9 = 15 ∨ k9 = 16 ∨ k9 = 17 ∨ k9 = 18 ∨ k9 = 19 ∨ k9 = 20 ∨ k9 = 21 ∨ k9 = 22 by omega) with rfl | rfl | rfl | rfl | rfl | rfl | rfl | rfl | rfl | rfl | rfl | rfl | rfl | rfl | rfl | rfl | rfl | rfl | rfl | rfl | rfl | rfl | rfl
    · refine am_ro_ok at_Fix.1 bd_law hIn hR 1 (pc' := 148) (l' := lw_L) (st' := []) rfl hl1 (fun ls2 hl2 => ?_)
      exact lw_feed xs hIn hRf hRl hcs hss hR hL hl2 kk
    · refine am_ro_ok at_Fix.1 bd_law hIn hR 1 (pc' := 252) (l' := lw_L) (st' := []) rfl hl1 (fun ls2 hl2 => ?_)
      exact lw_end xs hst hTX hIn hRf hRl hcs hss hR hL hl2 kk
    · exact fin (G_ps 1 (pc' := 288) (l' := lw_L) (st' := []) rfl (lc_2 (lw_c0 6 xs, s8) (xs 0) (xs 1) (xs 2) (xs 3) (xs 4) (xs 5) rfl (s8_1 _) (s8_2 _) (s8_4 _) (s8_5 _) (s8_6 _) (s8_7 _) (s8_8 _) (s8_13 _) (s8_18 _) (s8_361 _) (s8_406 _) (s8_407 _) (s8_1826 _)))
    · exact fin (G_ps 1 (pc' := 301) (l' := lw_L) (st' := []) rfl (lc_3 (lw_c0 6 xs, s8) (xs 0) (xs 1) (xs 2) (xs 3) (xs 4) (xs 5) rfl (s8_1 _) (s8_361 _) (s8_1826 _)))
    · exact fin (G_ps 1 (pc' := 314) (l' := lw_L) (st' := []) rfl (lc_4 (lw_c0 6 xs, s8) (xs 0) (xs 1) (xs 2) (xs 3) (xs 4) (xs 5) rfl (s8_1 _) (s8_7 _) (s8_8 _) (s8_13 _) (s8_18 _) (s8_406 _) (s8_407 _) (s8_1826 _)))
    · exact fin (G_ps 1 (pc' := 339) (l' := lw_L) (st' := []) rfl (lc_5 (lw_c0 6 xs, s8) (xs 0) (xs 1) (xs 2) (xs 3) (xs 4) (xs 5) rfl (s8_1 _) (s8_7 _) (s8_1826 _)))
    · exact fin (G_ps 1 (pc' := 376) (l' := lw_L) (st' := []) rfl (lc_6 (lw_c0 6 xs, s8) (xs 0) (xs 1) (xs 2) (xs 3) (xs 4) (xs 5) rfl (s8_1 _) (s8_2 _) (s8_4 _) (s8_5 _) (s8_6 _) (s8_361 _) (s8_1824 _) (s8_1826 _)))
    · exact fin (G_ps 1 (pc' := 401) (l' := lw_L) (st' := []) rfl (lc_7 (lw_c0 6 xs, s8) (xs 0) (xs 1) (xs 2) (xs 3) (xs 4) (xs 5) rfl (s8_1 _) (s8_1826 _)))
    · exact fin (G_ps 1 (pc' := 414) (l' := lw_L) (st' := []) rfl (lc_8 (lw_c0 6 xs, s8) (xs 0) (xs 1) (xs 2) (xs 3) (xs 4) (xs 5) rfl (s8_1 _) (s8_7 _) (s8_1826 _)))
    · exact fin (G_ps 1 (pc' := 479) (l' := lw_L) (st' := []) rfl (lc_9 (lw_c0 6 xs, s8) (xs 0) (xs 1) (xs 2) (xs 3) (xs 4) (xs 5) rfl (s8_1 _) (s8_372 _) (s8_1826 _)))
    · exact fin (G_ps 1 (pc' := 504) (l' := lw_L) (st' := []) rfl (lc_10 (lw_c0 6 xs, s8) (xs 0) (xs 1) (xs 2) (xs 3) (xs 4) (xs 5) rfl (s8_1 _) (s8_7 _) (s8_1826 _)))
    · exact fin (G_ps 1 (pc' := 557) (l' := lw_L) (st' := []) rfl (lc_11 (lw_c0 6 xs, s8) (xs 0) (xs 1) (xs 2) (xs 3) (xs 4) (xs 5) rfl (s8_1 _) (s8_406 _) (s8_407 _) (s8_1826 _)))
    · exact fin (G_ps 1 (pc' := 594) (l' := lw_L) (st' := []) rfl (lc_12 (lw_c0 6 xs, s8) (xs 0) (xs 1) (xs 2) (xs 3) (xs 4) (xs 5) rfl (s8_1 _) (s8_7 _) (s8_1826 _)))
    · exact fin (G_ps 1 (pc' := 671) (l' := lw_L) (st' := []) rfl (lc_13 (lw_c0 6 xs, s8) (xs 0) (xs 1) (xs 2) (xs 3) (xs 4) (xs 5) rfl (s8_1 _) (s8_406 _) (s8_407 _) (s8_1826 _)))
    · exact fin (G_ps 1 (pc' := 748) (l' := lw_L) (st' := []) rfl (lc_14 (lw_c0 6 xs, s8) (xs 0) (xs 1) (xs 2) (xs 3) (xs 4) (xs 5) rfl (s8_1 _) (s8_406 _) (s8_407 _) (s8_1826 _)))
    · exact fin (G_ps 1 (pc' := 773) (l' := lw_L) (st' := []) rfl (lc_15 (lw_c0 6 xs, s8) (xs 0) (xs 1) (xs 2) (xs 3) (xs 4) (xs 5) rfl (s8_1 _) (s8_406 _) (s8_407 _) (s8_1826 _)))
    · exact fin (G_ps 1 (pc' := 810) (l' := lw_L) (st' := []) rfl (lc_16 (lw_c0 6 xs, s8) (xs 0) (xs 1) (xs 2) (xs 3) (xs 4) (xs 5) rfl (s8_1 _) (s8_406 _) (s8_407 _) (s8_1826 _)))
    · exact fin (G_ps 1 (pc' := 823) (l' := lw_L) (st' := []) rfl (lc_17 (lw_c0 6 xs, s8) (xs 0) (xs 1) (xs 2) (xs 3) (xs 4) (xs 5) rfl (s8_1 _) (s8_406 _) (s8_407 _) (s8_1826 _)))
    · exact fin (G_ps 1 (pc' := 836) (l' := lw_L) (st' := []) rfl (lc_18 (lw_c0 6 xs, s8) (xs 0) (xs 1) (xs 2) (xs 3) (xs 4) (xs 5) rfl (s8_1 _) (s8_406 _) (s8_407 _) (s8_1826 _)))
    · exact fin (G_ps 1 (pc' := 861) (l' := lw_L) (st' := []) rfl (lc_19 (lw_c0 6 xs, s8) (xs 0) (xs 1) (xs 2) (xs 3) (xs 4) (xs 5) rfl (s8_1 _) (s8_406 _) (s8_407 _) (s8_1826 _)))
    · exact fin (G_ps 1 (pc' := 898) (l' := lw_L) (st' := []) rfl (lc_20 (lw_c0 6 xs, s8) (xs 0) (xs 1) (xs 2) (xs 3) (xs 4) (xs 5) rfl (s8_1 _) (s8_406 _) (s8_407 _) (s8_1826 _)))
    · exact fin (G_ps 1 (pc' := 935) (l' := lw_L) (st' := []) rfl (lc_21 (lw_c0 6 xs, s8) (xs 0) (xs 1) (xs 2) (xs 3) (xs 4) (xs 5) rfl (s8_1 _) (s8_7 _) (s8_1826 _)))
    · exact fin (G_ps 1 (pc' := 972) (l' := lw_L) (st' := []) rfl (lc_22 (lw_c0 6 xs, s8) (xs 0) (xs 1) (xs 2) (xs 3) (xs 4) (xs 5) rfl (s8_1 _) (s8_363 _) (s8_1826 _)))
set_option maxRecDepth 100000 in
theorem lw_less (L : Nat) (xs : Nat → Int32) (hlt : L < 6) (hIn : am_In at_Ts D at_cl at_AO at_NL mt_law p s m args meth c) (hR : am_R D at_cl b Hb (lw_c0 L xs, s8) s H) (hL : ∀ q ∈ locs, Hb.size ≤ q.base) (hl : lv_has ls 7 (am_cl (am_ad b Hb.size) lw_L)) (kk : lw_K p l0 e R s m args below meth c Hb cells slots Q) : W p l0 e R s m args below meth c H locs cells slots Q (F0 m 23 ls (List.map (am_cv (am_ad b Hb.size)) [])) := by
  refine am_ro_ok at_Fix.1 bd_law hIn hR 7 (pc' := 1004) (l' := lw_L) (st' := [.int 1]) ?_ hl (fun ls1 hl1 => kk H locs ls1 1004 cells slots (by omega) (by omega) (by decide +kernel) hL)
  rcases (show L = 0 ∨ L = 1 ∨ L = 2 ∨ L = 3 ∨ L = 4 ∨ L = 5 by omega) with rfl | rfl | rfl | rfl | rfl | rfl <;> rfl
end LWG
