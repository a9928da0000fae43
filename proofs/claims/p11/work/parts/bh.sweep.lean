/-! the reference: one row of the search -/
/-- a proof is under way, between rows -/
def SI (H : hp) (n : Nat) : Prop := PWc H ∧ OS H H n ∧ (0 ≤ (H.1 1826 89) ∧ (H.1 1826 89) ≤ 60) ∧ (0 ≤ (H.1 1826 74) ∧ (H.1 1826 74) < 16) ∧ (H.1 1826 97) = -1
/-- .. or done -/
def PF2 (H : hp) : Prop := PWc H ∧ (0 ≤ (H.1 1871) 0 ∧ (H.1 1871) 0 < 40) ∧ (0 ≤ (H.1 1826 89) ∧ (H.1 1826 89) ≤ 60) ∧ (0 ≤ (H.1 1826 74) ∧ (H.1 1826 74) < 16) ∧ (H.1 1826 97) = -1 ∧ ∃ n : Nat, (H.1 1826 77) = (n : Int) ∧ (n = 0 ∨ OS H H n)
theorem sP_fr2 {H K : hp} {ob ar : List Nat} (f : fr ob ar H K) (h1 : ∀ c ∈ [1829, 1830, 1831, 1833, 1834, 1835, 1836, 1837, 1838, 1839, 1840, 1842, 1843, 1845, 1846], c ∉ ar) (h2 : ∀ j ∈ [1, 3, 8, 13, 19], j ∉ ob) : sP H K := sP_fr (sP_rf H) f ⟨h1 _ (by decide), h1 _ (by decide)⟩ ⟨h2 _ (by decide), h2 _ (by decide)⟩
theorem SI_k {H K : hp} {n : Nat} {ob ar : List Nat} (h : SI H n) (f : fr ob ar H K) (h1 : ∀ c ∈ [1829, 1830, 1831, 1833, 1834, 1835, 1836, 1837, 1838, 1839, 1840, 1842, 1843, 1845, 1846], c ∉ ar) (h2 : ∀ j ∈ [1, 3, 8, 13, 19], j ∉ ob) (h3 : 89 ∉ ob ∧ 74 ∉ ob) (hO : OS H K n) (hl : (K.1 1826 97) = -1) : SI K n := ⟨PWc_fr h.1 f h1 h2, OS_P (sP_fr2 f h1 h2) hO, by rw [f.2.2 89 h3.1]; exact h.2.2.1, by rw [f.2.2 74 h3.2]; exact h.2.2.2.1, hl⟩
theorem SI_v {H K : hp} {n : Nat} {ob ar : List Nat} (h : SI H n) (f : fr ob ar H K) (h1 : ∀ c ∈ [1829, 1830, 1831, 1833, 1834, 1835, 1836, 1837, 1838, 1839, 1840, 1842, 1843, 1845, 1846], c ∉ ar) (h2 : ∀ j ∈ [1, 3, 8, 13, 19], j ∉ ob) (h3 : 74 ∉ ob ∧ 97 ∉ ob) (hO : OS H K n) (hv : 0 ≤ (K.1 1826 89) ∧ (K.1 1826 89) ≤ 60) : SI K n := ⟨PWc_fr h.1 f h1 h2, OS_P (sP_fr2 f h1 h2) hO, hv, by rw [f.2.2 74 h3.1]; exact h.2.2.2.1, by rw [f.2.2 97 h3.2]; exact h.2.2.2.2⟩
theorem PF_v {H K : hp} {n n2 : Nat} {ob ar : List Nat} (h : SI H n) (f : fr ob ar H K) (h1 : ∀ c ∈ [1829, 1830, 1831, 1833, 1834, 1835, 1836, 1837, 1838, 1839, 1840, 1842, 1843, 1845, 1846], c ∉ ar) (h2 : ∀ j ∈ [1, 3, 8, 13, 19], j ∉ ob) (h3 : 74 ∉ ob ∧ 97 ∉ ob) (ho : 0 ≤ (K.1 1871) 0 ∧ (K.1 1871) 0 < 40) (hv : 0 ≤ (K.1 1826 89) ∧ (K.1 1826 89) ≤ 60) (hg : (K.1 1826 77) = (n2 : Int)) (hO : n2 = 0 ∨ OS H K n2) : PF2 K := by
  refine ⟨PWc_fr h.1 f h1 h2, ho, hv, by rw [f.2.2 74 h3.1]; exact h.2.2.2.1, by rw [f.2.2 97 h3.2]; exact h.2.2.2.2, n2, hg, ?_⟩
  rcases hO with q | q
  · exact Or.inl q
  · exact Or.inr (OS_P (sP_fr2 f h1 h2) q)
theorem SI_PF {H : hp} {n : Nat} (h : SI H n) : PF2 H := by
  obtain ⟨g, a1, a2, -⟩ := h.2.1.2.1 0 (by have := h.2.1.1; omega)
  exact ⟨h.1, by omega, h.2.2.1, h.2.2.2.1, h.2.2.2.2, n, h.2.1.1.1, Or.inr h.2.1⟩

/-! sweep -/
set_option maxRecDepth 100000 in
theorem m_sweep0_cut {zC : Nat → Option zsh} {d : Nat} (hd : 7 ≤ d) {H : hp} {n : Nat} (hS : SI H n) : ∀ w : Nat, (∀ (H1 : hp) (s : Nat), (fr [50, 51, 53, 76, 93, 97] [1847, 1852, 1853, 1855, 1856, 1873, 1874, 1878, 1884, 1886] H H1) → (SI H1 n) → (s ≤ 2) → 10000 - 1000 * s < w → hG (zs zC) d mt_268 2 [(0, .inr (.inr 1826)), (1, .inl 0), (2, .inl 0), (3, .inl (s : Int))] [] H1 (fun r9 H2 => fr [50, 51, 53, 76, 93, 97] [1847, 1852, 1853, 1855, 1856, 1873, 1874, 1878, 1884, 1886] H H2 ∧ SI H2 n ∧ (r9 = some (.inl 0) ∨ r9 = some (.inl 1)))) ∧ (∀ (H1 : hp) (s : Nat) (N : Nat) (i : Nat) (o : Nat), (fr [50, 51, 53, 76, 93, 97] [1847, 1852, 1853, 1855, 1856, 1873, 1874, 1878, 1884, 1886] H H1) → (SI H1 n) → (s < 2) → ((H1.1 1871) 0 = (o : Int)) → ((H1.1 1874) (2 * o + s) = (N : Int) ∧ N ≤ 60) → (i ≤ N) → 10000 - 1000 * s - 10 - i < w → hG (zs zC) d mt_268 27 [(0, .inr (.inr 1826)), (1, .inl 0), (2, .inl 0), (3, .inl (s : Int)), (4, .inl (N : Int)), (5, .inl (i : Int))] [] H1 (fun r9 H2 => fr [50, 51, 53, 76, 93, 97] [1847, 1852, 1853, 1855, 1856, 1873, 1874, 1878, 1884, 1886] H H2 ∧ SI H2 n ∧ (r9 = some (.inl 0) ∨ r9 = some (.inl 1)))) := by
  intro w
  induction w with
  | zero => exact ⟨fun _ _ _ _ _ h => absurd h (Nat.not_lt_zero _), fun _ _ _ _ _ _ _ _ _ _ _ h => absurd h (Nat.not_lt_zero _)⟩
  | succ w ih =>
    refine ⟨?_, ?_⟩
    · intro H1 s hf hS1 hs hw
      refine h_rng (fun hrg1 => ?_)
      refine h_run 2 (pc' := 4) (l' := [(0, .inr (.inr 1826)), (1, .inl 0), (2, .inl 0), (3, .inl (s : Int))]) (st' := [.inl 2, .inl (s : Int)]) rfl ?_
      refine h_ige (off := 94) (t := 98) rfl rfl (by omega) (by decide) (fun c2 => ?_) (fun c2 => ?_)
      · refine h_run 1 (pc' := 99) (l' := [(0, .inr (.inr 1826)), (1, .inl 0), (2, .inl 0), (3, .inl (s : Int))]) (st' := [.inl 0]) rfl ?_
        refine h_retz (x := 0) rfl rfl (by decide) ?_
        exact ⟨hf, hS1, Or.inl rfl⟩
      · obtain ⟨o, oa, ol, ou, og⟩ := hS1.2.1.2.1 0 (by have := hS1.2.1.1; omega)
        obtain ⟨N, e1, e2, e3⟩ := og.1 s (by omega)
        refine h_run 6 (pc' := 17) (l' := [(0, .inr (.inr 1826)), (1, .inl 0), (2, .inl 0), (3, .inl (s : Int))]) (st' := [.inl 0, .inr (.inr 1871), .inl 2, .inr (.inr 1874)]) rfl ?_
        refine h_ild (c := 1871) (j := 0) (i := 0) rfl rfl (by decide) rfl (by omega) ?_
        have g3 : -2147483648 ≤ (H1.1 1871 0) ∧ (H1.1 1871 0) ≤ 2147483647 := hrg1.2 1871 0 13 .int rfl (by omega)
        have e4 : (H1.1 1871 0) = (H.1 1871 0) := congrFun (hf.2.1 1871 (by decide) (by decide)) 0
        refine h_run 0 (pc' := 18) (l' := [(0, .inr (.inr 1826)), (1, .inl 0), (2, .inl 0), (3, .inl (s : Int))]) (st' := [.inl (H1.1 1871 0), .inl 2, .inr (.inr 1874)]) rfl ?_
        rw [show (H1.1 1871 0) = (o : Int) by omega]
        refine h_run 3 (pc' := 21) (l' := [(0, .inr (.inr 1826)), (1, .inl 0), (2, .inl 0), (3, .inl (s : Int))]) (st' := [.inl ((2 * (o : Int)) + (s : Int)), .inr (.inr 1874)]) rfl ?_
        refine h_ild (c := 1874) (j := ((2 * o) + s)) (i := ((2 * (o : Int)) + (s : Int))) rfl rfl (by decide) (by omega) (by omega) ?_
        have g5 : -2147483648 ≤ (H1.1 1874 ((2 * o) + s)) ∧ (H1.1 1874 ((2 * o) + s)) ≤ 2147483647 := hrg1.2 1874 ((2 * o) + s) 80 .int rfl (by omega)
        refine h_run 0 (pc' := 22) (l' := [(0, .inr (.inr 1826)), (1, .inl 0), (2, .inl 0), (3, .inl (s : Int))]) (st' := [.inl (H1.1 1874 ((2 * o) + s))]) rfl ?_
        rw [show (H1.1 1874 ((2 * o) + s)) = (N : Int) by omega]
        refine h_run 3 (pc' := 27) (l' := [(0, .inr (.inr 1826)), (1, .inl 0), (2, .inl 0), (3, .inl (s : Int)), (4, .inl (N : Int)), (5, .inl 0)]) (st' := []) rfl ?_
        exact ih.2 _ s N 0 (o) hf hS1 (by omega) oa ⟨e1, e2⟩ (by omega) (by omega : 10000 - 1000 * s - 10 - 0 < w)
    · intro H1 s N i o hf hS1 hs hoo9 hsz hi hw
      refine h_rng (fun hrg6 => ?_)
      refine h_run 2 (pc' := 31) (l' := [(0, .inr (.inr 1826)), (1, .inl 0), (2, .inl 0), (3, .inl (s : Int)), (4, .inl (N : Int)), (5, .inl (i : Int))]) (st' := [.inl (N : Int), .inl (i : Int)]) rfl ?_
      refine h_ige (off := 61) (t := 92) rfl rfl (by omega) (by omega) (fun c7 => ?_) (fun c7 => ?_)
      · refine h_run 2 (pc' := 2) (l' := [(0, .inr (.inr 1826)), (1, .inl 0), (2, .inl 0), (3, .inl ((s : Int) + 1)), (4, .inl (N : Int)), (5, .inl (i : Int))]) (st' := []) rfl ?_
        refine h_loc [0, 1, 2, 3] rfl ?_
        rw [show ((s : Int) + 1) = (((s + 1) : Nat) : Int) by omega]
        exact ih.1 _ (s + 1) hf hS1 (by omega) (by omega : 10000 - 1000 * (s + 1) < w)
      · refine h_run 1 (pc' := 35) (l' := [(0, .inr (.inr 1826)), (1, .inl 0), (2, .inl 0), (3, .inl (s : Int)), (4, .inl (N : Int)), (5, .inl (i : Int))]) (st' := [.inl 0]) rfl ?_
        refine h_zne (off := 14) (t := 49) rfl rfl (by decide) (fun c => absurd c (by decide)) (fun _ => ?_)
        refine h_run 4 (pc' := 43) (l' := [(0, .inr (.inr 1826)), (1, .inl 0), (2, .inl 0), (3, .inl (s : Int)), (4, .inl (N : Int)), (5, .inl (i : Int))]) (st' := [.inl (i : Int), .inl 0, .inl (s : Int), .inr (.inr 1826)]) rfl ?_
        refine h_cv (i := 566) (j := 238) (b := 1826) (M' := mt_238) (xs := [.inl (i : Int), .inl 0, .inl (s : Int)]) (rest := []) rfl rfl rfl rfl rfl rfl (Nat.le_of_ble_eq_true rfl) (Nat.le_of_ble_eq_true rfl) (by omega) (m_unfoldAt (n := n) (o := o) (q := 0) (by omega) hS1.1 hS1.2.1 hS1.2.2.2.2 hoo9 (by omega) (by omega) (Or.inr (by omega)) ) ?_
        rintro _ H8 ⟨hfH8, hlH8, hOH8, rH8, rfl, bH8, zH8⟩
        refine h_rng (fun hrg9 => ?_)
        have hf10 : fr [50, 51, 53, 76, 93, 97] [1847, 1852, 1853, 1855, 1856, 1873, 1874, 1878, 1884, 1886] H H8 := fr_t hf hfH8 (by decide) (by decide)
        have hSH8 : SI H8 n := SI_k hS1 hfH8 (by decide) (by decide) (by decide) hOH8 hlH8
        have hoH8 : (H8.1 1871) 0 = (o : Int) := (congrFun (hfH8.2.1 1871 (by decide) (by decide)) 0).trans hoo9
        refine h_run 0 (pc' := 46) (l' := [(0, .inr (.inr 1826)), (1, .inl 0), (2, .inl 0), (3, .inl (s : Int)), (4, .inl (N : Int)), (5, .inl (i : Int))]) (st' := [.inl rH8]) rfl ?_
        refine h_run 3 (pc' := 81) (l' := [(0, .inr (.inr 1826)), (1, .inl 0), (2, .inl 0), (3, .inl (s : Int)), (4, .inl (N : Int)), (5, .inl (i : Int)), (6, .inl rH8)]) (st' := [.inl rH8]) rfl ?_
        refine h_zlt (off := 5) (t := 86) rfl rfl (by omega) (fun c11 => ?_) (fun c11 => ?_)
        · refine h_run 2 (pc' := 27) (l' := [(0, .inr (.inr 1826)), (1, .inl 0), (2, .inl 0), (3, .inl (s : Int)), (4, .inl (N : Int)), (5, .inl ((i : Int) + 1)), (6, .inl rH8)]) (st' := []) rfl ?_
          refine h_loc [0, 1, 2, 3, 4, 5] rfl ?_
          rw [show ((i : Int) + 1) = (((i + 1) : Nat) : Int) by omega]
          exact ih.2 _ s N (i + 1) (o) hf10 hSH8 (by omega) hoH8 (by rcases zH8 with q | q; { omega }; { rw [q]; exact hsz }) (by omega) (by omega : 10000 - 1000 * s - 10 - (i + 1) < w)
        · refine h_run 1 (pc' := 85) (l' := [(0, .inr (.inr 1826)), (1, .inl 0), (2, .inl 0), (3, .inl (s : Int)), (4, .inl (N : Int)), (5, .inl (i : Int)), (6, .inl rH8)]) (st' := [.inl 1]) rfl ?_
          refine h_retz (x := 1) rfl rfl (by decide) ?_
          exact ⟨hf10, hSH8, Or.inr rfl⟩
set_option maxRecDepth 100000 in
theorem m_sweep0 {zC : Nat → Option zsh} {d : Nat} (hd : 7 ≤ d) {H : hp} {n : Nat} (hS : SI H n) : hG (zs zC) d mt_268 0 (zargs 0 [.inr (.inr 1826), .inl 0, .inl 0]) [] H (fun r9 H2 => fr [50, 51, 53, 76, 93, 97] [1847, 1852, 1853, 1855, 1856, 1873, 1874, 1878, 1884, 1886] H H2 ∧ SI H2 n ∧ (r9 = some (.inl 0) ∨ r9 = some (.inl 1))) := by
  refine h_rng (fun hrg0 => ?_)
  refine h_run 0 (pc' := 0) (l' := [(0, .inr (.inr 1826)), (1, .inl 0), (2, .inl 0)]) (st' := []) rfl ?_
  refine h_run 2 (pc' := 2) (l' := [(0, .inr (.inr 1826)), (1, .inl 0), (2, .inl 0), (3, .inl 0)]) (st' := []) rfl ?_
  exact (m_sweep0_cut hd hS _).1 _ 0 (fr_rf _ _ _) hS (by omega) (Nat.lt_succ_self _)

/-! sweep -/
set_option maxRecDepth 100000 in
theorem m_sweep1_cut {zC : Nat → Option zsh} {d : Nat} (hd : 7 ≤ d) {H : hp} {n : Nat} {kx : Int} (hS : SI H n) (hkx : -2147483648 ≤ kx ∧ kx ≤ 2147483647) : ∀ w : Nat, (∀ (H1 : hp) (s : Nat), (fr [50, 51, 53, 76, 93, 97] [1847, 1852, 1853, 1855, 1856, 1873, 1874, 1878, 1884, 1886] H H1) → (SI H1 n) → (s ≤ 2) → 10000 - 1000 * s < w → hG (zs zC) d mt_268 2 [(0, .inr (.inr 1826)), (1, .inl 1), (2, .inl kx), (3, .inl (s : Int))] [] H1 (fun r9 H2 => fr [50, 51, 53, 76, 93, 97] [1847, 1852, 1853, 1855, 1856, 1873, 1874, 1878, 1884, 1886] H H2 ∧ SI H2 n ∧ (r9 = some (.inl 0) ∨ r9 = some (.inl 1)))) ∧ (∀ (H1 : hp) (s : Nat) (N : Nat) (i : Nat) (o : Nat), (fr [50, 51, 53, 76, 93, 97] [1847, 1852, 1853, 1855, 1856, 1873, 1874, 1878, 1884, 1886] H H1) → (SI H1 n) → (s < 2) → ((H1.1 1871) 0 = (o : Int)) → ((H1.1 1874) (2 * o + s) = (N : Int) ∧ N ≤ 60) → (i ≤ N) → 10000 - 1000 * s - 10 - i < w → hG (zs zC) d mt_268 27 [(0, .inr (.inr 1826)), (1, .inl 1), (2, .inl kx), (3, .inl (s : Int)), (4, .inl (N : Int)), (5, .inl (i : Int))] [] H1 (fun r9 H2 => fr [50, 51, 53, 76, 93, 97] [1847, 1852, 1853, 1855, 1856, 1873, 1874, 1878, 1884, 1886] H H2 ∧ SI H2 n ∧ (r9 = some (.inl 0) ∨ r9 = some (.inl 1)))) := by
  intro w
  induction w with
  | zero => exact ⟨fun _ _ _ _ _ h => absurd h (Nat.not_lt_zero _), fun _ _ _ _ _ _ _ _ _ _ _ h => absurd h (Nat.not_lt_zero _)⟩
  | succ w ih =>
    refine ⟨?_, ?_⟩
    · intro H1 s hf hS1 hs hw
      refine h_rng (fun hrg1 => ?_)
      refine h_run 2 (pc' := 4) (l' := [(0, .inr (.inr 1826)), (1, .inl 1), (2, .inl kx), (3, .inl (s : Int))]) (st' := [.inl 2, .inl (s : Int)]) rfl ?_
      refine h_ige (off := 94) (t := 98) rfl rfl (by omega) (by decide) (fun c2 => ?_) (fun c2 => ?_)
      · refine h_run 1 (pc' := 99) (l' := [(0, .inr (.inr 1826)), (1, .inl 1), (2, .inl kx), (3, .inl (s : Int))]) (st' := [.inl 0]) rfl ?_
        refine h_retz (x := 0) rfl rfl (by decide) ?_
        exact ⟨hf, hS1, Or.inl rfl⟩
      · obtain ⟨o, oa, ol, ou, og⟩ := hS1.2.1.2.1 0 (by have := hS1.2.1.1; omega)
        obtain ⟨N, e1, e2, e3⟩ := og.1 s (by omega)
        refine h_run 6 (pc' := 17) (l' := [(0, .inr (.inr 1826)), (1, .inl 1), (2, .inl kx), (3, .inl (s : Int))]) (st' := [.inl 0, .inr (.inr 1871), .inl 2, .inr (.inr 1874)]) rfl ?_
        refine h_ild (c := 1871) (j := 0) (i := 0) rfl rfl (by decide) rfl (by omega) ?_
        have g3 : -2147483648 ≤ (H1.1 1871 0) ∧ (H1.1 1871 0) ≤ 2147483647 := hrg1.2 1871 0 13 .int rfl (by omega)
        have e4 : (H1.1 1871 0) = (H.1 1871 0) := congrFun (hf.2.1 1871 (by decide) (by decide)) 0
        refine h_run 0 (pc' := 18) (l' := [(0, .inr (.inr 1826)), (1, .inl 1), (2, .inl kx), (3, .inl (s : Int))]) (st' := [.inl (H1.1 1871 0), .inl 2, .inr (.inr 1874)]) rfl ?_
        rw [show (H1.1 1871 0) = (o : Int) by omega]
        refine h_run 3 (pc' := 21) (l' := [(0, .inr (.inr 1826)), (1, .inl 1), (2, .inl kx), (3, .inl (s : Int))]) (st' := [.inl ((2 * (o : Int)) + (s : Int)), .inr (.inr 1874)]) rfl ?_
        refine h_ild (c := 1874) (j := ((2 * o) + s)) (i := ((2 * (o : Int)) + (s : Int))) rfl rfl (by decide) (by omega) (by omega) ?_
        have g5 : -2147483648 ≤ (H1.1 1874 ((2 * o) + s)) ∧ (H1.1 1874 ((2 * o) + s)) ≤ 2147483647 := hrg1.2 1874 ((2 * o) + s) 80 .int rfl (by omega)
        refine h_run 0 (pc' := 22) (l' := [(0, .inr (.inr 1826)), (1, .inl 1), (2, .inl kx), (3, .inl (s : Int))]) (st' := [.inl (H1.1 1874 ((2 * o) + s))]) rfl ?_
        rw [show (H1.1 1874 ((2 * o) + s)) = (N : Int) by omega]
        refine h_run 3 (pc' := 27) (l' := [(0, .inr (.inr 1826)), (1, .inl 1), (2, .inl kx), (3, .inl (s : Int)), (4, .inl (N : Int)), (5, .inl 0)]) (st' := []) rfl ?_
        exact ih.2 _ s N 0 (o) hf hS1 (by omega) oa ⟨e1, e2⟩ (by omega) (by omega : 10000 - 1000 * s - 10 - 0 < w)
    · intro H1 s N i o hf hS1 hs hoo9 hsz hi hw
      refine h_rng (fun hrg6 => ?_)
      refine h_run 2 (pc' := 31) (l' := [(0, .inr (.inr 1826)), (1, .inl 1), (2, .inl kx), (3, .inl (s : Int)), (4, .inl (N : Int)), (5, .inl (i : Int))]) (st' := [.inl (N : Int), .inl (i : Int)]) rfl ?_
      refine h_ige (off := 61) (t := 92) rfl rfl (by omega) (by omega) (fun c7 => ?_) (fun c7 => ?_)
      · refine h_run 2 (pc' := 2) (l' := [(0, .inr (.inr 1826)), (1, .inl 1), (2, .inl kx), (3, .inl ((s : Int) + 1)), (4, .inl (N : Int)), (5, .inl (i : Int))]) (st' := []) rfl ?_
        refine h_loc [0, 1, 2, 3] rfl ?_
        rw [show ((s : Int) + 1) = (((s + 1) : Nat) : Int) by omega]
        exact ih.1 _ (s + 1) hf hS1 (by omega) (by omega : 10000 - 1000 * (s + 1) < w)
      · refine h_run 1 (pc' := 35) (l' := [(0, .inr (.inr 1826)), (1, .inl 1), (2, .inl kx), (3, .inl (s : Int)), (4, .inl (N : Int)), (5, .inl (i : Int))]) (st' := [.inl 1]) rfl ?_
        refine h_zne (off := 14) (t := 49) rfl rfl (by decide) (fun _ => ?_) (fun c => absurd c (by decide))
        refine h_run 2 (pc' := 51) (l' := [(0, .inr (.inr 1826)), (1, .inl 1), (2, .inl kx), (3, .inl (s : Int)), (4, .inl (N : Int)), (5, .inl (i : Int))]) (st' := [.inl 1, .inl 1]) rfl ?_
        refine h_ine (off := 16) (t := 67) rfl rfl (by decide) (by decide) (fun c => absurd c (by decide)) (fun _ => ?_)
        refine h_run 6 (pc' := 61) (l' := [(0, .inr (.inr 1826)), (1, .inl 1), (2, .inl kx), (3, .inl (s : Int)), (4, .inl (N : Int)), (5, .inl (i : Int))]) (st' := [.inl (i : Int), .inl 0, .inl (s : Int), .inl 0, .inl kx, .inr (.inr 1826)]) rfl ?_
        refine h_cv (i := 601) (j := 246) (b := 1826) (M' := mt_246) (xs := [.inl (i : Int), .inl 0, .inl (s : Int), .inl 0, .inl kx]) (rest := []) rfl rfl rfl rfl rfl rfl (Nat.le_of_ble_eq_true rfl) (Nat.le_of_ble_eq_true rfl) (by omega) (m_hypothesisAt (n := n) (o := o) (q := 0) (by omega) hS1.1 hS1.2.1 hS1.2.2.2.2 hoo9 (by omega) (by omega) (Or.inr (by omega)) (by omega) (by omega)) ?_
        rintro _ H8 ⟨hfH8, hlH8, hOH8, rH8, rfl, bH8, zH8⟩
        refine h_rng (fun hrg9 => ?_)
        have hf10 : fr [50, 51, 53, 76, 93, 97] [1847, 1852, 1853, 1855, 1856, 1873, 1874, 1878, 1884, 1886] H H8 := fr_t hf hfH8 (by decide) (by decide)
        have hSH8 : SI H8 n := SI_k hS1 hfH8 (by decide) (by decide) (by decide) hOH8 hlH8
        have hoH8 : (H8.1 1871) 0 = (o : Int) := (congrFun (hfH8.2.1 1871 (by decide) (by decide)) 0).trans hoo9
        refine h_run 0 (pc' := 64) (l' := [(0, .inr (.inr 1826)), (1, .inl 1), (2, .inl kx), (3, .inl (s : Int)), (4, .inl (N : Int)), (5, .inl (i : Int))]) (st' := [.inl rH8]) rfl ?_
        refine h_run 3 (pc' := 81) (l' := [(0, .inr (.inr 1826)), (1, .inl 1), (2, .inl kx), (3, .inl (s : Int)), (4, .inl (N : Int)), (5, .inl (i : Int)), (6, .inl rH8)]) (st' := [.inl rH8]) rfl ?_
        refine h_zlt (off := 5) (t := 86) rfl rfl (by omega) (fun c11 => ?_) (fun c11 => ?_)
        · refine h_run 2 (pc' := 27) (l' := [(0, .inr (.inr 1826)), (1, .inl 1), (2, .inl kx), (3, .inl (s : Int)), (4, .inl (N : Int)), (5, .inl ((i : Int) + 1)), (6, .inl rH8)]) (st' := []) rfl ?_
          refine h_loc [0, 1, 2, 3, 4, 5] rfl ?_
          rw [show ((i : Int) + 1) = (((i + 1) : Nat) : Int) by omega]
          exact ih.2 _ s N (i + 1) (o) hf10 hSH8 (by omega) hoH8 (by rcases zH8 with q | q; { omega }; { rw [q]; exact hsz }) (by omega) (by omega : 10000 - 1000 * s - 10 - (i + 1) < w)
        · refine h_run 1 (pc' := 85) (l' := [(0, .inr (.inr 1826)), (1, .inl 1), (2, .inl kx), (3, .inl (s : Int)), (4, .inl (N : Int)), (5, .inl (i : Int)), (6, .inl rH8)]) (st' := [.inl 1]) rfl ?_
          refine h_retz (x := 1) rfl rfl (by decide) ?_
          exact ⟨hf10, hSH8, Or.inr rfl⟩
set_option maxRecDepth 100000 in
theorem m_sweep1 {zC : Nat → Option zsh} {d : Nat} (hd : 7 ≤ d) {H : hp} {n : Nat} {kx : Int} (hS : SI H n) (hkx : -2147483648 ≤ kx ∧ kx ≤ 2147483647) : hG (zs zC) d mt_268 0 (zargs 0 [.inr (.inr 1826), .inl 1, .inl kx]) [] H (fun r9 H2 => fr [50, 51, 53, 76, 93, 97] [1847, 1852, 1853, 1855, 1856, 1873, 1874, 1878, 1884, 1886] H H2 ∧ SI H2 n ∧ (r9 = some (.inl 0) ∨ r9 = some (.inl 1))) := by
  refine h_rng (fun hrg0 => ?_)
  refine h_run 0 (pc' := 0) (l' := [(0, .inr (.inr 1826)), (1, .inl 1), (2, .inl kx)]) (st' := []) rfl ?_
  refine h_run 2 (pc' := 2) (l' := [(0, .inr (.inr 1826)), (1, .inl 1), (2, .inl kx), (3, .inl 0)]) (st' := []) rfl ?_
  exact (m_sweep1_cut hd hS hkx _).1 _ 0 (fr_rf _ _ _) hS (by omega) (Nat.lt_succ_self _)

/-! sweep -/
set_option maxRecDepth 100000 in
theorem m_sweep2_cut {zC : Nat → Option zsh} {d : Nat} (hd : 7 ≤ d) {H : hp} {n k : Nat} (hS : SI H n) (hkl : (k : Int) < (H.1 1826 19)) : ∀ w : Nat, (∀ (H1 : hp) (s : Nat), (fr [50, 51, 53, 76, 93, 97] [1847, 1852, 1853, 1855, 1856, 1873, 1874, 1878, 1884, 1886] H H1) → (SI H1 n) → (s ≤ 2) → 10000 - 1000 * s < w → hG (zs zC) d mt_268 2 [(0, .inr (.inr 1826)), (1, .inl 2), (2, .inl (k : Int)), (3, .inl (s : Int))] [] H1 (fun r9 H2 => fr [50, 51, 53, 76, 93, 97] [1847, 1852, 1853, 1855, 1856, 1873, 1874, 1878, 1884, 1886] H H2 ∧ SI H2 n ∧ (r9 = some (.inl 0) ∨ r9 = some (.inl 1)))) ∧ (∀ (H1 : hp) (s : Nat) (N : Nat) (i : Nat) (o : Nat), (fr [50, 51, 53, 76, 93, 97] [1847, 1852, 1853, 1855, 1856, 1873, 1874, 1878, 1884, 1886] H H1) → (SI H1 n) → (s < 2) → ((H1.1 1871) 0 = (o : Int)) → ((H1.1 1874) (2 * o + s) = (N : Int) ∧ N ≤ 60) → (i ≤ N) → 10000 - 1000 * s - 10 - i < w → hG (zs zC) d mt_268 27 [(0, .inr (.inr 1826)), (1, .inl 2), (2, .inl (k : Int)), (3, .inl (s : Int)), (4, .inl (N : Int)), (5, .inl (i : Int))] [] H1 (fun r9 H2 => fr [50, 51, 53, 76, 93, 97] [1847, 1852, 1853, 1855, 1856, 1873, 1874, 1878, 1884, 1886] H H2 ∧ SI H2 n ∧ (r9 = some (.inl 0) ∨ r9 = some (.inl 1)))) := by
  intro w
  induction w with
  | zero => exact ⟨fun _ _ _ _ _ h => absurd h (Nat.not_lt_zero _), fun _ _ _ _ _ _ _ _ _ _ _ h => absurd h (Nat.not_lt_zero _)⟩
  | succ w ih =>
    refine ⟨?_, ?_⟩
    · intro H1 s hf hS1 hs hw
      refine h_rng (fun hrg1 => ?_)
      refine h_run 2 (pc' := 4) (l' := [(0, .inr (.inr 1826)), (1, .inl 2), (2, .inl (k : Int)), (3, .inl (s : Int))]) (st' := [.inl 2, .inl (s : Int)]) rfl ?_
      refine h_ige (off := 94) (t := 98) rfl rfl (by omega) (by decide) (fun c2 => ?_) (fun c2 => ?_)
      · refine h_run 1 (pc' := 99) (l' := [(0, .inr (.inr 1826)), (1, .inl 2), (2, .inl (k : Int)), (3, .inl (s : Int))]) (st' := [.inl 0]) rfl ?_
        refine h_retz (x := 0) rfl rfl (by decide) ?_
        exact ⟨hf, hS1, Or.inl rfl⟩
      · obtain ⟨o, oa, ol, ou, og⟩ := hS1.2.1.2.1 0 (by have := hS1.2.1.1; omega)
        obtain ⟨N, e1, e2, e3⟩ := og.1 s (by omega)
        refine h_run 6 (pc' := 17) (l' := [(0, .inr (.inr 1826)), (1, .inl 2), (2, .inl (k : Int)), (3, .inl (s : Int))]) (st' := [.inl 0, .inr (.inr 1871), .inl 2, .inr (.inr 1874)]) rfl ?_
        refine h_ild (c := 1871) (j := 0) (i := 0) rfl rfl (by decide) rfl (by omega) ?_
        have g3 : -2147483648 ≤ (H1.1 1871 0) ∧ (H1.1 1871 0) ≤ 2147483647 := hrg1.2 1871 0 13 .int rfl (by omega)
        have e4 : (H1.1 1871 0) = (H.1 1871 0) := congrFun (hf.2.1 1871 (by decide) (by decide)) 0
        refine h_run 0 (pc' := 18) (l' := [(0, .inr (.inr 1826)), (1, .inl 2), (2, .inl (k : Int)), (3, .inl (s : Int))]) (st' := [.inl (H1.1 1871 0), .inl 2, .inr (.inr 1874)]) rfl ?_
        rw [show (H1.1 1871 0) = (o : Int) by omega]
        refine h_run 3 (pc' := 21) (l' := [(0, .inr (.inr 1826)), (1, .inl 2), (2, .inl (k : Int)), (3, .inl (s : Int))]) (st' := [.inl ((2 * (o : Int)) + (s : Int)), .inr (.inr 1874)]) rfl ?_
        refine h_ild (c := 1874) (j := ((2 * o) + s)) (i := ((2 * (o : Int)) + (s : Int))) rfl rfl (by decide) (by omega) (by omega) ?_
        have g5 : -2147483648 ≤ (H1.1 1874 ((2 * o) + s)) ∧ (H1.1 1874 ((2 * o) + s)) ≤ 2147483647 := hrg1.2 1874 ((2 * o) + s) 80 .int rfl (by omega)
        refine h_run 0 (pc' := 22) (l' := [(0, .inr (.inr 1826)), (1, .inl 2), (2, .inl (k : Int)), (3, .inl (s : Int))]) (st' := [.inl (H1.1 1874 ((2 * o) + s))]) rfl ?_
        rw [show (H1.1 1874 ((2 * o) + s)) = (N : Int) by omega]
        refine h_run 3 (pc' := 27) (l' := [(0, .inr (.inr 1826)), (1, .inl 2), (2, .inl (k : Int)), (3, .inl (s : Int)), (4, .inl (N : Int)), (5, .inl 0)]) (st' := []) rfl ?_
        exact ih.2 _ s N 0 (o) hf hS1 (by omega) oa ⟨e1, e2⟩ (by omega) (by omega : 10000 - 1000 * s - 10 - 0 < w)
    · intro H1 s N i o hf hS1 hs hoo9 hsz hi hw
      refine h_rng (fun hrg6 => ?_)
      have flaws : (H1.1 1826 19) = (H.1 1826 19) := hf.2.2 19 (by decide)
      refine h_run 2 (pc' := 31) (l' := [(0, .inr (.inr 1826)), (1, .inl 2), (2, .inl (k : Int)), (3, .inl (s : Int)), (4, .inl (N : Int)), (5, .inl (i : Int))]) (st' := [.inl (N : Int), .inl (i : Int)]) rfl ?_
      refine h_ige (off := 61) (t := 92) rfl rfl (by omega) (by omega) (fun c7 => ?_) (fun c7 => ?_)
      · refine h_run 2 (pc' := 2) (l' := [(0, .inr (.inr 1826)), (1, .inl 2), (2, .inl (k : Int)), (3, .inl ((s : Int) + 1)), (4, .inl (N : Int)), (5, .inl (i : Int))]) (st' := []) rfl ?_
        refine h_loc [0, 1, 2, 3] rfl ?_
        rw [show ((s : Int) + 1) = (((s + 1) : Nat) : Int) by omega]
        exact ih.1 _ (s + 1) hf hS1 (by omega) (by omega : 10000 - 1000 * (s + 1) < w)
      · refine h_run 1 (pc' := 35) (l' := [(0, .inr (.inr 1826)), (1, .inl 2), (2, .inl (k : Int)), (3, .inl (s : Int)), (4, .inl (N : Int)), (5, .inl (i : Int))]) (st' := [.inl 2]) rfl ?_
        refine h_zne (off := 14) (t := 49) rfl rfl (by decide) (fun _ => ?_) (fun c => absurd c (by decide))
        refine h_run 2 (pc' := 51) (l' := [(0, .inr (.inr 1826)), (1, .inl 2), (2, .inl (k : Int)), (3, .inl (s : Int)), (4, .inl (N : Int)), (5, .inl (i : Int))]) (st' := [.inl 1, .inl 2]) rfl ?_
        refine h_ine (off := 16) (t := 67) rfl rfl (by decide) (by decide) (fun _ => ?_) (fun c => absurd c (by decide))
        refine h_run 6 (pc' := 74) (l' := [(0, .inr (.inr 1826)), (1, .inl 2), (2, .inl (k : Int)), (3, .inl (s : Int)), (4, .inl (N : Int)), (5, .inl (i : Int))]) (st' := [.inl (i : Int), .inl 0, .inl (s : Int), .inl 0, .inl (k : Int), .inr (.inr 1826)]) rfl ?_
        refine h_cv (i := 589) (j := 244) (b := 1826) (M' := mt_244) (xs := [.inl (i : Int), .inl 0, .inl (s : Int), .inl 0, .inl (k : Int)]) (rest := []) rfl rfl rfl rfl rfl rfl (Nat.le_of_ble_eq_true rfl) (Nat.le_of_ble_eq_true rfl) (by omega) (m_lawAt (n := n) (o := o) (q := 0) (by omega) hS1.1 hS1.2.1 hS1.2.2.2.2 hoo9 (by omega) (by omega) (Or.inr (by omega)) (by omega) (by omega)) ?_
        rintro _ H8 ⟨hfH8, hlH8, hOH8, rH8, rfl, bH8, zH8⟩
        refine h_rng (fun hrg9 => ?_)
        have hf10 : fr [50, 51, 53, 76, 93, 97] [1847, 1852, 1853, 1855, 1856, 1873, 1874, 1878, 1884, 1886] H H8 := fr_t hf hfH8 (by decide) (by decide)
        have hSH8 : SI H8 n := SI_k hS1 hfH8 (by decide) (by decide) (by decide) hOH8 hlH8
        have hoH8 : (H8.1 1871) 0 = (o : Int) := (congrFun (hfH8.2.1 1871 (by decide) (by decide)) 0).trans hoo9
        refine h_run 0 (pc' := 77) (l' := [(0, .inr (.inr 1826)), (1, .inl 2), (2, .inl (k : Int)), (3, .inl (s : Int)), (4, .inl (N : Int)), (5, .inl (i : Int))]) (st' := [.inl rH8]) rfl ?_
        refine h_run 2 (pc' := 81) (l' := [(0, .inr (.inr 1826)), (1, .inl 2), (2, .inl (k : Int)), (3, .inl (s : Int)), (4, .inl (N : Int)), (5, .inl (i : Int)), (6, .inl rH8)]) (st' := [.inl rH8]) rfl ?_
        refine h_zlt (off := 5) (t := 86) rfl rfl (by omega) (fun c11 => ?_) (fun c11 => ?_)
        · refine h_run 2 (pc' := 27) (l' := [(0, .inr (.inr 1826)), (1, .inl 2), (2, .inl (k : Int)), (3, .inl (s : Int)), (4, .inl (N : Int)), (5, .inl ((i : Int) + 1)), (6, .inl rH8)]) (st' := []) rfl ?_
          refine h_loc [0, 1, 2, 3, 4, 5] rfl ?_
          rw [show ((i : Int) + 1) = (((i + 1) : Nat) : Int) by omega]
          exact ih.2 _ s N (i + 1) (o) hf10 hSH8 (by omega) hoH8 (by rcases zH8 with q | q; { omega }; { rw [q]; exact hsz }) (by omega) (by omega : 10000 - 1000 * s - 10 - (i + 1) < w)
        · refine h_run 1 (pc' := 85) (l' := [(0, .inr (.inr 1826)), (1, .inl 2), (2, .inl (k : Int)), (3, .inl (s : Int)), (4, .inl (N : Int)), (5, .inl (i : Int)), (6, .inl rH8)]) (st' := [.inl 1]) rfl ?_
          refine h_retz (x := 1) rfl rfl (by decide) ?_
          exact ⟨hf10, hSH8, Or.inr rfl⟩
set_option maxRecDepth 100000 in
theorem m_sweep2 {zC : Nat → Option zsh} {d : Nat} (hd : 7 ≤ d) {H : hp} {n k : Nat} (hS : SI H n) (hkl : (k : Int) < (H.1 1826 19)) : hG (zs zC) d mt_268 0 (zargs 0 [.inr (.inr 1826), .inl 2, .inl (k : Int)]) [] H (fun r9 H2 => fr [50, 51, 53, 76, 93, 97] [1847, 1852, 1853, 1855, 1856, 1873, 1874, 1878, 1884, 1886] H H2 ∧ SI H2 n ∧ (r9 = some (.inl 0) ∨ r9 = some (.inl 1))) := by
  refine h_rng (fun hrg0 => ?_)
  refine h_run 0 (pc' := 0) (l' := [(0, .inr (.inr 1826)), (1, .inl 2), (2, .inl (k : Int))]) (st' := []) rfl ?_
  refine h_run 2 (pc' := 2) (l' := [(0, .inr (.inr 1826)), (1, .inl 2), (2, .inl (k : Int)), (3, .inl 0)]) (st' := []) rfl ?_
  exact (m_sweep2_cut hd hS hkl _).1 _ 0 (fr_rf _ _ _) hS (by omega) (Nat.lt_succ_self _)
