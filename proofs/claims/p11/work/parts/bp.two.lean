/-! the reference: the values of a constructor -/
def HT (vz fo cA cG : Nat → Int) (c n : Nat) : Prop := (cA c = 0 ∧ n = 1) ∨ (cA c = 1 ∧ 0 < fo (8 * cG (3 * c) + (n : Int)).toNat ∧ sz vz cG c 0 0 + 1 = (n : Int)) ∨ (cA c = 2 ∧ 0 < fo (8 * cG (3 * c) + (n : Int)).toNat ∧ 0 < fo (8 * cG (3 * c + 1) + (n : Int)).toNat ∧ sz vz cG c 0 0 + sz vz cG c 1 0 + 1 = (n : Int)) ∨ (cA c = 3 ∧ 0 < fo (8 * cG (3 * c) + (n : Int)).toNat ∧ 0 < fo (8 * cG (3 * c + 1) + (n : Int)).toNat ∧ 0 < fo (8 * cG (3 * c + 2) + (n : Int)).toNat ∧ sz vz cG c 0 0 + sz vz cG c 1 0 + sz vz cG c 2 0 + 1 = (n : Int))
def FO (tn : Int) (fo vc : Nat → Int) (n : Nat) : Prop := ∀ u : Nat, (u : Int) < tn → 0 ≤ fo (8 * u + n) ∧ fo (8 * u + n) ≤ vc u
theorem fo_q {fo cG : Nat → Int} {p g n : Nat} (h : cG p = (g : Int)) : fo (8 * cG p + (n : Int)).toNat = fo (8 * g + n) := by
  rw [h, show (8 * (g : Int) + (n : Int)).toNat = 8 * g + n by omega]
theorem q_sz {vz cG : Nat → Int} {c k i g : Nat} {z : Int} (h : vz (2001 * g + i) = z) (hg : cG (3 * c + k) = (g : Int)) : sz vz cG c k i = z := by
  unfold sz
  rw [hg, show (2001 * (g : Int) + (i : Int)).toNat = 2001 * g + i by omega, h]
theorem FO_VG {tn : Int} {fo vz vc vz1 vc1 : Nat → Int} {t n : Nat} (h : FO tn fo vc n) (g : VG tn vz vc vz1 vc1 t n) : FO tn fo vc1 n := fun u hu => ⟨(h u hu).1, Int.le_trans (h u hu).2 (VG_le g u)⟩
/-- a list with a first value: how many signs it has -/
theorem sz_1 {tn cn fn : Int} {fA cA va vz vc fo cG : Nat → Int} {c k n g : Nat} (hV : VK tn cn fn fA cA va vz vc) (hF : FO tn fo vc n) (hg : cG (3 * c + k) = (g : Int)) (hgt : (g : Int) < tn) (h : 0 < fo (8 * cG (3 * c + k) + (n : Int)).toNat) : 1 ≤ sz vz cG c k 0 ∧ 0 < vc g := by
  rw [fo_q (fo := fo) (n := n) hg] at h
  have h1 := hF g hgt
  obtain ⟨m, m1, m2, m3⟩ := hV g hgt
  obtain ⟨q, q1, q2, -⟩ := m3 0 (by omega)
  rw [q_sz q1 hg]
  omega
theorem HT_VG {tn cn fn : Int} {fA cT cA cG va vz vc vz1 vc1 fo : Nat → Int} {t n c n' : Nat} (hm : m_con tn cn cT cA cG) (hc : (c : Int) < cn) (hV : VK tn cn fn fA cA va vz vc) (hF : FO tn fo vc n) (g : VG tn vz vc vz1 vc1 t n') (h : HT vz fo cA cG c n) : HT vz1 fo cA cG c n := by
  obtain ⟨-, -, hg⟩ := hm c hc
  have key : ∀ k : Nat, (k : Int) < cA c → 0 < fo (8 * cG (3 * c + k) + (n : Int)).toNat → sz vz1 cG c k 0 = sz vz cG c k 0 := by
    intro k hk h0
    have h1 := hg k hk
    obtain ⟨q, hq⟩ : ∃ q : Nat, cG (3 * c + k) = (q : Int) := ⟨(cG (3 * c + k)).toNat, by omega⟩
    have h2 := (sz_1 hV hF hq (by omega) h0).2
    exact VG_sz g hq (by omega) (by omega) rfl
  rcases h with h | ⟨h1, h2, h3⟩ | ⟨h1, h2, h3, h4⟩ | ⟨h1, h2, h3, h4, h5⟩
  · exact Or.inl h
  · exact Or.inr (Or.inl ⟨h1, h2, by rw [key 0 (by omega) h2]; exact h3⟩)
  · exact Or.inr (Or.inr (Or.inl ⟨h1, h2, h3, by rw [key 0 (by omega) h2, key 1 (by omega) h3]; exact h4⟩))
  · exact Or.inr (Or.inr (Or.inr ⟨h1, h2, h3, h4, by rw [key 0 (by omega) h2, key 1 (by omega) h3, key 2 (by omega) h4]; exact h5⟩))
theorem VK_fr {H K : hp} {ob ar : List Nat} (h : VK (H.1 1826 1) (H.1 1826 3) (H.1 1826 8) (H.1 1833) (H.1 1830) (H.1 1861) (H.1 1862) (H.1 1863)) (f : fr ob ar H K) (h1 : ∀ c ∈ [1833, 1830, 1861, 1862, 1863], c ∉ ar) (h2 : ∀ j ∈ [1, 3, 8], j ∉ ob) : VK (K.1 1826 1) (K.1 1826 3) (K.1 1826 8) (K.1 1833) (K.1 1830) (K.1 1861) (K.1 1862) (K.1 1863) := by
  rw [f.2.2 1 (h2 _ (by decide)), f.2.2 3 (h2 _ (by decide)), f.2.2 8 (h2 _ (by decide)), f.2.1 1833 (by decide) (h1 _ (by decide)), f.2.1 1830 (by decide) (h1 _ (by decide)), f.2.1 1861 (by decide) (h1 _ (by decide)), f.2.1 1862 (by decide) (h1 _ (by decide)), f.2.1 1863 (by decide) (h1 _ (by decide))]
  exact h
theorem tp_n {ar : Int → Int} {ok : Int → Prop} {a : Nat → Int} {k n : Nat} (h : tp ar ok a k 0 1 0) (e : k = n) : tm ar ok a n 0 1 := by
  rw [← e]; exact tp_tm h


theorem HT_3 {tn cn fn : Int} {fA cA va vz vc fo cG : Nat → Int} {c n : Nat} (hV : VK tn cn fn fA cA va vz vc) (hF : FO tn fo vc n) (h : HT vz fo cA cG c n) (hg : cA c = 3 → 0 ≤ cG (3 * c + 2) ∧ cG (3 * c + 2) < tn) : cA c = 3 → 1 ≤ sz vz cG c 2 0 := by
  intro h3
  have h1 := hg h3
  obtain ⟨q, hq⟩ : ∃ q : Nat, cG (3 * c + 2) = (q : Int) := ⟨(cG (3 * c + 2)).toNat, by omega⟩
  rcases h with ⟨a1, a2⟩ | ⟨a1, a2, a3⟩ | ⟨a1, a2, a3, a4⟩ | ⟨a1, a2, a3, a4, a5⟩
  · omega
  · omega
  · omega
  · exact (sz_1 hV hF hq (by omega) a4).1

/-! makeTwo -/
set_option maxRecDepth 100000 in
theorem m_makeTwo_cut {zC : Nat → Option zsh} {d : Nat} (hd : 6 ≤ d) {H : hp} {t c n i a g0 g1 z0 : Nat} (hP : PWc H) (hc : (c : Int) < (H.1 1826 3)) (ht : (t : Int) < (H.1 1826 1)) (hn : 1 ≤ n ∧ n ≤ 6) (hV : VK (H.1 1826 1) (H.1 1826 3) (H.1 1826 8) (H.1 1833) (H.1 1830) (H.1 1861) (H.1 1862) (H.1 1863)) (hFO : FO (H.1 1826 1) (H.1 1865) (H.1 1863) n) (ha : (H.1 1830) c = (a : Int)) (ha2 : 2 ≤ a) (hg0 : (H.1 1831) (3 * c + 0) = (g0 : Int)) (hg1 : (H.1 1831) (3 * c + 1) = (g1 : Int)) (hi : (i : Int) < (H.1 1863) g0) (hz0 : sz (H.1 1862) (H.1 1831) c 0 i = (z0 : Int)) : ∀ w : Nat, (∀ (H1 : hp) (b9 : Nat) (f1 : Int) (j : Nat), (fr [53] [1856, 1861, 1862, 1863] H H1) → (VK (H1.1 1826 1) (H1.1 1826 3) (H1.1 1826 8) (H1.1 1833) (H1.1 1830) (H1.1 1861) (H1.1 1862) (H1.1 1863)) → (VG (H.1 1826 1) (H.1 1862) (H.1 1863) (H1.1 1862) (H1.1 1863) t n) → (b9 = 1 + z0) → (f1 = (H.1 1865) (8 * (H.1 1831) (3 * c + 1) + (n : Int)).toNat) → (j ≤ 2001) → (hid (i = 0 → HT (H.1 1862) (H.1 1865) (H.1 1830) (H.1 1831) c n → 1 ≤ j → 0 < (H1.1 1863) t)) → 10000000 - 4000 * j < w → hG (zs zC) d mt_217 45 [(0, .inr (.inr 1826)), (1, .inl (t : Int)), (2, .inl (c : Int)), (3, .inl (n : Int)), (4, .inl (i : Int)), (5, .inl (a : Int)), (6, .inl (b9 : Int)), (7, .inl f1), (8, .inl (j : Int))] [] H1 (fun r9 H2 => r9 = none ∧ fr [53] [1856, 1861, 1862, 1863] H H2 ∧ VK (H2.1 1826 1) (H2.1 1826 3) (H2.1 1826 8) (H2.1 1833) (H2.1 1830) (H2.1 1861) (H2.1 1862) (H2.1 1863) ∧ VG (H.1 1826 1) (H.1 1862) (H.1 1863) (H2.1 1862) (H2.1 1863) t n ∧ (i = 0 → HT (H.1 1862) (H.1 1865) (H.1 1830) (H.1 1831) c n → 0 < (H2.1 1863) t))) ∧ (∀ (H1 : hp) (b9 : Nat) (f1 : Int) (j : Nat) (b8 : Nat) (f2 : Int) (k : Nat) (z1 : Nat) (g2 : Nat), (fr [53] [1856, 1861, 1862, 1863] H H1) → (VK (H1.1 1826 1) (H1.1 1826 3) (H1.1 1826 8) (H1.1 1833) (H1.1 1830) (H1.1 1861) (H1.1 1862) (H1.1 1863)) → (VG (H.1 1826 1) (H.1 1862) (H.1 1863) (H1.1 1862) (H1.1 1863) t n) → (b9 = 1 + z0) → (f1 = (H.1 1865) (8 * (H.1 1831) (3 * c + 1) + (n : Int)).toNat) → ((j : Int) < f1) → (sz (H.1 1862) (H.1 1831) c 1 j = (z1 : Int)) → (b8 = 1 + z0 + z1 ∧ 1 ≤ z1 ∧ z1 ≤ 6) → (f2 = (H.1 1865) (8 * (H.1 1831) (3 * c + 2) + (n : Int)).toNat) → (a = 3) → ((H.1 1831) (3 * c + 2) = (g2 : Int)) → (k ≤ 2001) → (hid (i = 0 → HT (H.1 1862) (H.1 1865) (H.1 1830) (H.1 1831) c n → 1 ≤ j ∨ 1 ≤ k → 0 < (H1.1 1863) t)) → 10000000 - 4000 * j - 100 - k < w → hG (zs zC) d mt_217 146 [(0, .inr (.inr 1826)), (1, .inl (t : Int)), (2, .inl (c : Int)), (3, .inl (n : Int)), (4, .inl (i : Int)), (5, .inl (a : Int)), (6, .inl (b9 : Int)), (7, .inl f1), (8, .inl (j : Int)), (9, .inl (b8 : Int)), (10, .inl f2), (11, .inl (k : Int))] [] H1 (fun r9 H2 => r9 = none ∧ fr [53] [1856, 1861, 1862, 1863] H H2 ∧ VK (H2.1 1826 1) (H2.1 1826 3) (H2.1 1826 8) (H2.1 1833) (H2.1 1830) (H2.1 1861) (H2.1 1862) (H2.1 1863) ∧ VG (H.1 1826 1) (H.1 1862) (H.1 1863) (H2.1 1862) (H2.1 1863) t n ∧ (i = 0 → HT (H.1 1862) (H.1 1865) (H.1 1830) (H.1 1831) c n → 0 < (H2.1 1863) t))) := by
  intro w
  induction w with
  | zero => exact ⟨fun _ _ _ _ _ _ _ _ _ _ _ h => absurd h (Nat.not_lt_zero _), fun _ _ _ _ _ _ _ _ _ _ _ _ _ _ _ _ _ _ _ _ _ _ h => absurd h (Nat.not_lt_zero _)⟩
  | succ w ih =>
    refine ⟨?_, ?_⟩
    · intro H1 b9 f1 j hf hVH1 hGH1 hb9 hf1 hj hh hw
      refine h_rng (fun hrg1 => ?_)
      have hPH1 : PWc H1 := PWc_fr hP hf (by decide) (by decide)
      have cGH1 : (H1.1 1831) = (H.1 1831) := hf.2.1 1831 (by decide) (by decide)
      have cAH1 : (H1.1 1830) = (H.1 1830) := hf.2.1 1830 (by decide) (by decide)
      have fAH1 : (H1.1 1833) = (H.1 1833) := hf.2.1 1833 (by decide) (by decide)
      have foH1 : (H1.1 1865) = (H.1 1865) := hf.2.1 1865 (by decide) (by decide)
      have tyH1 : (H1.1 1826 1) = (H.1 1826 1) := hf.2.2 1 (by decide)
      have cnH1 : (H1.1 1826 3) = (H.1 1826 3) := hf.2.2 3 (by decide)
      have fnH1 : (H1.1 1826 8) = (H.1 1826 8) := hf.2.2 8 (by decide)
      obtain ⟨⟨pb1, pb2, pb3, pb4, pb5⟩, pw1, pw2, pw3, pw4⟩ := (id hP : PW H (H.1 1826 1) (H.1 1826 3) (H.1 1826 8) (H.1 1826 13) (H.1 1826 19))
      obtain ⟨hca, hct, hcg⟩ := pw1 c (by omega)
      have hgx1 : 0 ≤ (H.1 1831) (3 * c + 1) ∧ (H.1 1831) (3 * c + 1) < (H.1 1826 1) := hcg 1 (by omega)
      have hgx0 : 0 ≤ (H.1 1831) (3 * c + 0) ∧ (H.1 1831) (3 * c + 0) < (H.1 1826 1) := hcg 0 (by omega)
      have hF1 := hFO g1 (by omega)
      have hq1 : (H.1 1865) (8 * (H.1 1831) (3 * c + 1) + (n : Int)).toNat = (H.1 1865) (8 * g1 + n) := fo_q hg1
      obtain ⟨mv0, mv01, mv02, mv03⟩ := hV g0 (by omega)
      obtain ⟨mv1, mv11, mv12, mv13⟩ := hV g1 (by omega)
      have hg2 : (H.1 1830) c = 3 → 0 ≤ (H.1 1831) (3 * c + 2) ∧ (H.1 1831) (3 * c + 2) < (H.1 1826 1) := fun h9 => hcg 2 (by omega)
      obtain ⟨kz0, kz1, kz2, -⟩ := mv03 i (by omega)
      have hz9 : (z0 : Int) = kz0 := by rw [← hz0]; exact q_sz kz1 hg0
      refine h_run 2 (pc' := 49) (l' := [(0, .inr (.inr 1826)), (1, .inl (t : Int)), (2, .inl (c : Int)), (3, .inl (n : Int)), (4, .inl (i : Int)), (5, .inl (a : Int)), (6, .inl (b9 : Int)), (7, .inl f1), (8, .inl (j : Int))]) (st' := [.inl f1, .inl (j : Int)]) rfl ?_
      refine h_ige (off := 175) (t := 224) rfl rfl (by omega) (by omega) (fun c2 => ?_) (fun c2 => ?_)
      · refine h_ret rfl rfl ?_
        exact ⟨rfl, hf, hVH1, hGH1, fun hi0 hH => by by_cases hj0 : 1 ≤ j; { exact hh hi0 hH hj0 }; { obtain rfl : j = 0 := (by omega); (exfalso; subst hi0; have h7 := HT_3 hV hFO hH hg2; unfold HT at hH; rcases hH with ⟨a1, a2⟩ | ⟨a1, a2, a3⟩ | ⟨a1, a2, a3, a4⟩ | ⟨a1, a2, a3, a4, a5⟩ <;> omega) }⟩
      · obtain ⟨z1, z11, z12, -⟩ := mv13 j (by omega)
        have hz1 : sz (H.1 1862) (H.1 1831) c 1 j = (z1 : Int) := q_sz z11 hg1
        refine h_run 5 (pc' := 59) (l' := [(0, .inr (.inr 1826)), (1, .inl (t : Int)), (2, .inl (c : Int)), (3, .inl (n : Int)), (4, .inl (i : Int)), (5, .inl (a : Int)), (6, .inl (b9 : Int)), (7, .inl f1), (8, .inl (j : Int))]) (st' := [.inl (j : Int), .inl 1, .inl (c : Int), .inr (.inr 1826), .inl (b9 : Int)]) rfl ?_
        refine h_cv (i := 500) (j := 213) (b := 1826) (M' := mt_213) (xs := [.inl (j : Int), .inl 1, .inl (c : Int)]) (rest := [.inl (b9 : Int)]) rfl rfl rfl rfl rfl rfl (Nat.le_of_ble_eq_true rfl) (Nat.le_of_ble_eq_true rfl) (by omega) (m_sizeOf (k := 1) (z := (z1 : Int)) (by omega) hPH1 (by omega) (by rw [cAH1]; omega) (by omega) (by rw [cGH1]; exact VG_sz hGH1 hg1 (by omega) (by omega) hz1)) ?_
        rintro _ _ ⟨rfl, rfl⟩
        refine h_run 0 (pc' := 62) (l' := [(0, .inr (.inr 1826)), (1, .inl (t : Int)), (2, .inl (c : Int)), (3, .inl (n : Int)), (4, .inl (i : Int)), (5, .inl (a : Int)), (6, .inl (b9 : Int)), (7, .inl f1), (8, .inl (j : Int))]) (st' := [.inl (z1 : Int), .inl (b9 : Int)]) rfl ?_
        refine h_run 6 (pc' := 69) (l' := [(0, .inr (.inr 1826)), (1, .inl (t : Int)), (2, .inl (c : Int)), (3, .inl (n : Int)), (4, .inl (i : Int)), (5, .inl (a : Int)), (6, .inl (b9 : Int)), (7, .inl f1), (8, .inl (j : Int))]) (st' := [.inl (n : Int), .inl ((((b9 : Int) + (z1 : Int)) + (a : Int)) - 2)]) rfl ?_
        refine h_igt (off := 155) (t := 224) rfl rfl (by omega) (by omega) (fun c3 => ?_) (fun c3 => ?_)
        · refine h_ret rfl rfl ?_
          exact ⟨rfl, hf, hVH1, hGH1, fun hi0 hH => by by_cases hj0 : 1 ≤ j; { exact hh hi0 hH hj0 }; { obtain rfl : j = 0 := (by omega); (exfalso; subst hi0; have h7 := HT_3 hV hFO hH hg2; unfold HT at hH; rcases hH with ⟨a1, a2⟩ | ⟨a1, a2, a3⟩ | ⟨a1, a2, a3, a4⟩ | ⟨a1, a2, a3, a4, a5⟩ <;> omega) }⟩
        · refine h_run 5 (pc' := 79) (l' := [(0, .inr (.inr 1826)), (1, .inl (t : Int)), (2, .inl (c : Int)), (3, .inl (n : Int)), (4, .inl (i : Int)), (5, .inl (a : Int)), (6, .inl (b9 : Int)), (7, .inl f1), (8, .inl (j : Int))]) (st' := [.inl (j : Int), .inl 1, .inl (c : Int), .inr (.inr 1826), .inl (b9 : Int)]) rfl ?_
          refine h_cv (i := 500) (j := 213) (b := 1826) (M' := mt_213) (xs := [.inl (j : Int), .inl 1, .inl (c : Int)]) (rest := [.inl (b9 : Int)]) rfl rfl rfl rfl rfl rfl (Nat.le_of_ble_eq_true rfl) (Nat.le_of_ble_eq_true rfl) (by omega) (m_sizeOf (k := 1) (z := (z1 : Int)) (by omega) hPH1 (by omega) (by rw [cAH1]; omega) (by omega) (by rw [cGH1]; exact VG_sz hGH1 hg1 (by omega) (by omega) hz1)) ?_
          rintro _ _ ⟨rfl, rfl⟩
          refine h_run 0 (pc' := 82) (l' := [(0, .inr (.inr 1826)), (1, .inl (t : Int)), (2, .inl (c : Int)), (3, .inl (n : Int)), (4, .inl (i : Int)), (5, .inl (a : Int)), (6, .inl (b9 : Int)), (7, .inl f1), (8, .inl (j : Int))]) (st' := [.inl (z1 : Int), .inl (b9 : Int)]) rfl ?_
          refine h_run 4 (pc' := 88) (l' := [(0, .inr (.inr 1826)), (1, .inl (t : Int)), (2, .inl (c : Int)), (3, .inl (n : Int)), (4, .inl (i : Int)), (5, .inl (a : Int)), (6, .inl (b9 : Int)), (7, .inl f1), (8, .inl (j : Int)), (9, .inl ((b9 : Int) + (z1 : Int)))]) (st' := [.inl 2, .inl (a : Int)]) rfl ?_
          refine h_ine (off := 33) (t := 121) rfl rfl (by omega) (by decide) (fun c4 => ?_) (fun c4 => ?_)
          · have hgx2 : 0 ≤ (H.1 1831) (3 * c + 2) ∧ (H.1 1831) (3 * c + 2) < (H.1 1826 1) := hcg 2 (by omega)
            have hcx2 := congrFun cGH1 (3 * c + 2)
            obtain ⟨g2, hg29⟩ : ∃ q9 : Nat, (H.1 1831) (3 * c + 2) = (q9 : Int) := ⟨((H.1 1831) (3 * c + 2)).toNat, by omega⟩
            refine h_run 10 (pc' := 136) (l' := [(0, .inr (.inr 1826)), (1, .inl (t : Int)), (2, .inl (c : Int)), (3, .inl (n : Int)), (4, .inl (i : Int)), (5, .inl (a : Int)), (6, .inl (b9 : Int)), (7, .inl f1), (8, .inl (j : Int)), (9, .inl ((b9 : Int) + (z1 : Int)))]) (st' := [.inl ((3 * (c : Int)) + 2), .inr (.inr 1831), .inl 8, .inr (.inr 1865)]) rfl ?_
            refine h_ild (c := 1831) (j := ((3 * c) + 2)) (i := ((3 * (c : Int)) + 2)) rfl rfl (by decide) (by omega) (by omega) ?_
            have g5 : -2147483648 ≤ (H1.1 1831 ((3 * c) + 2)) ∧ (H1.1 1831 ((3 * c) + 2)) ≤ 2147483647 := hrg1.2 1831 ((3 * c) + 2) 48 .int rfl (by omega)
            have e6 : (H1.1 1831 ((3 * c) + 2)) = (H.1 1831 ((3 * c) + 2)) := congrFun (hf.2.1 1831 (by decide) (by decide)) ((3 * c) + 2)
            refine h_run 0 (pc' := 137) (l' := [(0, .inr (.inr 1826)), (1, .inl (t : Int)), (2, .inl (c : Int)), (3, .inl (n : Int)), (4, .inl (i : Int)), (5, .inl (a : Int)), (6, .inl (b9 : Int)), (7, .inl f1), (8, .inl (j : Int)), (9, .inl ((b9 : Int) + (z1 : Int)))]) (st' := [.inl (H1.1 1831 ((3 * c) + 2)), .inl 8, .inr (.inr 1865)]) rfl ?_
            refine h_run 3 (pc' := 140) (l' := [(0, .inr (.inr 1826)), (1, .inl (t : Int)), (2, .inl (c : Int)), (3, .inl (n : Int)), (4, .inl (i : Int)), (5, .inl (a : Int)), (6, .inl (b9 : Int)), (7, .inl f1), (8, .inl (j : Int)), (9, .inl ((b9 : Int) + (z1 : Int)))]) (st' := [.inl ((8 * (H1.1 1831 ((3 * c) + 2))) + (n : Int)), .inr (.inr 1865)]) rfl ?_
            refine h_ild (c := 1865) (j := (((8 * (H1.1 1831 ((3 * c) + 2))) + (n : Int))).toNat) (i := ((8 * (H1.1 1831 ((3 * c) + 2))) + (n : Int))) rfl rfl (by decide) (by omega) (by omega) ?_
            have g7 : -2147483648 ≤ (H1.1 1865 (((8 * (H1.1 1831 ((3 * c) + 2))) + (n : Int))).toNat) ∧ (H1.1 1865 (((8 * (H1.1 1831 ((3 * c) + 2))) + (n : Int))).toNat) ≤ 2147483647 := hrg1.2 1865 (((8 * (H1.1 1831 ((3 * c) + 2))) + (n : Int))).toNat 64 .int rfl (by omega)
            have e8 : (H1.1 1865 (((8 * (H1.1 1831 ((3 * c) + 2))) + (n : Int))).toNat) = (H.1 1865 (((8 * (H1.1 1831 ((3 * c) + 2))) + (n : Int))).toNat) := congrFun (hf.2.1 1865 (by decide) (by decide)) (((8 * (H1.1 1831 ((3 * c) + 2))) + (n : Int))).toNat
            refine h_run 0 (pc' := 141) (l' := [(0, .inr (.inr 1826)), (1, .inl (t : Int)), (2, .inl (c : Int)), (3, .inl (n : Int)), (4, .inl (i : Int)), (5, .inl (a : Int)), (6, .inl (b9 : Int)), (7, .inl f1), (8, .inl (j : Int)), (9, .inl ((b9 : Int) + (z1 : Int)))]) (st' := [.inl (H1.1 1865 (((8 * (H1.1 1831 ((3 * c) + 2))) + (n : Int))).toNat)]) rfl ?_
            have hf2 : (H1.1 1865 (((8 * (H1.1 1831 ((3 * c) + 2))) + (n : Int))).toNat) = (H.1 1865) (8 * (H.1 1831) (3 * c + 2) + (n : Int)).toNat := by rw [foH1, cGH1]
            refine h_run 3 (pc' := 146) (l' := [(0, .inr (.inr 1826)), (1, .inl (t : Int)), (2, .inl (c : Int)), (3, .inl (n : Int)), (4, .inl (i : Int)), (5, .inl (a : Int)), (6, .inl (b9 : Int)), (7, .inl f1), (8, .inl (j : Int)), (9, .inl ((b9 : Int) + (z1 : Int))), (10, .inl (H1.1 1865 (((8 * (H1.1 1831 ((3 * c) + 2))) + (n : Int))).toNat)), (11, .inl 0)]) (st' := []) rfl ?_
            rw [show ((b9 : Int) + (z1 : Int)) = (((b9 + z1) : Nat) : Int) by omega]
            exact ih.2 _ b9 f1 j (b9 + z1) (H1.1 1865 (((8 * (H1.1 1831 ((3 * c) + 2))) + (n : Int))).toNat) 0 (z1) (g2) hf hVH1 hGH1 (by omega) hf1 (by omega) hz1 (by omega) hf2 (by omega) hg29 (by omega) (fun hi0 hH hj9 => hh hi0 hH (by omega)) (by omega : 10000000 - 4000 * j - 100 - 0 < w)
          · refine h_run 2 (pc' := 94) (l' := [(0, .inr (.inr 1826)), (1, .inl (t : Int)), (2, .inl (c : Int)), (3, .inl (n : Int)), (4, .inl (i : Int)), (5, .inl (a : Int)), (6, .inl (b9 : Int)), (7, .inl f1), (8, .inl (j : Int)), (9, .inl ((b9 : Int) + (z1 : Int)))]) (st' := [.inl (n : Int), .inl ((b9 : Int) + (z1 : Int))]) rfl ?_
            refine h_ine (off := 124) (t := 218) rfl rfl (by omega) (by omega) (fun c9 => ?_) (fun c9 => ?_)
            · refine h_run 2 (pc' := 45) (l' := [(0, .inr (.inr 1826)), (1, .inl (t : Int)), (2, .inl (c : Int)), (3, .inl (n : Int)), (4, .inl (i : Int)), (5, .inl (a : Int)), (6, .inl (b9 : Int)), (7, .inl f1), (8, .inl ((j : Int) + 1)), (9, .inl ((b9 : Int) + (z1 : Int)))]) (st' := []) rfl ?_
              refine h_loc [0, 1, 2, 3, 4, 5, 6, 7, 8] rfl ?_
              rw [show ((j : Int) + 1) = (((j + 1) : Nat) : Int) by omega]
              exact ih.1 _ b9 f1 (j + 1) hf hVH1 hGH1 (by omega) hf1 (by omega) (fun hi0 hH hj9 => by by_cases hj0 : 1 ≤ j; { exact hh hi0 hH hj0 }; { obtain rfl : j = 0 := (by omega); (exfalso; subst hi0; have h7 := HT_3 hV hFO hH hg2; unfold HT at hH; rcases hH with ⟨a1, a2⟩ | ⟨a1, a2, a3⟩ | ⟨a1, a2, a3, a4⟩ | ⟨a1, a2, a3, a4, a5⟩ <;> omega) }) (by omega : 10000000 - 4000 * (j + 1) < w)
            · refine h_run 3 (pc' := 101) (l' := [(0, .inr (.inr 1826)), (1, .inl (t : Int)), (2, .inl (c : Int)), (3, .inl (n : Int)), (4, .inl (i : Int)), (5, .inl (a : Int)), (6, .inl (b9 : Int)), (7, .inl f1), (8, .inl (j : Int)), (9, .inl ((b9 : Int) + (z1 : Int)))]) (st' := [.inl (i : Int), .inl (c : Int), .inr (.inr 1826)]) rfl ?_
              refine h_cv (i := 504) (j := 216) (b := 1826) (M' := mt_216) (xs := [.inl (i : Int), .inl (c : Int)]) (rest := []) rfl rfl rfl rfl rfl rfl (Nat.le_of_ble_eq_true rfl) (Nat.le_of_ble_eq_true rfl) (by omega) (m_begun (g := g0) (z := z0) (a := 1) (by omega) hPH1 (by omega) (by rw [cAH1]; omega) (by rw [cGH1]; exact hg0) (by omega) hVH1 (by have := VG_le hGH1 g0; omega) (by rw [cGH1]; exact VG_sz hGH1 hg0 (by omega) (by omega) hz0)) ?_
              rintro _ H10 ⟨rfl, hfH10, hmsH10, htpH10⟩
              refine h_rng (fun hrg11 => ?_)
              have hf12 : fr [53] [1856, 1861, 1862, 1863] H H10 := fr_t hf hfH10 (by decide) (by decide)
              have hPH10 : PWc H10 := PWc_fr hP hf12 (by decide) (by decide)
              have cGH10 : (H10.1 1831) = (H.1 1831) := hf12.2.1 1831 (by decide) (by decide)
              have cAH10 : (H10.1 1830) = (H.1 1830) := hf12.2.1 1830 (by decide) (by decide)
              have fAH10 : (H10.1 1833) = (H.1 1833) := hf12.2.1 1833 (by decide) (by decide)
              have foH10 : (H10.1 1865) = (H.1 1865) := hf12.2.1 1865 (by decide) (by decide)
              have tyH10 : (H10.1 1826 1) = (H.1 1826 1) := hf12.2.2 1 (by decide)
              have cnH10 : (H10.1 1826 3) = (H.1 1826 3) := hf12.2.2 3 (by decide)
              have fnH10 : (H10.1 1826 8) = (H.1 1826 8) := hf12.2.2 8 (by decide)
              have vzH10 : (H10.1 1862) = (H1.1 1862) := hfH10.2.1 1862 (by decide) (by decide)
              have vcH10 : (H10.1 1863) = (H1.1 1863) := hfH10.2.1 1863 (by decide) (by decide)
              have hVH10 : VK (H10.1 1826 1) (H10.1 1826 3) (H10.1 1826 8) (H10.1 1833) (H10.1 1830) (H10.1 1861) (H10.1 1862) (H10.1 1863) := VK_fr hVH1 hfH10 (by decide) (by decide)
              have hGH10 : VG (H.1 1826 1) (H.1 1862) (H.1 1863) (H10.1 1862) (H10.1 1863) t n := by rw [vzH10, vcH10]; exact hGH1
              have TH10 : tp (ma (H.1 1833) (H.1 1830)) (m_sg (H.1 1826 3) (H.1 1826 8) 0) (H10.1 1856) (1 + z0) 0 1 1 := by have h9 := htpH10; rw [fAH1, cAH1, cnH1, fnH1] at h9; exact h9
              refine h_run 0 (pc' := 104) (l' := [(0, .inr (.inr 1826)), (1, .inl (t : Int)), (2, .inl (c : Int)), (3, .inl (n : Int)), (4, .inl (i : Int)), (5, .inl (a : Int)), (6, .inl (b9 : Int)), (7, .inl f1), (8, .inl (j : Int)), (9, .inl ((b9 : Int) + (z1 : Int)))]) (st' := []) rfl ?_
              refine h_run 4 (pc' := 109) (l' := [(0, .inr (.inr 1826)), (1, .inl (t : Int)), (2, .inl (c : Int)), (3, .inl (n : Int)), (4, .inl (i : Int)), (5, .inl (a : Int)), (6, .inl (b9 : Int)), (7, .inl f1), (8, .inl (j : Int)), (9, .inl ((b9 : Int) + (z1 : Int)))]) (st' := [.inl (j : Int), .inl 1, .inl (c : Int), .inr (.inr 1826)]) rfl ?_
              refine h_cv (i := 511) (j := 214) (b := 1826) (M' := mt_214) (xs := [.inl (j : Int), .inl 1, .inl (c : Int)]) (rest := []) rfl rfl rfl rfl rfl rfl (Nat.le_of_ble_eq_true rfl) (Nat.le_of_ble_eq_true rfl) (by omega) (m_putValue (k := 1) (g := g1) (p := (1 + z0)) (m := 0) (z := z1) (by omega) hPH10 (by omega) (by rw [cAH10]; omega) (by rw [cGH10]; exact hg1) (by omega) hVH10 (by have := VG_le hGH10 g1; omega) (by rw [cGH10]; exact VG_sz hGH10 hg1 (by omega) (by omega) hz1) hmsH10 (by omega) (by rw [fAH10, cAH10, cnH10, fnH10]; exact TH10)) ?_
              rintro _ H13 ⟨rfl, hfH13, hmsH13, -, htpH13⟩
              refine h_rng (fun hrg14 => ?_)
              have hf15 : fr [53] [1856, 1861, 1862, 1863] H H13 := fr_t hf12 hfH13 (by decide) (by decide)
              have hPH13 : PWc H13 := PWc_fr hP hf15 (by decide) (by decide)
              have cGH13 : (H13.1 1831) = (H.1 1831) := hf15.2.1 1831 (by decide) (by decide)
              have cAH13 : (H13.1 1830) = (H.1 1830) := hf15.2.1 1830 (by decide) (by decide)
              have fAH13 : (H13.1 1833) = (H.1 1833) := hf15.2.1 1833 (by decide) (by decide)
              have foH13 : (H13.1 1865) = (H.1 1865) := hf15.2.1 1865 (by decide) (by decide)
              have tyH13 : (H13.1 1826 1) = (H.1 1826 1) := hf15.2.2 1 (by decide)
              have cnH13 : (H13.1 1826 3) = (H.1 1826 3) := hf15.2.2 3 (by decide)
              have fnH13 : (H13.1 1826 8) = (H.1 1826 8) := hf15.2.2 8 (by decide)
              have vzH13 : (H13.1 1862) = (H10.1 1862) := hfH13.2.1 1862 (by decide) (by decide)
              have vcH13 : (H13.1 1863) = (H10.1 1863) := hfH13.2.1 1863 (by decide) (by decide)
              have hVH13 : VK (H13.1 1826 1) (H13.1 1826 3) (H13.1 1826 8) (H13.1 1833) (H13.1 1830) (H13.1 1861) (H13.1 1862) (H13.1 1863) := VK_fr hVH10 hfH13 (by decide) (by decide)
              have hGH13 : VG (H.1 1826 1) (H.1 1862) (H.1 1863) (H13.1 1862) (H13.1 1863) t n := by rw [vzH13, vcH13]; exact hGH10
              have TH13 : tp (ma (H.1 1833) (H.1 1830)) (m_sg (H.1 1826 3) (H.1 1826 8) 0) (H13.1 1856) ((1 + z0) + z1) 0 1 0 := by have h9 := htpH13; rw [fAH10, cAH10, cnH10, fnH10] at h9; exact h9
              refine h_run 0 (pc' := 112) (l' := [(0, .inr (.inr 1826)), (1, .inl (t : Int)), (2, .inl (c : Int)), (3, .inl (n : Int)), (4, .inl (i : Int)), (5, .inl (a : Int)), (6, .inl (b9 : Int)), (7, .inl f1), (8, .inl (j : Int)), (9, .inl ((b9 : Int) + (z1 : Int)))]) (st' := []) rfl ?_
              refine h_run 3 (pc' := 115) (l' := [(0, .inr (.inr 1826)), (1, .inl (t : Int)), (2, .inl (c : Int)), (3, .inl (n : Int)), (4, .inl (i : Int)), (5, .inl (a : Int)), (6, .inl (b9 : Int)), (7, .inl f1), (8, .inl (j : Int)), (9, .inl ((b9 : Int) + (z1 : Int)))]) (st' := [.inl (n : Int), .inl (t : Int), .inr (.inr 1826)]) rfl ?_
              refine h_cv (i := 493) (j := 211) (b := 1826) (M' := mt_211) (xs := [.inl (n : Int), .inl (t : Int)]) (rest := []) rfl rfl rfl rfl rfl rfl (Nat.le_of_ble_eq_true rfl) (Nat.le_of_ble_eq_true rfl) (by omega) (m_addValue (t := t) (n := n) (by omega) hPH13 (by omega) (by omega) hVH13 (by rw [fAH13, cAH13, cnH13, fnH13]; exact tp_n TH13 (by omega))) ?_
              rintro _ H16 ⟨rfl, hfH16, hVH16, hxH16, hnH16⟩
              refine h_rng (fun hrg17 => ?_)
              have hf18 : fr [53] [1856, 1861, 1862, 1863] H H16 := fr_t hf15 hfH16 (by decide) (by decide)
              have hPH16 : PWc H16 := PWc_fr hP hf18 (by decide) (by decide)
              have cGH16 : (H16.1 1831) = (H.1 1831) := hf18.2.1 1831 (by decide) (by decide)
              have cAH16 : (H16.1 1830) = (H.1 1830) := hf18.2.1 1830 (by decide) (by decide)
              have fAH16 : (H16.1 1833) = (H.1 1833) := hf18.2.1 1833 (by decide) (by decide)
              have foH16 : (H16.1 1865) = (H.1 1865) := hf18.2.1 1865 (by decide) (by decide)
              have tyH16 : (H16.1 1826 1) = (H.1 1826 1) := hf18.2.2 1 (by decide)
              have cnH16 : (H16.1 1826 3) = (H.1 1826 3) := hf18.2.2 3 (by decide)
              have fnH16 : (H16.1 1826 8) = (H.1 1826 8) := hf18.2.2 8 (by decide)
              have hGH16 : VG (H.1 1826 1) (H.1 1862) (H.1 1863) (H16.1 1862) (H16.1 1863) t n := by rw [tyH13] at hxH16; exact VG_tr hGH13 hxH16 ht
              refine h_run 0 (pc' := 118) (l' := [(0, .inr (.inr 1826)), (1, .inl (t : Int)), (2, .inl (c : Int)), (3, .inl (n : Int)), (4, .inl (i : Int)), (5, .inl (a : Int)), (6, .inl (b9 : Int)), (7, .inl f1), (8, .inl (j : Int)), (9, .inl ((b9 : Int) + (z1 : Int)))]) (st' := []) rfl ?_
              refine h_run 3 (pc' := 45) (l' := [(0, .inr (.inr 1826)), (1, .inl (t : Int)), (2, .inl (c : Int)), (3, .inl (n : Int)), (4, .inl (i : Int)), (5, .inl (a : Int)), (6, .inl (b9 : Int)), (7, .inl f1), (8, .inl ((j : Int) + 1)), (9, .inl ((b9 : Int) + (z1 : Int)))]) (st' := []) rfl ?_
              refine h_loc [0, 1, 2, 3, 4, 5, 6, 7, 8] rfl ?_
              rw [show ((j : Int) + 1) = (((j + 1) : Nat) : Int) by omega]
              exact ih.1 _ b9 f1 (j + 1) hf18 hVH16 hGH16 (by omega) hf1 (by omega) (fun _ _ _ => hnH16) (by omega : 10000000 - 4000 * (j + 1) < w)
    · intro H1 b9 f1 j b8 f2 k z1 g2 hf hVH1 hGH1 hb9 hf1 hj hz1 hb8 hf2 ha3 hg29 hk hh hw
      refine h_rng (fun hrg19 => ?_)
      have hPH1 : PWc H1 := PWc_fr hP hf (by decide) (by decide)
      have cGH1 : (H1.1 1831) = (H.1 1831) := hf.2.1 1831 (by decide) (by decide)
      have cAH1 : (H1.1 1830) = (H.1 1830) := hf.2.1 1830 (by decide) (by decide)
      have fAH1 : (H1.1 1833) = (H.1 1833) := hf.2.1 1833 (by decide) (by decide)
      have foH1 : (H1.1 1865) = (H.1 1865) := hf.2.1 1865 (by decide) (by decide)
      have tyH1 : (H1.1 1826 1) = (H.1 1826 1) := hf.2.2 1 (by decide)
      have cnH1 : (H1.1 1826 3) = (H.1 1826 3) := hf.2.2 3 (by decide)
      have fnH1 : (H1.1 1826 8) = (H.1 1826 8) := hf.2.2 8 (by decide)
      obtain ⟨⟨pb1, pb2, pb3, pb4, pb5⟩, pw1, pw2, pw3, pw4⟩ := (id hP : PW H (H.1 1826 1) (H.1 1826 3) (H.1 1826 8) (H.1 1826 13) (H.1 1826 19))
      obtain ⟨hca, hct, hcg⟩ := pw1 c (by omega)
      have hgx1 : 0 ≤ (H.1 1831) (3 * c + 1) ∧ (H.1 1831) (3 * c + 1) < (H.1 1826 1) := hcg 1 (by omega)
      have hgx0 : 0 ≤ (H.1 1831) (3 * c + 0) ∧ (H.1 1831) (3 * c + 0) < (H.1 1826 1) := hcg 0 (by omega)
      have hF1 := hFO g1 (by omega)
      have hq1 : (H.1 1865) (8 * (H.1 1831) (3 * c + 1) + (n : Int)).toNat = (H.1 1865) (8 * g1 + n) := fo_q hg1
      obtain ⟨mv0, mv01, mv02, mv03⟩ := hV g0 (by omega)
      obtain ⟨mv1, mv11, mv12, mv13⟩ := hV g1 (by omega)
      have hg2 : (H.1 1830) c = 3 → 0 ≤ (H.1 1831) (3 * c + 2) ∧ (H.1 1831) (3 * c + 2) < (H.1 1826 1) := fun h9 => hcg 2 (by omega)
      obtain ⟨kz0, kz1, kz2, -⟩ := mv03 i (by omega)
      have hz9 : (z0 : Int) = kz0 := by rw [← hz0]; exact q_sz kz1 hg0
      have hg2b := hg2 (by omega)
      have hF2 := hFO g2 (by omega)
      have hq2 : (H.1 1865) (8 * (H.1 1831) (3 * c + 2) + (n : Int)).toNat = (H.1 1865) (8 * g2 + n) := fo_q hg29
      obtain ⟨mv2, mv21, mv22, mv23⟩ := hV g2 (by omega)
      have hg9 := hg2
      replace hg29 := hg29
      refine h_run 2 (pc' := 150) (l' := [(0, .inr (.inr 1826)), (1, .inl (t : Int)), (2, .inl (c : Int)), (3, .inl (n : Int)), (4, .inl (i : Int)), (5, .inl (a : Int)), (6, .inl (b9 : Int)), (7, .inl f1), (8, .inl (j : Int)), (9, .inl (b8 : Int)), (10, .inl f2), (11, .inl (k : Int))]) (st' := [.inl f2, .inl (k : Int)]) rfl ?_
      refine h_ige (off := 68) (t := 218) rfl rfl (by omega) (by omega) (fun c20 => ?_) (fun c20 => ?_)
      · refine h_run 2 (pc' := 45) (l' := [(0, .inr (.inr 1826)), (1, .inl (t : Int)), (2, .inl (c : Int)), (3, .inl (n : Int)), (4, .inl (i : Int)), (5, .inl (a : Int)), (6, .inl (b9 : Int)), (7, .inl f1), (8, .inl ((j : Int) + 1)), (9, .inl (b8 : Int)), (10, .inl f2), (11, .inl (k : Int))]) (st' := []) rfl ?_
        refine h_loc [0, 1, 2, 3, 4, 5, 6, 7, 8] rfl ?_
        rw [show ((j : Int) + 1) = (((j + 1) : Nat) : Int) by omega]
        exact ih.1 _ b9 f1 (j + 1) hf hVH1 hGH1 (by omega) hf1 (by omega) (fun hi0 hH hj9 => by by_cases hj0 : 1 ≤ j ∨ 1 ≤ k; { exact hh hi0 hH hj0 }; { obtain rfl : j = 0 := (by omega); obtain rfl : k = 0 := (by omega); (exfalso; subst hi0; have h7 := HT_3 hV hFO hH hg2; unfold HT at hH; rcases hH with ⟨a1, a2⟩ | ⟨a1, a2, a3⟩ | ⟨a1, a2, a3, a4⟩ | ⟨a1, a2, a3, a4, a5⟩ <;> omega) }) (by omega : 10000000 - 4000 * (j + 1) < w)
      · obtain ⟨z2, z21, z22, -⟩ := mv23 k (by omega)
        have hz2 : sz (H.1 1862) (H.1 1831) c 2 k = (z2 : Int) := q_sz z21 hg29
        refine h_run 5 (pc' := 160) (l' := [(0, .inr (.inr 1826)), (1, .inl (t : Int)), (2, .inl (c : Int)), (3, .inl (n : Int)), (4, .inl (i : Int)), (5, .inl (a : Int)), (6, .inl (b9 : Int)), (7, .inl f1), (8, .inl (j : Int)), (9, .inl (b8 : Int)), (10, .inl f2), (11, .inl (k : Int))]) (st' := [.inl (k : Int), .inl 2, .inl (c : Int), .inr (.inr 1826), .inl (b8 : Int)]) rfl ?_
        refine h_cv (i := 500) (j := 213) (b := 1826) (M' := mt_213) (xs := [.inl (k : Int), .inl 2, .inl (c : Int)]) (rest := [.inl (b8 : Int)]) rfl rfl rfl rfl rfl rfl (Nat.le_of_ble_eq_true rfl) (Nat.le_of_ble_eq_true rfl) (by omega) (m_sizeOf (k := 2) (z := (z2 : Int)) (by omega) hPH1 (by omega) (by rw [cAH1]; omega) (by omega) (by rw [cGH1]; exact VG_sz hGH1 hg29 (by omega) (by omega) hz2)) ?_
        rintro _ _ ⟨rfl, rfl⟩
        refine h_run 0 (pc' := 163) (l' := [(0, .inr (.inr 1826)), (1, .inl (t : Int)), (2, .inl (c : Int)), (3, .inl (n : Int)), (4, .inl (i : Int)), (5, .inl (a : Int)), (6, .inl (b9 : Int)), (7, .inl f1), (8, .inl (j : Int)), (9, .inl (b8 : Int)), (10, .inl f2), (11, .inl (k : Int))]) (st' := [.inl (z2 : Int), .inl (b8 : Int)]) rfl ?_
        refine h_run 2 (pc' := 165) (l' := [(0, .inr (.inr 1826)), (1, .inl (t : Int)), (2, .inl (c : Int)), (3, .inl (n : Int)), (4, .inl (i : Int)), (5, .inl (a : Int)), (6, .inl (b9 : Int)), (7, .inl f1), (8, .inl (j : Int)), (9, .inl (b8 : Int)), (10, .inl f2), (11, .inl (k : Int))]) (st' := [.inl (n : Int), .inl ((b8 : Int) + (z2 : Int))]) rfl ?_
        refine h_igt (off := 53) (t := 218) rfl rfl (by omega) (by omega) (fun c21 => ?_) (fun c21 => ?_)
        · refine h_run 2 (pc' := 45) (l' := [(0, .inr (.inr 1826)), (1, .inl (t : Int)), (2, .inl (c : Int)), (3, .inl (n : Int)), (4, .inl (i : Int)), (5, .inl (a : Int)), (6, .inl (b9 : Int)), (7, .inl f1), (8, .inl ((j : Int) + 1)), (9, .inl (b8 : Int)), (10, .inl f2), (11, .inl (k : Int))]) (st' := []) rfl ?_
          refine h_loc [0, 1, 2, 3, 4, 5, 6, 7, 8] rfl ?_
          rw [show ((j : Int) + 1) = (((j + 1) : Nat) : Int) by omega]
          exact ih.1 _ b9 f1 (j + 1) hf hVH1 hGH1 (by omega) hf1 (by omega) (fun hi0 hH hj9 => by by_cases hj0 : 1 ≤ j ∨ 1 ≤ k; { exact hh hi0 hH hj0 }; { obtain rfl : j = 0 := (by omega); obtain rfl : k = 0 := (by omega); (exfalso; subst hi0; have h7 := HT_3 hV hFO hH hg2; unfold HT at hH; rcases hH with ⟨a1, a2⟩ | ⟨a1, a2, a3⟩ | ⟨a1, a2, a3, a4⟩ | ⟨a1, a2, a3, a4, a5⟩ <;> omega) }) (by omega : 10000000 - 4000 * (j + 1) < w)
        · refine h_run 5 (pc' := 175) (l' := [(0, .inr (.inr 1826)), (1, .inl (t : Int)), (2, .inl (c : Int)), (3, .inl (n : Int)), (4, .inl (i : Int)), (5, .inl (a : Int)), (6, .inl (b9 : Int)), (7, .inl f1), (8, .inl (j : Int)), (9, .inl (b8 : Int)), (10, .inl f2), (11, .inl (k : Int))]) (st' := [.inl (k : Int), .inl 2, .inl (c : Int), .inr (.inr 1826), .inl (b8 : Int)]) rfl ?_
          refine h_cv (i := 500) (j := 213) (b := 1826) (M' := mt_213) (xs := [.inl (k : Int), .inl 2, .inl (c : Int)]) (rest := [.inl (b8 : Int)]) rfl rfl rfl rfl rfl rfl (Nat.le_of_ble_eq_true rfl) (Nat.le_of_ble_eq_true rfl) (by omega) (m_sizeOf (k := 2) (z := (z2 : Int)) (by omega) hPH1 (by omega) (by rw [cAH1]; omega) (by omega) (by rw [cGH1]; exact VG_sz hGH1 hg29 (by omega) (by omega) hz2)) ?_
          rintro _ _ ⟨rfl, rfl⟩
          refine h_run 0 (pc' := 178) (l' := [(0, .inr (.inr 1826)), (1, .inl (t : Int)), (2, .inl (c : Int)), (3, .inl (n : Int)), (4, .inl (i : Int)), (5, .inl (a : Int)), (6, .inl (b9 : Int)), (7, .inl f1), (8, .inl (j : Int)), (9, .inl (b8 : Int)), (10, .inl f2), (11, .inl (k : Int))]) (st' := [.inl (z2 : Int), .inl (b8 : Int)]) rfl ?_
          refine h_run 2 (pc' := 180) (l' := [(0, .inr (.inr 1826)), (1, .inl (t : Int)), (2, .inl (c : Int)), (3, .inl (n : Int)), (4, .inl (i : Int)), (5, .inl (a : Int)), (6, .inl (b9 : Int)), (7, .inl f1), (8, .inl (j : Int)), (9, .inl (b8 : Int)), (10, .inl f2), (11, .inl (k : Int))]) (st' := [.inl (n : Int), .inl ((b8 : Int) + (z2 : Int))]) rfl ?_
          refine h_ine (off := 32) (t := 212) rfl rfl (by omega) (by omega) (fun c22 => ?_) (fun c22 => ?_)
          · refine h_run 2 (pc' := 146) (l' := [(0, .inr (.inr 1826)), (1, .inl (t : Int)), (2, .inl (c : Int)), (3, .inl (n : Int)), (4, .inl (i : Int)), (5, .inl (a : Int)), (6, .inl (b9 : Int)), (7, .inl f1), (8, .inl (j : Int)), (9, .inl (b8 : Int)), (10, .inl f2), (11, .inl ((k : Int) + 1))]) (st' := []) rfl ?_
            rw [show ((k : Int) + 1) = (((k + 1) : Nat) : Int) by omega]
            exact ih.2 _ b9 f1 j b8 f2 (k + 1) (z1) (g2) hf hVH1 hGH1 (by omega) hf1 (by omega) hz1 (by omega) hf2 (by omega) hg29 (by omega) (fun hi0 hH hj9 => by by_cases hj0 : 1 ≤ j ∨ 1 ≤ k; { exact hh hi0 hH hj0 }; { obtain rfl : j = 0 := (by omega); obtain rfl : k = 0 := (by omega); (exfalso; subst hi0; have h7 := HT_3 hV hFO hH hg2; unfold HT at hH; rcases hH with ⟨a1, a2⟩ | ⟨a1, a2, a3⟩ | ⟨a1, a2, a3, a4⟩ | ⟨a1, a2, a3, a4, a5⟩ <;> omega) }) (by omega : 10000000 - 4000 * j - 100 - (k + 1) < w)
          · refine h_run 3 (pc' := 187) (l' := [(0, .inr (.inr 1826)), (1, .inl (t : Int)), (2, .inl (c : Int)), (3, .inl (n : Int)), (4, .inl (i : Int)), (5, .inl (a : Int)), (6, .inl (b9 : Int)), (7, .inl f1), (8, .inl (j : Int)), (9, .inl (b8 : Int)), (10, .inl f2), (11, .inl (k : Int))]) (st' := [.inl (i : Int), .inl (c : Int), .inr (.inr 1826)]) rfl ?_
            refine h_cv (i := 504) (j := 216) (b := 1826) (M' := mt_216) (xs := [.inl (i : Int), .inl (c : Int)]) (rest := []) rfl rfl rfl rfl rfl rfl (Nat.le_of_ble_eq_true rfl) (Nat.le_of_ble_eq_true rfl) (by omega) (m_begun (g := g0) (z := z0) (a := 2) (by omega) hPH1 (by omega) (by rw [cAH1]; omega) (by rw [cGH1]; exact hg0) (by omega) hVH1 (by have := VG_le hGH1 g0; omega) (by rw [cGH1]; exact VG_sz hGH1 hg0 (by omega) (by omega) hz0)) ?_
            rintro _ H23 ⟨rfl, hfH23, hmsH23, htpH23⟩
            refine h_rng (fun hrg24 => ?_)
            have hf25 : fr [53] [1856, 1861, 1862, 1863] H H23 := fr_t hf hfH23 (by decide) (by decide)
            have hPH23 : PWc H23 := PWc_fr hP hf25 (by decide) (by decide)
            have cGH23 : (H23.1 1831) = (H.1 1831) := hf25.2.1 1831 (by decide) (by decide)
            have cAH23 : (H23.1 1830) = (H.1 1830) := hf25.2.1 1830 (by decide) (by decide)
            have fAH23 : (H23.1 1833) = (H.1 1833) := hf25.2.1 1833 (by decide) (by decide)
            have foH23 : (H23.1 1865) = (H.1 1865) := hf25.2.1 1865 (by decide) (by decide)
            have tyH23 : (H23.1 1826 1) = (H.1 1826 1) := hf25.2.2 1 (by decide)
            have cnH23 : (H23.1 1826 3) = (H.1 1826 3) := hf25.2.2 3 (by decide)
            have fnH23 : (H23.1 1826 8) = (H.1 1826 8) := hf25.2.2 8 (by decide)
            have vzH23 : (H23.1 1862) = (H1.1 1862) := hfH23.2.1 1862 (by decide) (by decide)
            have vcH23 : (H23.1 1863) = (H1.1 1863) := hfH23.2.1 1863 (by decide) (by decide)
            have hVH23 : VK (H23.1 1826 1) (H23.1 1826 3) (H23.1 1826 8) (H23.1 1833) (H23.1 1830) (H23.1 1861) (H23.1 1862) (H23.1 1863) := VK_fr hVH1 hfH23 (by decide) (by decide)
            have hGH23 : VG (H.1 1826 1) (H.1 1862) (H.1 1863) (H23.1 1862) (H23.1 1863) t n := by rw [vzH23, vcH23]; exact hGH1
            have TH23 : tp (ma (H.1 1833) (H.1 1830)) (m_sg (H.1 1826 3) (H.1 1826 8) 0) (H23.1 1856) (1 + z0) 0 1 2 := by have h9 := htpH23; rw [fAH1, cAH1, cnH1, fnH1] at h9; exact h9
            refine h_run 0 (pc' := 190) (l' := [(0, .inr (.inr 1826)), (1, .inl (t : Int)), (2, .inl (c : Int)), (3, .inl (n : Int)), (4, .inl (i : Int)), (5, .inl (a : Int)), (6, .inl (b9 : Int)), (7, .inl f1), (8, .inl (j : Int)), (9, .inl (b8 : Int)), (10, .inl f2), (11, .inl (k : Int))]) (st' := []) rfl ?_
            refine h_run 4 (pc' := 195) (l' := [(0, .inr (.inr 1826)), (1, .inl (t : Int)), (2, .inl (c : Int)), (3, .inl (n : Int)), (4, .inl (i : Int)), (5, .inl (a : Int)), (6, .inl (b9 : Int)), (7, .inl f1), (8, .inl (j : Int)), (9, .inl (b8 : Int)), (10, .inl f2), (11, .inl (k : Int))]) (st' := [.inl (j : Int), .inl 1, .inl (c : Int), .inr (.inr 1826)]) rfl ?_
            refine h_cv (i := 511) (j := 214) (b := 1826) (M' := mt_214) (xs := [.inl (j : Int), .inl 1, .inl (c : Int)]) (rest := []) rfl rfl rfl rfl rfl rfl (Nat.le_of_ble_eq_true rfl) (Nat.le_of_ble_eq_true rfl) (by omega) (m_putValue (k := 1) (g := g1) (p := (1 + z0)) (m := 1) (z := z1) (by omega) hPH23 (by omega) (by rw [cAH23]; omega) (by rw [cGH23]; exact hg1) (by omega) hVH23 (by have := VG_le hGH23 g1; omega) (by rw [cGH23]; exact VG_sz hGH23 hg1 (by omega) (by omega) hz1) hmsH23 (by omega) (by rw [fAH23, cAH23, cnH23, fnH23]; exact TH23)) ?_
            rintro _ H26 ⟨rfl, hfH26, hmsH26, -, htpH26⟩
            refine h_rng (fun hrg27 => ?_)
            have hf28 : fr [53] [1856, 1861, 1862, 1863] H H26 := fr_t hf25 hfH26 (by decide) (by decide)
            have hPH26 : PWc H26 := PWc_fr hP hf28 (by decide) (by decide)
            have cGH26 : (H26.1 1831) = (H.1 1831) := hf28.2.1 1831 (by decide) (by decide)
            have cAH26 : (H26.1 1830) = (H.1 1830) := hf28.2.1 1830 (by decide) (by decide)
            have fAH26 : (H26.1 1833) = (H.1 1833) := hf28.2.1 1833 (by decide) (by decide)
            have foH26 : (H26.1 1865) = (H.1 1865) := hf28.2.1 1865 (by decide) (by decide)
            have tyH26 : (H26.1 1826 1) = (H.1 1826 1) := hf28.2.2 1 (by decide)
            have cnH26 : (H26.1 1826 3) = (H.1 1826 3) := hf28.2.2 3 (by decide)
            have fnH26 : (H26.1 1826 8) = (H.1 1826 8) := hf28.2.2 8 (by decide)
            have vzH26 : (H26.1 1862) = (H23.1 1862) := hfH26.2.1 1862 (by decide) (by decide)
            have vcH26 : (H26.1 1863) = (H23.1 1863) := hfH26.2.1 1863 (by decide) (by decide)
            have hVH26 : VK (H26.1 1826 1) (H26.1 1826 3) (H26.1 1826 8) (H26.1 1833) (H26.1 1830) (H26.1 1861) (H26.1 1862) (H26.1 1863) := VK_fr hVH23 hfH26 (by decide) (by decide)
            have hGH26 : VG (H.1 1826 1) (H.1 1862) (H.1 1863) (H26.1 1862) (H26.1 1863) t n := by rw [vzH26, vcH26]; exact hGH23
            have TH26 : tp (ma (H.1 1833) (H.1 1830)) (m_sg (H.1 1826 3) (H.1 1826 8) 0) (H26.1 1856) ((1 + z0) + z1) 0 1 1 := by have h9 := htpH26; rw [fAH23, cAH23, cnH23, fnH23] at h9; exact h9
            refine h_run 0 (pc' := 198) (l' := [(0, .inr (.inr 1826)), (1, .inl (t : Int)), (2, .inl (c : Int)), (3, .inl (n : Int)), (4, .inl (i : Int)), (5, .inl (a : Int)), (6, .inl (b9 : Int)), (7, .inl f1), (8, .inl (j : Int)), (9, .inl (b8 : Int)), (10, .inl f2), (11, .inl (k : Int))]) (st' := []) rfl ?_
            refine h_run 4 (pc' := 203) (l' := [(0, .inr (.inr 1826)), (1, .inl (t : Int)), (2, .inl (c : Int)), (3, .inl (n : Int)), (4, .inl (i : Int)), (5, .inl (a : Int)), (6, .inl (b9 : Int)), (7, .inl f1), (8, .inl (j : Int)), (9, .inl (b8 : Int)), (10, .inl f2), (11, .inl (k : Int))]) (st' := [.inl (k : Int), .inl 2, .inl (c : Int), .inr (.inr 1826)]) rfl ?_
            refine h_cv (i := 511) (j := 214) (b := 1826) (M' := mt_214) (xs := [.inl (k : Int), .inl 2, .inl (c : Int)]) (rest := []) rfl rfl rfl rfl rfl rfl (Nat.le_of_ble_eq_true rfl) (Nat.le_of_ble_eq_true rfl) (by omega) (m_putValue (k := 2) (g := g2) (p := (1 + z0 + z1)) (m := 0) (z := z2) (by omega) hPH26 (by omega) (by rw [cAH26]; omega) (by rw [cGH26]; exact hg29) (by omega) hVH26 (by have := VG_le hGH26 g2; omega) (by rw [cGH26]; exact VG_sz hGH26 hg29 (by omega) (by omega) hz2) hmsH26 (by omega) (by rw [fAH26, cAH26, cnH26, fnH26]; exact TH26)) ?_
            rintro _ H29 ⟨rfl, hfH29, hmsH29, -, htpH29⟩
            refine h_rng (fun hrg30 => ?_)
            have hf31 : fr [53] [1856, 1861, 1862, 1863] H H29 := fr_t hf28 hfH29 (by decide) (by decide)
            have hPH29 : PWc H29 := PWc_fr hP hf31 (by decide) (by decide)
            have cGH29 : (H29.1 1831) = (H.1 1831) := hf31.2.1 1831 (by decide) (by decide)
            have cAH29 : (H29.1 1830) = (H.1 1830) := hf31.2.1 1830 (by decide) (by decide)
            have fAH29 : (H29.1 1833) = (H.1 1833) := hf31.2.1 1833 (by decide) (by decide)
            have foH29 : (H29.1 1865) = (H.1 1865) := hf31.2.1 1865 (by decide) (by decide)
            have tyH29 : (H29.1 1826 1) = (H.1 1826 1) := hf31.2.2 1 (by decide)
            have cnH29 : (H29.1 1826 3) = (H.1 1826 3) := hf31.2.2 3 (by decide)
            have fnH29 : (H29.1 1826 8) = (H.1 1826 8) := hf31.2.2 8 (by decide)
            have vzH29 : (H29.1 1862) = (H26.1 1862) := hfH29.2.1 1862 (by decide) (by decide)
            have vcH29 : (H29.1 1863) = (H26.1 1863) := hfH29.2.1 1863 (by decide) (by decide)
            have hVH29 : VK (H29.1 1826 1) (H29.1 1826 3) (H29.1 1826 8) (H29.1 1833) (H29.1 1830) (H29.1 1861) (H29.1 1862) (H29.1 1863) := VK_fr hVH26 hfH29 (by decide) (by decide)
            have hGH29 : VG (H.1 1826 1) (H.1 1862) (H.1 1863) (H29.1 1862) (H29.1 1863) t n := by rw [vzH29, vcH29]; exact hGH26
            have TH29 : tp (ma (H.1 1833) (H.1 1830)) (m_sg (H.1 1826 3) (H.1 1826 8) 0) (H29.1 1856) ((1 + z0 + z1) + z2) 0 1 0 := by have h9 := htpH29; rw [fAH26, cAH26, cnH26, fnH26] at h9; exact h9
            refine h_run 0 (pc' := 206) (l' := [(0, .inr (.inr 1826)), (1, .inl (t : Int)), (2, .inl (c : Int)), (3, .inl (n : Int)), (4, .inl (i : Int)), (5, .inl (a : Int)), (6, .inl (b9 : Int)), (7, .inl f1), (8, .inl (j : Int)), (9, .inl (b8 : Int)), (10, .inl f2), (11, .inl (k : Int))]) (st' := []) rfl ?_
            refine h_run 3 (pc' := 209) (l' := [(0, .inr (.inr 1826)), (1, .inl (t : Int)), (2, .inl (c : Int)), (3, .inl (n : Int)), (4, .inl (i : Int)), (5, .inl (a : Int)), (6, .inl (b9 : Int)), (7, .inl f1), (8, .inl (j : Int)), (9, .inl (b8 : Int)), (10, .inl f2), (11, .inl (k : Int))]) (st' := [.inl (n : Int), .inl (t : Int), .inr (.inr 1826)]) rfl ?_
            refine h_cv (i := 493) (j := 211) (b := 1826) (M' := mt_211) (xs := [.inl (n : Int), .inl (t : Int)]) (rest := []) rfl rfl rfl rfl rfl rfl (Nat.le_of_ble_eq_true rfl) (Nat.le_of_ble_eq_true rfl) (by omega) (m_addValue (t := t) (n := n) (by omega) hPH29 (by omega) (by omega) hVH29 (by rw [fAH29, cAH29, cnH29, fnH29]; exact tp_n TH29 (by omega))) ?_
            rintro _ H32 ⟨rfl, hfH32, hVH32, hxH32, hnH32⟩
            refine h_rng (fun hrg33 => ?_)
            have hf34 : fr [53] [1856, 1861, 1862, 1863] H H32 := fr_t hf31 hfH32 (by decide) (by decide)
            have hPH32 : PWc H32 := PWc_fr hP hf34 (by decide) (by decide)
            have cGH32 : (H32.1 1831) = (H.1 1831) := hf34.2.1 1831 (by decide) (by decide)
            have cAH32 : (H32.1 1830) = (H.1 1830) := hf34.2.1 1830 (by decide) (by decide)
            have fAH32 : (H32.1 1833) = (H.1 1833) := hf34.2.1 1833 (by decide) (by decide)
            have foH32 : (H32.1 1865) = (H.1 1865) := hf34.2.1 1865 (by decide) (by decide)
            have tyH32 : (H32.1 1826 1) = (H.1 1826 1) := hf34.2.2 1 (by decide)
            have cnH32 : (H32.1 1826 3) = (H.1 1826 3) := hf34.2.2 3 (by decide)
            have fnH32 : (H32.1 1826 8) = (H.1 1826 8) := hf34.2.2 8 (by decide)
            have hGH32 : VG (H.1 1826 1) (H.1 1862) (H.1 1863) (H32.1 1862) (H32.1 1863) t n := by rw [tyH29] at hxH32; exact VG_tr hGH29 hxH32 ht
            refine h_run 0 (pc' := 212) (l' := [(0, .inr (.inr 1826)), (1, .inl (t : Int)), (2, .inl (c : Int)), (3, .inl (n : Int)), (4, .inl (i : Int)), (5, .inl (a : Int)), (6, .inl (b9 : Int)), (7, .inl f1), (8, .inl (j : Int)), (9, .inl (b8 : Int)), (10, .inl f2), (11, .inl (k : Int))]) (st' := []) rfl ?_
            refine h_run 2 (pc' := 146) (l' := [(0, .inr (.inr 1826)), (1, .inl (t : Int)), (2, .inl (c : Int)), (3, .inl (n : Int)), (4, .inl (i : Int)), (5, .inl (a : Int)), (6, .inl (b9 : Int)), (7, .inl f1), (8, .inl (j : Int)), (9, .inl (b8 : Int)), (10, .inl f2), (11, .inl ((k : Int) + 1))]) (st' := []) rfl ?_
            rw [show ((k : Int) + 1) = (((k + 1) : Nat) : Int) by omega]
            exact ih.2 _ b9 f1 j b8 f2 (k + 1) (z1) (g2) hf34 hVH32 hGH32 (by omega) hf1 (by omega) hz1 (by omega) hf2 (by omega) hg29 (by omega) (fun _ _ _ => hnH32) (by omega : 10000000 - 4000 * j - 100 - (k + 1) < w)
set_option maxRecDepth 100000 in
theorem m_makeTwo {zC : Nat → Option zsh} {d : Nat} (hd : 6 ≤ d) {H : hp} {t c n i a g0 g1 z0 : Nat} (hP : PWc H) (hc : (c : Int) < (H.1 1826 3)) (ht : (t : Int) < (H.1 1826 1)) (hn : 1 ≤ n ∧ n ≤ 6) (hV : VK (H.1 1826 1) (H.1 1826 3) (H.1 1826 8) (H.1 1833) (H.1 1830) (H.1 1861) (H.1 1862) (H.1 1863)) (hFO : FO (H.1 1826 1) (H.1 1865) (H.1 1863) n) (ha : (H.1 1830) c = (a : Int)) (ha2 : 2 ≤ a) (hg0 : (H.1 1831) (3 * c + 0) = (g0 : Int)) (hg1 : (H.1 1831) (3 * c + 1) = (g1 : Int)) (hi : (i : Int) < (H.1 1863) g0) (hz0 : sz (H.1 1862) (H.1 1831) c 0 i = (z0 : Int)) : hG (zs zC) d mt_217 0 (zargs 0 [.inr (.inr 1826), .inl (t : Int), .inl (c : Int), .inl (n : Int), .inl (i : Int)]) [] H (fun r9 H2 => r9 = none ∧ fr [53] [1856, 1861, 1862, 1863] H H2 ∧ VK (H2.1 1826 1) (H2.1 1826 3) (H2.1 1826 8) (H2.1 1833) (H2.1 1830) (H2.1 1861) (H2.1 1862) (H2.1 1863) ∧ VG (H.1 1826 1) (H.1 1862) (H.1 1863) (H2.1 1862) (H2.1 1863) t n ∧ (i = 0 → HT (H.1 1862) (H.1 1865) (H.1 1830) (H.1 1831) c n → 0 < (H2.1 1863) t)) := by
  refine h_rng (fun hrg0 => ?_)
  refine h_run 0 (pc' := 0) (l' := [(0, .inr (.inr 1826)), (1, .inl (t : Int)), (2, .inl (c : Int)), (3, .inl (n : Int)), (4, .inl (i : Int))]) (st' := []) rfl ?_
  have hPH := hP
  have hVH := hV
  have hGH : VG (H.1 1826 1) (H.1 1862) (H.1 1863) (H.1 1862) (H.1 1863) t n := VG_rf
  have cGH : (H.1 1831) = (H.1 1831) := rfl
  have cAH : (H.1 1830) = (H.1 1830) := rfl
  have foH : (H.1 1865) = (H.1 1865) := rfl
  obtain ⟨⟨pb1, pb2, pb3, pb4, pb5⟩, pw1, pw2, pw3, pw4⟩ := (id hP : PW H (H.1 1826 1) (H.1 1826 3) (H.1 1826 8) (H.1 1826 13) (H.1 1826 19))
  obtain ⟨hca, hct, hcg⟩ := pw1 c (by omega)
  have hgx1 : 0 ≤ (H.1 1831) (3 * c + 1) ∧ (H.1 1831) (3 * c + 1) < (H.1 1826 1) := hcg 1 (by omega)
  have hgx0 : 0 ≤ (H.1 1831) (3 * c + 0) ∧ (H.1 1831) (3 * c + 0) < (H.1 1826 1) := hcg 0 (by omega)
  have hF1 := hFO g1 (by omega)
  have hq1 : (H.1 1865) (8 * (H.1 1831) (3 * c + 1) + (n : Int)).toNat = (H.1 1865) (8 * g1 + n) := fo_q hg1
  obtain ⟨mv0, mv01, mv02, mv03⟩ := hV g0 (by omega)
  obtain ⟨mv1, mv11, mv12, mv13⟩ := hV g1 (by omega)
  have hg2 : (H.1 1830) c = 3 → 0 ≤ (H.1 1831) (3 * c + 2) ∧ (H.1 1831) (3 * c + 2) < (H.1 1826 1) := fun h9 => hcg 2 (by omega)
  obtain ⟨kz0, kz1, kz2, -⟩ := mv03 i (by omega)
  have hz9 : (z0 : Int) = kz0 := by rw [← hz0]; exact q_sz kz1 hg0
  refine h_run 3 (pc' := 5) (l' := [(0, .inr (.inr 1826)), (1, .inl (t : Int)), (2, .inl (c : Int)), (3, .inl (n : Int)), (4, .inl (i : Int))]) (st' := [.inl (c : Int), .inr (.inr 1830)]) rfl ?_
  refine h_ild (c := 1830) (j := c) (i := (c : Int)) rfl rfl (by decide) rfl (by omega) ?_
  have g35 : -2147483648 ≤ (H.1 1830 c) ∧ (H.1 1830 c) ≤ 2147483647 := hrg0.2 1830 c 16 .int rfl (by omega)
  refine h_run 0 (pc' := 6) (l' := [(0, .inr (.inr 1826)), (1, .inl (t : Int)), (2, .inl (c : Int)), (3, .inl (n : Int)), (4, .inl (i : Int))]) (st' := [.inl (H.1 1830 c)]) rfl ?_
  refine h_run 6 (pc' := 14) (l' := [(0, .inr (.inr 1826)), (1, .inl (t : Int)), (2, .inl (c : Int)), (3, .inl (n : Int)), (4, .inl (i : Int)), (5, .inl (H.1 1830 c))]) (st' := [.inl (i : Int), .inl 0, .inl (c : Int), .inr (.inr 1826), .inl 1]) rfl ?_
  refine h_cv (i := 500) (j := 213) (b := 1826) (M' := mt_213) (xs := [.inl (i : Int), .inl 0, .inl (c : Int)]) (rest := [.inl 1]) rfl rfl rfl rfl rfl rfl (Nat.le_of_ble_eq_true rfl) (Nat.le_of_ble_eq_true rfl) (by omega) (m_sizeOf (k := 0) (z := (z0 : Int)) (by omega) hPH (by omega) (by rw [cAH]; omega) (by omega) (by rw [cGH]; exact VG_sz hGH hg0 (by omega) (by omega) hz0)) ?_
  rintro _ _ ⟨rfl, rfl⟩
  refine h_run 0 (pc' := 17) (l' := [(0, .inr (.inr 1826)), (1, .inl (t : Int)), (2, .inl (c : Int)), (3, .inl (n : Int)), (4, .inl (i : Int)), (5, .inl (H.1 1830 c))]) (st' := [.inl (z0 : Int), .inl 1]) rfl ?_
  refine h_run 12 (pc' := 35) (l' := [(0, .inr (.inr 1826)), (1, .inl (t : Int)), (2, .inl (c : Int)), (3, .inl (n : Int)), (4, .inl (i : Int)), (5, .inl (H.1 1830 c)), (6, .inl (1 + (z0 : Int)))]) (st' := [.inl ((3 * (c : Int)) + 1), .inr (.inr 1831), .inl 8, .inr (.inr 1865)]) rfl ?_
  refine h_ild (c := 1831) (j := ((3 * c) + 1)) (i := ((3 * (c : Int)) + 1)) rfl rfl (by decide) (by omega) (by omega) ?_
  have g36 : -2147483648 ≤ (H.1 1831 ((3 * c) + 1)) ∧ (H.1 1831 ((3 * c) + 1)) ≤ 2147483647 := hrg0.2 1831 ((3 * c) + 1) 48 .int rfl (by omega)
  refine h_run 0 (pc' := 36) (l' := [(0, .inr (.inr 1826)), (1, .inl (t : Int)), (2, .inl (c : Int)), (3, .inl (n : Int)), (4, .inl (i : Int)), (5, .inl (H.1 1830 c)), (6, .inl (1 + (z0 : Int)))]) (st' := [.inl (H.1 1831 ((3 * c) + 1)), .inl 8, .inr (.inr 1865)]) rfl ?_
  refine h_run 3 (pc' := 39) (l' := [(0, .inr (.inr 1826)), (1, .inl (t : Int)), (2, .inl (c : Int)), (3, .inl (n : Int)), (4, .inl (i : Int)), (5, .inl (H.1 1830 c)), (6, .inl (1 + (z0 : Int)))]) (st' := [.inl ((8 * (H.1 1831 ((3 * c) + 1))) + (n : Int)), .inr (.inr 1865)]) rfl ?_
  refine h_ild (c := 1865) (j := (((8 * (H.1 1831 ((3 * c) + 1))) + (n : Int))).toNat) (i := ((8 * (H.1 1831 ((3 * c) + 1))) + (n : Int))) rfl rfl (by decide) (by omega) (by omega) ?_
  have g37 : -2147483648 ≤ (H.1 1865 (((8 * (H.1 1831 ((3 * c) + 1))) + (n : Int))).toNat) ∧ (H.1 1865 (((8 * (H.1 1831 ((3 * c) + 1))) + (n : Int))).toNat) ≤ 2147483647 := hrg0.2 1865 (((8 * (H.1 1831 ((3 * c) + 1))) + (n : Int))).toNat 64 .int rfl (by omega)
  refine h_run 0 (pc' := 40) (l' := [(0, .inr (.inr 1826)), (1, .inl (t : Int)), (2, .inl (c : Int)), (3, .inl (n : Int)), (4, .inl (i : Int)), (5, .inl (H.1 1830 c)), (6, .inl (1 + (z0 : Int)))]) (st' := [.inl (H.1 1865 (((8 * (H.1 1831 ((3 * c) + 1))) + (n : Int))).toNat)]) rfl ?_
  refine h_run 3 (pc' := 45) (l' := [(0, .inr (.inr 1826)), (1, .inl (t : Int)), (2, .inl (c : Int)), (3, .inl (n : Int)), (4, .inl (i : Int)), (5, .inl (H.1 1830 c)), (6, .inl (1 + (z0 : Int))), (7, .inl (H.1 1865 (((8 * (H.1 1831 ((3 * c) + 1))) + (n : Int))).toNat)), (8, .inl 0)]) (st' := []) rfl ?_
  rw [show (H.1 1830 c) = (a : Int) by omega]
  rw [show (1 + (z0 : Int)) = (((1 + z0) : Nat) : Int) by omega]
  exact (m_makeTwo_cut hd hP hc ht hn hV hFO ha ha2 hg0 hg1 hi hz0 _).1 _ (1 + z0) (H.1 1865 (((8 * (H.1 1831 ((3 * c) + 1))) + (n : Int))).toNat) 0 (fr_rf _ _ _) hVH hGH (by omega) rfl (by omega) (fun _ _ h9 => absurd h9 (by omega)) (Nat.lt_succ_self _)


theorem HT_2 {tn cn fn : Int} {fA cA va vz vc fo cG : Nat → Int} {c n : Nat} (hV : VK tn cn fn fA cA va vz vc) (hF : FO tn fo vc n) (h : HT vz fo cA cG c n) (hg : 2 ≤ cA c → 0 ≤ cG (3 * c + 1) ∧ cG (3 * c + 1) < tn) : 2 ≤ cA c → 1 ≤ sz vz cG c 1 0 := by
  intro h3
  have h1 := hg h3
  obtain ⟨q, hq⟩ : ∃ q : Nat, cG (3 * c + 1) = (q : Int) := ⟨(cG (3 * c + 1)).toNat, by omega⟩
  rcases h with ⟨a1, a2⟩ | ⟨a1, a2, a3⟩ | ⟨a1, a2, a3, a4⟩ | ⟨a1, a2, a3, a4, a5⟩
  · omega
  · omega
  · exact (sz_1 hV hF hq (by omega) a3).1
  · exact (sz_1 hV hF hq (by omega) a3).1

/-! makeCon -/
set_option maxRecDepth 100000 in
theorem m_makeCon_cut {zC : Nat → Option zsh} {d : Nat} (hd : 8 ≤ d) {H : hp} {t c n : Nat} (hP : PWc H) (hc : (c : Int) < (H.1 1826 3)) (ht : (t : Int) < (H.1 1826 1)) (hn : 1 ≤ n ∧ n ≤ 6) (hV : VK (H.1 1826 1) (H.1 1826 3) (H.1 1826 8) (H.1 1833) (H.1 1830) (H.1 1861) (H.1 1862) (H.1 1863)) (hFO : FO (H.1 1826 1) (H.1 1865) (H.1 1863) n) : ∀ w : Nat, (∀ (H1 : hp) (a : Nat) (f0 : Int) (i : Nat) (g0 : Nat), (fr [53] [1856, 1861, 1862, 1863] H H1) → (VK (H1.1 1826 1) (H1.1 1826 3) (H1.1 1826 8) (H1.1 1833) (H1.1 1830) (H1.1 1861) (H1.1 1862) (H1.1 1863)) → (VG (H.1 1826 1) (H.1 1862) (H.1 1863) (H1.1 1862) (H1.1 1863) t n) → ((H.1 1830) c = (a : Int)) → (1 ≤ a) → ((H.1 1831) (3 * c + 0) = (g0 : Int)) → (f0 = (H.1 1865) (8 * (H.1 1831) (3 * c) + (n : Int)).toNat) → (i ≤ 2001) → (hid (HT (H.1 1862) (H.1 1865) (H.1 1830) (H.1 1831) c n → 1 ≤ i → 0 < (H1.1 1863) t)) → 10000 - i < w → hG (zs zC) d mt_215 57 [(0, .inr (.inr 1826)), (1, .inl (t : Int)), (2, .inl (c : Int)), (3, .inl (n : Int)), (4, .inl (a : Int)), (5, .inl f0), (6, .inl (i : Int))] [] H1 (fun r9 H2 => r9 = none ∧ fr [53] [1856, 1861, 1862, 1863] H H2 ∧ VK (H2.1 1826 1) (H2.1 1826 3) (H2.1 1826 8) (H2.1 1833) (H2.1 1830) (H2.1 1861) (H2.1 1862) (H2.1 1863) ∧ VG (H.1 1826 1) (H.1 1862) (H.1 1863) (H2.1 1862) (H2.1 1863) t n ∧ (HT (H.1 1862) (H.1 1865) (H.1 1830) (H.1 1831) c n → 0 < (H2.1 1863) t))) := by
  intro w
  induction w with
  | zero => exact fun _ _ _ _ _ _ _ _ _ _ _ _ _ _ h => absurd h (Nat.not_lt_zero _)
  | succ w ih =>
    intro H1 a f0 i g0 hf hVH1 hGH1 ha ha1 hg0 hf0 hi hh hw
    refine h_rng (fun hrg1 => ?_)
    have hPH1 : PWc H1 := PWc_fr hP hf (by decide) (by decide)
    have cGH1 : (H1.1 1831) = (H.1 1831) := hf.2.1 1831 (by decide) (by decide)
    have cAH1 : (H1.1 1830) = (H.1 1830) := hf.2.1 1830 (by decide) (by decide)
    have fAH1 : (H1.1 1833) = (H.1 1833) := hf.2.1 1833 (by decide) (by decide)
    have foH1 : (H1.1 1865) = (H.1 1865) := hf.2.1 1865 (by decide) (by decide)
    have tyH1 : (H1.1 1826 1) = (H.1 1826 1) := hf.2.2 1 (by decide)
    have cnH1 : (H1.1 1826 3) = (H.1 1826 3) := hf.2.2 3 (by decide)
    have fnH1 : (H1.1 1826 8) = (H.1 1826 8) := hf.2.2 8 (by decide)
    obtain ⟨⟨pb1, pb2, pb3, pb4, pb5⟩, pw1, pw2, pw3, pw4⟩ := (id hP : PW H (H.1 1826 1) (H.1 1826 3) (H.1 1826 8) (H.1 1826 13) (H.1 1826 19))
    obtain ⟨hca, hct, hcg⟩ := pw1 c (by omega)
    have hgx0 : 0 ≤ (H.1 1831) (3 * c + 0) ∧ (H.1 1831) (3 * c + 0) < (H.1 1826 1) := hcg 0 (by omega)
    have hF0 := hFO g0 (by omega)
    have hq0 : (H.1 1865) (8 * (H.1 1831) (3 * c) + (n : Int)).toNat = (H.1 1865) (8 * g0 + n) := fo_q hg0
    obtain ⟨mv0, mv01, mv02, mv03⟩ := hV g0 (by omega)
    refine h_run 2 (pc' := 61) (l' := [(0, .inr (.inr 1826)), (1, .inl (t : Int)), (2, .inl (c : Int)), (3, .inl (n : Int)), (4, .inl (a : Int)), (5, .inl f0), (6, .inl (i : Int))]) (st' := [.inl f0, .inl (i : Int)]) rfl ?_
    refine h_ige (off := 69) (t := 130) rfl rfl (by omega) (by omega) (fun c2 => ?_) (fun c2 => ?_)
    · refine h_ret rfl rfl ?_
      exact ⟨rfl, hf, hVH1, hGH1, fun hH => by by_cases hj0 : 1 ≤ i; { exact hh hH hj0 }; { have h7 := HT_3 hV hFO hH (fun h8 => hcg 2 (by omega)); have h6 := HT_2 hV hFO hH (fun h8 => hcg 1 (by omega)); obtain rfl : i = 0 := (by omega); exfalso; unfold HT at hH; rcases hH with ⟨a1, a2⟩ | ⟨a1, a2, a3⟩ | ⟨a1, a2, a3, a4⟩ | ⟨a1, a2, a3, a4, a5⟩ <;> omega }⟩
    · obtain ⟨z0, z01, z02, -⟩ := mv03 i (by omega)
      have hz0 : sz (H.1 1862) (H.1 1831) c 0 i = (z0 : Int) := q_sz z01 hg0
      refine h_run 4 (pc' := 69) (l' := [(0, .inr (.inr 1826)), (1, .inl (t : Int)), (2, .inl (c : Int)), (3, .inl (n : Int)), (4, .inl (a : Int)), (5, .inl f0), (6, .inl (i : Int))]) (st' := [.inl (i : Int), .inl 0, .inl (c : Int), .inr (.inr 1826)]) rfl ?_
      refine h_cv (i := 500) (j := 213) (b := 1826) (M' := mt_213) (xs := [.inl (i : Int), .inl 0, .inl (c : Int)]) (rest := []) rfl rfl rfl rfl rfl rfl (Nat.le_of_ble_eq_true rfl) (Nat.le_of_ble_eq_true rfl) (by omega) (m_sizeOf (k := 0) (z := (z0 : Int)) (by omega) hPH1 (by omega) (by rw [cAH1]; omega) (by omega) (by rw [cGH1]; exact VG_sz hGH1 hg0 (by omega) (by omega) hz0)) ?_
      rintro _ _ ⟨rfl, rfl⟩
      refine h_run 0 (pc' := 72) (l' := [(0, .inr (.inr 1826)), (1, .inl (t : Int)), (2, .inl (c : Int)), (3, .inl (n : Int)), (4, .inl (a : Int)), (5, .inl f0), (6, .inl (i : Int))]) (st' := [.inl (z0 : Int)]) rfl ?_
      refine h_run 3 (pc' := 76) (l' := [(0, .inr (.inr 1826)), (1, .inl (t : Int)), (2, .inl (c : Int)), (3, .inl (n : Int)), (4, .inl (a : Int)), (5, .inl f0), (6, .inl (i : Int))]) (st' := [.inl (n : Int), .inl ((z0 : Int) + (a : Int))]) rfl ?_
      refine h_igt (off := 54) (t := 130) rfl rfl (by omega) (by omega) (fun c3 => ?_) (fun c3 => ?_)
      · refine h_ret rfl rfl ?_
        exact ⟨rfl, hf, hVH1, hGH1, fun hH => by by_cases hj0 : 1 ≤ i; { exact hh hH hj0 }; { have h7 := HT_3 hV hFO hH (fun h8 => hcg 2 (by omega)); have h6 := HT_2 hV hFO hH (fun h8 => hcg 1 (by omega)); obtain rfl : i = 0 := (by omega); exfalso; unfold HT at hH; rcases hH with ⟨a1, a2⟩ | ⟨a1, a2, a3⟩ | ⟨a1, a2, a3, a4⟩ | ⟨a1, a2, a3, a4, a5⟩ <;> omega }⟩
      · refine h_run 2 (pc' := 82) (l' := [(0, .inr (.inr 1826)), (1, .inl (t : Int)), (2, .inl (c : Int)), (3, .inl (n : Int)), (4, .inl (a : Int)), (5, .inl f0), (6, .inl (i : Int))]) (st' := [.inl 1, .inl (a : Int)]) rfl ?_
        refine h_ine (off := 33) (t := 115) rfl rfl (by omega) (by decide) (fun c4 => ?_) (fun c4 => ?_)
        · refine h_run 5 (pc' := 121) (l' := [(0, .inr (.inr 1826)), (1, .inl (t : Int)), (2, .inl (c : Int)), (3, .inl (n : Int)), (4, .inl (a : Int)), (5, .inl f0), (6, .inl (i : Int))]) (st' := [.inl (i : Int), .inl (n : Int), .inl (c : Int), .inl (t : Int), .inr (.inr 1826)]) rfl ?_
          have hgx1 : 0 ≤ (H.1 1831) (3 * c + 1) ∧ (H.1 1831) (3 * c + 1) < (H.1 1826 1) := hcg 1 (by omega)
          obtain ⟨g1, hg1⟩ : ∃ q9 : Nat, (H.1 1831) (3 * c + 1) = (q9 : Int) := ⟨((H.1 1831) (3 * c + 1)).toNat, by omega⟩
          refine h_cv (i := 507) (j := 217) (b := 1826) (M' := mt_217) (xs := [.inl (i : Int), .inl (n : Int), .inl (c : Int), .inl (t : Int)]) (rest := []) rfl rfl rfl rfl rfl rfl (Nat.le_of_ble_eq_true rfl) (Nat.le_of_ble_eq_true rfl) (by omega) (m_makeTwo (t := t) (c := c) (n := n) (i := i) (a := a) (g0 := g0) (g1 := g1) (z0 := z0) (by omega) hPH1 (by omega) (by omega) (by omega) hVH1 (by rw [foH1, tyH1]; exact FO_VG hFO hGH1) (by rw [cAH1]; exact ha) (by omega) (by rw [cGH1]; exact hg0) (by rw [cGH1]; exact hg1) (by have := VG_le hGH1 g0; omega) (by rw [cGH1]; exact VG_sz hGH1 hg0 (by omega) (by omega) hz0)) ?_
          rintro _ H5 ⟨rfl, hfH5, hVH5, hxH5, hyH5⟩
          refine h_rng (fun hrg6 => ?_)
          have hf7 : fr [53] [1856, 1861, 1862, 1863] H H5 := fr_t hf hfH5 (by decide) (by decide)
          have hPH5 : PWc H5 := PWc_fr hP hf7 (by decide) (by decide)
          have cGH5 : (H5.1 1831) = (H.1 1831) := hf7.2.1 1831 (by decide) (by decide)
          have cAH5 : (H5.1 1830) = (H.1 1830) := hf7.2.1 1830 (by decide) (by decide)
          have fAH5 : (H5.1 1833) = (H.1 1833) := hf7.2.1 1833 (by decide) (by decide)
          have foH5 : (H5.1 1865) = (H.1 1865) := hf7.2.1 1865 (by decide) (by decide)
          have tyH5 : (H5.1 1826 1) = (H.1 1826 1) := hf7.2.2 1 (by decide)
          have cnH5 : (H5.1 1826 3) = (H.1 1826 3) := hf7.2.2 3 (by decide)
          have fnH5 : (H5.1 1826 8) = (H.1 1826 8) := hf7.2.2 8 (by decide)
          have hGH5 : VG (H.1 1826 1) (H.1 1862) (H.1 1863) (H5.1 1862) (H5.1 1863) t n := by rw [tyH1] at hxH5; exact VG_tr hGH1 hxH5 ht
          have hnH5 : i = 0 → HT (H.1 1862) (H.1 1865) (H.1 1830) (H.1 1831) c n → 0 < (H5.1 1863) t := fun h8 h9 => hyH5 h8 (by rw [foH1, cAH1, cGH1]; exact HT_VG pw1 hc hV hFO hGH1 h9)
          refine h_run 0 (pc' := 124) (l' := [(0, .inr (.inr 1826)), (1, .inl (t : Int)), (2, .inl (c : Int)), (3, .inl (n : Int)), (4, .inl (a : Int)), (5, .inl f0), (6, .inl (i : Int))]) (st' := []) rfl ?_
          refine h_run 2 (pc' := 57) (l' := [(0, .inr (.inr 1826)), (1, .inl (t : Int)), (2, .inl (c : Int)), (3, .inl (n : Int)), (4, .inl (a : Int)), (5, .inl f0), (6, .inl ((i : Int) + 1))]) (st' := []) rfl ?_
          rw [show ((i : Int) + 1) = (((i + 1) : Nat) : Int) by omega]
          exact ih _ (a) f0 (i + 1) (g0) hf7 hVH5 hGH5 ha (by omega) hg0 hf0 (by omega) (fun hH h9 => by by_cases hj0 : 1 ≤ i; { have h8 := hh hH hj0; have h7 := hxH5.2.1; omega }; { exact hnH5 (by omega) hH }) (by omega : 10000 - (i + 1) < w)
        · refine h_run 4 (pc' := 90) (l' := [(0, .inr (.inr 1826)), (1, .inl (t : Int)), (2, .inl (c : Int)), (3, .inl (n : Int)), (4, .inl (a : Int)), (5, .inl f0), (6, .inl (i : Int))]) (st' := [.inl (i : Int), .inl 0, .inl (c : Int), .inr (.inr 1826)]) rfl ?_
          refine h_cv (i := 500) (j := 213) (b := 1826) (M' := mt_213) (xs := [.inl (i : Int), .inl 0, .inl (c : Int)]) (rest := []) rfl rfl rfl rfl rfl rfl (Nat.le_of_ble_eq_true rfl) (Nat.le_of_ble_eq_true rfl) (by omega) (m_sizeOf (k := 0) (z := (z0 : Int)) (by omega) hPH1 (by omega) (by rw [cAH1]; omega) (by omega) (by rw [cGH1]; exact VG_sz hGH1 hg0 (by omega) (by omega) hz0)) ?_
          rintro _ _ ⟨rfl, rfl⟩
          refine h_run 0 (pc' := 93) (l' := [(0, .inr (.inr 1826)), (1, .inl (t : Int)), (2, .inl (c : Int)), (3, .inl (n : Int)), (4, .inl (a : Int)), (5, .inl f0), (6, .inl (i : Int))]) (st' := [.inl (z0 : Int)]) rfl ?_
          refine h_run 3 (pc' := 96) (l' := [(0, .inr (.inr 1826)), (1, .inl (t : Int)), (2, .inl (c : Int)), (3, .inl (n : Int)), (4, .inl (a : Int)), (5, .inl f0), (6, .inl (i : Int))]) (st' := [.inl ((n : Int) - 1), .inl (z0 : Int)]) rfl ?_
          refine h_ine (off := 28) (t := 124) rfl rfl (by omega) (by omega) (fun c8 => ?_) (fun c8 => ?_)
          · refine h_run 2 (pc' := 57) (l' := [(0, .inr (.inr 1826)), (1, .inl (t : Int)), (2, .inl (c : Int)), (3, .inl (n : Int)), (4, .inl (a : Int)), (5, .inl f0), (6, .inl ((i : Int) + 1))]) (st' := []) rfl ?_
            rw [show ((i : Int) + 1) = (((i + 1) : Nat) : Int) by omega]
            exact ih _ (a) f0 (i + 1) (g0) hf hVH1 hGH1 ha (by omega) hg0 hf0 (by omega) (fun hH h9 => by by_cases hj0 : 1 ≤ i; { exact hh hH hj0 }; { obtain rfl : i = 0 := (by omega); exfalso; unfold HT at hH; rcases hH with ⟨a1, a2⟩ | ⟨a1, a2, a3⟩ | ⟨a1, a2, a3, a4⟩ | ⟨a1, a2, a3, a4, a5⟩ <;> omega }) (by omega : 10000 - (i + 1) < w)
          · refine h_run 3 (pc' := 103) (l' := [(0, .inr (.inr 1826)), (1, .inl (t : Int)), (2, .inl (c : Int)), (3, .inl (n : Int)), (4, .inl (a : Int)), (5, .inl f0), (6, .inl (i : Int))]) (st' := [.inl (i : Int), .inl (c : Int), .inr (.inr 1826)]) rfl ?_
            refine h_cv (i := 504) (j := 216) (b := 1826) (M' := mt_216) (xs := [.inl (i : Int), .inl (c : Int)]) (rest := []) rfl rfl rfl rfl rfl rfl (Nat.le_of_ble_eq_true rfl) (Nat.le_of_ble_eq_true rfl) (by omega) (m_begun (g := g0) (z := z0) (a := 0) (by omega) hPH1 (by omega) (by rw [cAH1]; omega) (by rw [cGH1]; exact hg0) (by omega) hVH1 (by have := VG_le hGH1 g0; omega) (by rw [cGH1]; exact VG_sz hGH1 hg0 (by omega) (by omega) hz0)) ?_
            rintro _ H9 ⟨rfl, hfH9, hmsH9, htpH9⟩
            refine h_rng (fun hrg10 => ?_)
            have hf11 : fr [53] [1856, 1861, 1862, 1863] H H9 := fr_t hf hfH9 (by decide) (by decide)
            have hPH9 : PWc H9 := PWc_fr hP hf11 (by decide) (by decide)
            have cGH9 : (H9.1 1831) = (H.1 1831) := hf11.2.1 1831 (by decide) (by decide)
            have cAH9 : (H9.1 1830) = (H.1 1830) := hf11.2.1 1830 (by decide) (by decide)
            have fAH9 : (H9.1 1833) = (H.1 1833) := hf11.2.1 1833 (by decide) (by decide)
            have foH9 : (H9.1 1865) = (H.1 1865) := hf11.2.1 1865 (by decide) (by decide)
            have tyH9 : (H9.1 1826 1) = (H.1 1826 1) := hf11.2.2 1 (by decide)
            have cnH9 : (H9.1 1826 3) = (H.1 1826 3) := hf11.2.2 3 (by decide)
            have fnH9 : (H9.1 1826 8) = (H.1 1826 8) := hf11.2.2 8 (by decide)
            have vzH9 : (H9.1 1862) = (H1.1 1862) := hfH9.2.1 1862 (by decide) (by decide)
            have vcH9 : (H9.1 1863) = (H1.1 1863) := hfH9.2.1 1863 (by decide) (by decide)
            have hVH9 : VK (H9.1 1826 1) (H9.1 1826 3) (H9.1 1826 8) (H9.1 1833) (H9.1 1830) (H9.1 1861) (H9.1 1862) (H9.1 1863) := VK_fr hVH1 hfH9 (by decide) (by decide)
            have hGH9 : VG (H.1 1826 1) (H.1 1862) (H.1 1863) (H9.1 1862) (H9.1 1863) t n := by rw [vzH9, vcH9]; exact hGH1
            have TH9 : tp (ma (H.1 1833) (H.1 1830)) (m_sg (H.1 1826 3) (H.1 1826 8) 0) (H9.1 1856) (1 + z0) 0 1 0 := by have h9 := htpH9; rw [fAH1, cAH1, cnH1, fnH1] at h9; exact h9
            refine h_run 0 (pc' := 106) (l' := [(0, .inr (.inr 1826)), (1, .inl (t : Int)), (2, .inl (c : Int)), (3, .inl (n : Int)), (4, .inl (a : Int)), (5, .inl f0), (6, .inl (i : Int))]) (st' := []) rfl ?_
            refine h_run 3 (pc' := 109) (l' := [(0, .inr (.inr 1826)), (1, .inl (t : Int)), (2, .inl (c : Int)), (3, .inl (n : Int)), (4, .inl (a : Int)), (5, .inl f0), (6, .inl (i : Int))]) (st' := [.inl (n : Int), .inl (t : Int), .inr (.inr 1826)]) rfl ?_
            refine h_cv (i := 493) (j := 211) (b := 1826) (M' := mt_211) (xs := [.inl (n : Int), .inl (t : Int)]) (rest := []) rfl rfl rfl rfl rfl rfl (Nat.le_of_ble_eq_true rfl) (Nat.le_of_ble_eq_true rfl) (by omega) (m_addValue (t := t) (n := n) (by omega) hPH9 (by omega) (by omega) hVH9 (by rw [fAH9, cAH9, cnH9, fnH9]; exact tp_n TH9 (by omega))) ?_
            rintro _ H12 ⟨rfl, hfH12, hVH12, hxH12, hnH12⟩
            refine h_rng (fun hrg13 => ?_)
            have hf14 : fr [53] [1856, 1861, 1862, 1863] H H12 := fr_t hf11 hfH12 (by decide) (by decide)
            have hPH12 : PWc H12 := PWc_fr hP hf14 (by decide) (by decide)
            have cGH12 : (H12.1 1831) = (H.1 1831) := hf14.2.1 1831 (by decide) (by decide)
            have cAH12 : (H12.1 1830) = (H.1 1830) := hf14.2.1 1830 (by decide) (by decide)
            have fAH12 : (H12.1 1833) = (H.1 1833) := hf14.2.1 1833 (by decide) (by decide)
            have foH12 : (H12.1 1865) = (H.1 1865) := hf14.2.1 1865 (by decide) (by decide)
            have tyH12 : (H12.1 1826 1) = (H.1 1826 1) := hf14.2.2 1 (by decide)
            have cnH12 : (H12.1 1826 3) = (H.1 1826 3) := hf14.2.2 3 (by decide)
            have fnH12 : (H12.1 1826 8) = (H.1 1826 8) := hf14.2.2 8 (by decide)
            have hGH12 : VG (H.1 1826 1) (H.1 1862) (H.1 1863) (H12.1 1862) (H12.1 1863) t n := by rw [tyH9] at hxH12; exact VG_tr hGH9 hxH12 ht
            refine h_run 0 (pc' := 112) (l' := [(0, .inr (.inr 1826)), (1, .inl (t : Int)), (2, .inl (c : Int)), (3, .inl (n : Int)), (4, .inl (a : Int)), (5, .inl f0), (6, .inl (i : Int))]) (st' := []) rfl ?_
            refine h_run 3 (pc' := 57) (l' := [(0, .inr (.inr 1826)), (1, .inl (t : Int)), (2, .inl (c : Int)), (3, .inl (n : Int)), (4, .inl (a : Int)), (5, .inl f0), (6, .inl ((i : Int) + 1))]) (st' := []) rfl ?_
            rw [show ((i : Int) + 1) = (((i + 1) : Nat) : Int) by omega]
            exact ih _ (a) f0 (i + 1) (g0) hf14 hVH12 hGH12 ha (by omega) hg0 hf0 (by omega) (fun _ _ => hnH12) (by omega : 10000 - (i + 1) < w)
set_option maxRecDepth 100000 in
theorem m_makeCon {zC : Nat → Option zsh} {d : Nat} (hd : 8 ≤ d) {H : hp} {t c n : Nat} (hP : PWc H) (hc : (c : Int) < (H.1 1826 3)) (ht : (t : Int) < (H.1 1826 1)) (hn : 1 ≤ n ∧ n ≤ 6) (hV : VK (H.1 1826 1) (H.1 1826 3) (H.1 1826 8) (H.1 1833) (H.1 1830) (H.1 1861) (H.1 1862) (H.1 1863)) (hFO : FO (H.1 1826 1) (H.1 1865) (H.1 1863) n) : hG (zs zC) d mt_215 0 (zargs 0 [.inr (.inr 1826), .inl (t : Int), .inl (c : Int), .inl (n : Int)]) [] H (fun r9 H2 => r9 = none ∧ fr [53] [1856, 1861, 1862, 1863] H H2 ∧ VK (H2.1 1826 1) (H2.1 1826 3) (H2.1 1826 8) (H2.1 1833) (H2.1 1830) (H2.1 1861) (H2.1 1862) (H2.1 1863) ∧ VG (H.1 1826 1) (H.1 1862) (H.1 1863) (H2.1 1862) (H2.1 1863) t n ∧ (HT (H.1 1862) (H.1 1865) (H.1 1830) (H.1 1831) c n → 0 < (H2.1 1863) t)) := by
  refine h_rng (fun hrg0 => ?_)
  refine h_run 0 (pc' := 0) (l' := [(0, .inr (.inr 1826)), (1, .inl (t : Int)), (2, .inl (c : Int)), (3, .inl (n : Int))]) (st' := []) rfl ?_
  have hPH := hP
  have hVH := hV
  have hGH : VG (H.1 1826 1) (H.1 1862) (H.1 1863) (H.1 1862) (H.1 1863) t n := VG_rf
  have cGH : (H.1 1831) = (H.1 1831) := rfl
  have cAH : (H.1 1830) = (H.1 1830) := rfl
  have foH : (H.1 1865) = (H.1 1865) := rfl
  obtain ⟨⟨pb1, pb2, pb3, pb4, pb5⟩, pw1, pw2, pw3, pw4⟩ := (id hP : PW H (H.1 1826 1) (H.1 1826 3) (H.1 1826 8) (H.1 1826 13) (H.1 1826 19))
  obtain ⟨hca, hct, hcg⟩ := pw1 c (by omega)
  obtain ⟨a, ha⟩ : ∃ q9 : Nat, (H.1 1830) c = (q9 : Int) := ⟨((H.1 1830) c).toNat, by omega⟩
  refine h_run 3 (pc' := 5) (l' := [(0, .inr (.inr 1826)), (1, .inl (t : Int)), (2, .inl (c : Int)), (3, .inl (n : Int))]) (st' := [.inl (c : Int), .inr (.inr 1830)]) rfl ?_
  refine h_ild (c := 1830) (j := c) (i := (c : Int)) rfl rfl (by decide) rfl (by omega) ?_
  have g15 : -2147483648 ≤ (H.1 1830 c) ∧ (H.1 1830 c) ≤ 2147483647 := hrg0.2 1830 c 16 .int rfl (by omega)
  refine h_run 0 (pc' := 6) (l' := [(0, .inr (.inr 1826)), (1, .inl (t : Int)), (2, .inl (c : Int)), (3, .inl (n : Int))]) (st' := [.inl (H.1 1830 c)]) rfl ?_
  refine h_run 2 (pc' := 10) (l' := [(0, .inr (.inr 1826)), (1, .inl (t : Int)), (2, .inl (c : Int)), (3, .inl (n : Int)), (4, .inl (H.1 1830 c))]) (st' := [.inl (H.1 1830 c)]) rfl ?_
  refine h_zne (off := 24) (t := 34) rfl rfl (by omega) (fun c16 => ?_) (fun c16 => ?_)
  · have hgx0 : 0 ≤ (H.1 1831) (3 * c + 0) ∧ (H.1 1831) (3 * c + 0) < (H.1 1826 1) := hcg 0 (by omega)
    have hgy0 : 0 ≤ (H.1 1831) (3 * c) ∧ (H.1 1831) (3 * c) < (H.1 1826 1) := hgx0
    obtain ⟨g0, hg0⟩ : ∃ q9 : Nat, (H.1 1831) (3 * c + 0) = (q9 : Int) := ⟨((H.1 1831) (3 * c + 0)).toNat, by omega⟩
    refine h_run 8 (pc' := 47) (l' := [(0, .inr (.inr 1826)), (1, .inl (t : Int)), (2, .inl (c : Int)), (3, .inl (n : Int)), (4, .inl (H.1 1830 c))]) (st' := [.inl (3 * (c : Int)), .inr (.inr 1831), .inl 8, .inr (.inr 1865)]) rfl ?_
    refine h_ild (c := 1831) (j := (3 * c)) (i := (3 * (c : Int))) rfl rfl (by decide) (by omega) (by omega) ?_
    have g17 : -2147483648 ≤ (H.1 1831 (3 * c)) ∧ (H.1 1831 (3 * c)) ≤ 2147483647 := hrg0.2 1831 (3 * c) 48 .int rfl (by omega)
    refine h_run 0 (pc' := 48) (l' := [(0, .inr (.inr 1826)), (1, .inl (t : Int)), (2, .inl (c : Int)), (3, .inl (n : Int)), (4, .inl (H.1 1830 c))]) (st' := [.inl (H.1 1831 (3 * c)), .inl 8, .inr (.inr 1865)]) rfl ?_
    refine h_run 3 (pc' := 51) (l' := [(0, .inr (.inr 1826)), (1, .inl (t : Int)), (2, .inl (c : Int)), (3, .inl (n : Int)), (4, .inl (H.1 1830 c))]) (st' := [.inl ((8 * (H.1 1831 (3 * c))) + (n : Int)), .inr (.inr 1865)]) rfl ?_
    refine h_ild (c := 1865) (j := (((8 * (H.1 1831 (3 * c))) + (n : Int))).toNat) (i := ((8 * (H.1 1831 (3 * c))) + (n : Int))) rfl rfl (by decide) (by omega) (by omega) ?_
    have g18 : -2147483648 ≤ (H.1 1865 (((8 * (H.1 1831 (3 * c))) + (n : Int))).toNat) ∧ (H.1 1865 (((8 * (H.1 1831 (3 * c))) + (n : Int))).toNat) ≤ 2147483647 := hrg0.2 1865 (((8 * (H.1 1831 (3 * c))) + (n : Int))).toNat 64 .int rfl (by omega)
    refine h_run 0 (pc' := 52) (l' := [(0, .inr (.inr 1826)), (1, .inl (t : Int)), (2, .inl (c : Int)), (3, .inl (n : Int)), (4, .inl (H.1 1830 c))]) (st' := [.inl (H.1 1865 (((8 * (H.1 1831 (3 * c))) + (n : Int))).toNat)]) rfl ?_
    refine h_run 3 (pc' := 57) (l' := [(0, .inr (.inr 1826)), (1, .inl (t : Int)), (2, .inl (c : Int)), (3, .inl (n : Int)), (4, .inl (H.1 1830 c)), (5, .inl (H.1 1865 (((8 * (H.1 1831 (3 * c))) + (n : Int))).toNat)), (6, .inl 0)]) (st' := []) rfl ?_
    rw [show (H.1 1830 c) = (((a) : Nat) : Int) by omega]
    exact (m_makeCon_cut hd hP hc ht hn hV hFO _) _ (a) (H.1 1865 (((8 * (H.1 1831 (3 * c))) + (n : Int))).toNat) 0 (g0) (fr_rf _ _ _) hVH hGH ha (by omega) hg0 rfl (by omega) (fun _ h9 => absurd h9 (by omega)) (Nat.lt_succ_self _)
  · refine h_run 2 (pc' := 15) (l' := [(0, .inr (.inr 1826)), (1, .inl (t : Int)), (2, .inl (c : Int)), (3, .inl (n : Int)), (4, .inl (H.1 1830 c))]) (st' := [.inl 1, .inl (n : Int)]) rfl ?_
    refine h_ine (off := 18) (t := 33) rfl rfl (by omega) (by decide) (fun c19 => ?_) (fun c19 => ?_)
    · refine h_ret rfl rfl ?_
      exact ⟨rfl, (fr_rf _ _ _), hV, VG_rf, fun hH => by exfalso; unfold HT at hH; rcases hH with ⟨a1, a2⟩ | ⟨a1, a2, a3⟩ | ⟨a1, a2, a3, a4⟩ | ⟨a1, a2, a3, a4, a5⟩ <;> omega⟩
    · refine h_run 6 (pc' := 26) (l' := [(0, .inr (.inr 1826)), (1, .inl (t : Int)), (2, .inl (c : Int)), (3, .inl (n : Int)), (4, .inl (H.1 1830 c))]) (st' := [.inl (1 + (c : Int)), .inl 0, .inr (.inr 1856)]) rfl ?_
      refine h_ist (c := 1856) (j := 0) (i := 0) (x := (1 + (c : Int))) rfl rfl (by decide) (by decide) rfl (by omega) (by omega) ?_
      refine h_run 3 (pc' := 30) (l' := [(0, .inr (.inr 1826)), (1, .inl (t : Int)), (2, .inl (c : Int)), (3, .inl (n : Int)), (4, .inl (H.1 1830 c))]) (st' := [.inl 1, .inl (t : Int), .inr (.inr 1826)]) rfl ?_
      have hP9 : PWc (zu H 1856 (up (H.1 1856) 0 (1 + (c : Int)))) := (PWc_a hP (by decide))
      refine h_cv (i := 493) (j := 211) (b := 1826) (M' := mt_211) (xs := [.inl 1, .inl (t : Int)]) (rest := []) rfl rfl rfl rfl rfl rfl (Nat.le_of_ble_eq_true rfl) (Nat.le_of_ble_eq_true rfl) (by omega) (m_addValue (t := t) (n := 1) (by omega) hP9 ht (by decide) hV (tp_n (tp_1 hc (by omega : (H.1 1826 3) ≤ 16) (show up (H.1 1856) 0 (1 + (c : Int)) 0 = _ from up_eq _ _ _) (show (H.1 1830) c = ((0 : Nat) : Int) by omega) (by decide)) rfl)) ?_
      rintro _ H20 ⟨rfl, hfH20, hVH20, hxH20, hnH20⟩
      refine h_rng (fun hrg21 => ?_)
      have hf22 : fr [53] [1856, 1861, 1862, 1863] H H20 := fr_t (fr_a (fr_rf _ _ _) (by decide)) hfH20 (by decide) (by decide)
      have hGH20 : VG (H.1 1826 1) (H.1 1862) (H.1 1863) (H20.1 1862) (H20.1 1863) t n := by rw [show n = 1 by omega]; exact hxH20
      refine h_run 0 (pc' := 33) (l' := [(0, .inr (.inr 1826)), (1, .inl (t : Int)), (2, .inl (c : Int)), (3, .inl (n : Int)), (4, .inl (H.1 1830 c))]) (st' := []) rfl ?_
      refine h_ret rfl rfl ?_
      exact ⟨rfl, hf22, hVH20, hGH20, fun _ => hnH20⟩
