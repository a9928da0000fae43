/-! the reference lists a constructor's values, told exactly -/
theorem tk_s {L : vls} {j : Nat} {w : List Int} (h : L[j]? = some w) : L.take (j + 1) = L.take j ++ [w] := by
  rw [List.take_add_one, h]
  rfl
theorem fmL_s {f : List Int → vls} {L : vls} {j : Nat} {w : List Int} (h : L[j]? = some w) : fmL f (L.take (j + 1)) = fmL f (L.take j) ++ f w := by
  rw [tk_s h, fmL_app]
  show _ ++ (f w ++ []) = _
  rw [List.append_nil]
theorem pw_drop {L : vls} {j : Nat} {w v : List Int} (hp : List.Pairwise (fun v w : List Int => v.length ≤ w.length) L) (hw : L[j]? = some w) (hv : v ∈ L.drop j) : w.length ≤ v.length := by
  rw [List.mem_iff_getElem?] at hv
  obtain ⟨k, hk⟩ := hv
  rw [List.getElem?_drop] at hk
  by_cases e : k = 0
  · subst e
    rw [Nat.add_zero, hw] at hk
    cases hk
    exact Nat.le_refl _
  · obtain ⟨h1, h2⟩ := List.getElem?_eq_some_iff.mp hw
    obtain ⟨h3, h4⟩ := List.getElem?_eq_some_iff.mp hk
    rw [← h2, ← h4]
    exact List.pairwise_iff_getElem.mp hp j (j + k) h1 h3 (by omega)
theorem fmL_rest {f : List Int → vls} {L : vls} {j : Nat} (h : ∀ v, v ∈ L.drop j → f v = []) : fmL f (L.take j) = fmL f L := by
  have e : fmL f L = fmL f (L.take j) ++ fmL f (L.drop j) := by rw [← fmL_app, List.take_append_drop]
  rw [e, fmL_emp h, List.append_nil]
theorem fmL_all {f : List Int → vls} {L : vls} {j : Nat} (h : L.length ≤ j) : fmL f (L.take j) = fmL f L := by
  rw [List.take_of_length_le h]
/-- the last argument -/
def g0T (n : Nat) : vls := if n = 0 then [[]] else []
theorem gF_hit {m : Nat} {w : List Int} (h : w.length = m) : gF g0T m w = [w] := by
  unfold gF g0T
  rw [if_pos (by omega), if_pos (by omega)]
  show [w ++ []] = [w]
  rw [List.append_nil]
theorem gF_mis {m : Nat} {w : List Int} (h : w.length ≠ m) : gF g0T m w = [] := by
  unfold gF g0T
  split
  · rw [if_neg (by omega)]
    rfl
  · rfl
theorem gF_in {T : Nat → vls} {m : Nat} {w : List Int} (h : w.length ≤ m) : gF T m w = (T (m - w.length)).map (fun r => w ++ r) := if_pos h
/-- rows of the arguments behind the first -/
def T2v (Lr : Nat → vls) (g2 : Nat) (m : Nat) : vls := fmL (gF g0T m) (Lr g2)
theorem T2_0 {Lr : Nat → vls} {g2 : Nat} (h : ∀ v, v ∈ Lr g2 → 1 ≤ v.length) : T2v Lr g2 0 = [] := fmL_emp (fun v hv => gF_mis (by have := h v hv; omega))
theorem map_one {pre : List Int} {A : vls} {x : List Int} : (A ++ [x]).map (fun r => pre ++ r) = A.map (fun r => pre ++ r) ++ [pre ++ x] := by
  rw [List.map_append]
  rfl
theorem VS_cg {tn : Int} {va vz vc : Nat → Int} {Ls Ls' : Nat → vls} (h : VS tn va vz vc Ls) (e : Ls = Ls') : VS tn va vz vc Ls' := e ▸ h
theorem RLs_1 {tn : Int} {va vz vc fo : Nat → Int} {n : Nat} {Ls Lr : Nat → vls} (h : VS tn va vz vc Ls) (g : PX tn fo n Ls Lr) {u : Nat} (hu : (u : Int) < tn) {v : List Int} (hv : v ∈ Lr u) : 1 ≤ v.length ∧ v.length ≤ 6 := by
  obtain ⟨i, hi⟩ := List.mem_iff_getElem?.mp hv
  exact ((h u hu).2.2 i v (PX_get g hu hi)).1

/-! makeTwo -/
set_option maxRecDepth 100000 in
theorem n_makeTwo_cut {zC : Nat → Option zsh} {d : Nat} (hd : 6 ≤ d) {H : hp} {Ls Lr : Nat → vls} {v : List Int} {t c n i a g0 g1 g2 : Nat} (hP : PWc H) (hc : (c : Int) < (H.1 1826 3)) (ht : (t : Int) < (H.1 1826 1)) (hn : 1 ≤ n ∧ n ≤ 6) (hV : VS (H.1 1826 1) (H.1 1861) (H.1 1862) (H.1 1863) Ls) (hX : PX (H.1 1826 1) (H.1 1865) n Ls Lr) (ha : (H.1 1830) c = (a : Int)) (ha2 : 2 ≤ a ∧ a ≤ 3) (hg0 : (H.1 1831) (3 * c + 0) = (g0 : Int)) (hg1 : (H.1 1831) (3 * c + 1) = (g1 : Int)) (hg2 : a = 3 → (H.1 1831) (3 * c + 2) = (g2 : Int)) (hget0 : (Lr g0)[i]? = some v) (hvn : v.length + a ≤ n) : ∀ w : Nat, (∀ (H1 : hp) (b9 : Nat) (f1 : Int) (j : Nat), (fr [53] [1856, 1861, 1862, 1863] H H1) → (VS (H1.1 1826 1) (H1.1 1861) (H1.1 1862) (H1.1 1863) (adL Ls t ((fmL (gF (if a = 2 then g0T else T2v Lr g2) (n - 1 - v.length)) ((Lr g1).take j)).map (fun r => ((1 + (c : Int)) :: v) ++ r)))) → (b9 = 1 + v.length) → (f1 = (H.1 1865) (8 * (H.1 1831) (3 * c + 1) + (n : Int)).toNat) → (j ≤ 2001) → 10000000 - 4000 * j < w → hG (zs zC) d mt_217 45 [(0, .inr (.inr 1826)), (1, .inl (t : Int)), (2, .inl (c : Int)), (3, .inl (n : Int)), (4, .inl (i : Int)), (5, .inl (a : Int)), (6, .inl (b9 : Int)), (7, .inl f1), (8, .inl (j : Int))] [] H1 (fun r9 H2 => r9 = none ∧ fr [53] [1856, 1861, 1862, 1863] H H2 ∧ VS (H2.1 1826 1) (H2.1 1861) (H2.1 1862) (H2.1 1863) (adL Ls t ((fmL (gF (if a = 2 then g0T else T2v Lr g2) (n - 1 - v.length)) (Lr g1)).map (fun r => ((1 + (c : Int)) :: v) ++ r))))) ∧ (∀ (H1 : hp) (b9 : Nat) (f1 : Int) (j : Nat) (b8 : Nat) (f2 : Int) (k : Nat) (wv : List Int), (fr [53] [1856, 1861, 1862, 1863] H H1) → (VS (H1.1 1826 1) (H1.1 1861) (H1.1 1862) (H1.1 1863) (adL Ls t ((fmL (gF (if a = 2 then g0T else T2v Lr g2) (n - 1 - v.length)) ((Lr g1).take j)).map (fun r => ((1 + (c : Int)) :: v) ++ r) ++ ((fmL (gF g0T ((n - 1 - v.length) - wv.length)) ((Lr g2).take k)).map (fun r => wv ++ r)).map (fun r => ((1 + (c : Int)) :: v) ++ r)))) → (b9 = 1 + v.length) → (f1 = (H.1 1865) (8 * (H.1 1831) (3 * c + 1) + (n : Int)).toNat) → ((j : Int) < f1) → ((Lr g1)[j]? = some wv) → (b8 = 1 + v.length + wv.length ∧ b8 + 1 ≤ n) → (f2 = (H.1 1865) (8 * (H.1 1831) (3 * c + 2) + (n : Int)).toNat) → (a = 3) → (k ≤ 2001) → 10000000 - 4000 * j - 100 - k < w → hG (zs zC) d mt_217 146 [(0, .inr (.inr 1826)), (1, .inl (t : Int)), (2, .inl (c : Int)), (3, .inl (n : Int)), (4, .inl (i : Int)), (5, .inl (a : Int)), (6, .inl (b9 : Int)), (7, .inl f1), (8, .inl (j : Int)), (9, .inl (b8 : Int)), (10, .inl f2), (11, .inl (k : Int))] [] H1 (fun r9 H2 => r9 = none ∧ fr [53] [1856, 1861, 1862, 1863] H H2 ∧ VS (H2.1 1826 1) (H2.1 1861) (H2.1 1862) (H2.1 1863) (adL Ls t ((fmL (gF (if a = 2 then g0T else T2v Lr g2) (n - 1 - v.length)) (Lr g1)).map (fun r => ((1 + (c : Int)) :: v) ++ r))))) := by
  intro w
  induction w with
  | zero => exact ⟨fun _ _ _ _ _ _ _ _ _ h => absurd h (Nat.not_lt_zero _), fun _ _ _ _ _ _ _ _ _ _ _ _ _ _ _ _ _ _ h => absurd h (Nat.not_lt_zero _)⟩
  | succ w ih =>
    refine ⟨?_, ?_⟩
    · intro H1 b9 f1 j hf hVH1 hb9 hf1 hj hw
      refine h_rng (fun hrg1 => ?_)
      have hPH1 : PWc H1 := PWc_fr hP hf (by decide) (by decide)
      have cGH1 : (H1.1 1831) = (H.1 1831) := hf.2.1 1831 (by decide) (by decide)
      have cAH1 : (H1.1 1830) = (H.1 1830) := hf.2.1 1830 (by decide) (by decide)
      have fAH1 : (H1.1 1833) = (H.1 1833) := hf.2.1 1833 (by decide) (by decide)
      have foH1 : (H1.1 1865) = (H.1 1865) := hf.2.1 1865 (by decide) (by decide)
      have tyH1 : (H1.1 1826 1) = (H.1 1826 1) := hf.2.2 1 (by decide)
      have cnH1 : (H1.1 1826 3) = (H.1 1826 3) := hf.2.2 3 (by decide)
      have fnH1 : (H1.1 1826 8) = (H.1 1826 8) := hf.2.2 8 (by decide)
      obtain ⟨⟨pb1, pb2, pb3, pb4, pb5⟩, pw1, pw2, pw3, pw4⟩ := (id hP : PW H (H.1 1826 1) (H.1 1826 3) (H.1 1826 8) (H.1 1826 13) (H.1 1826 19))
      obtain ⟨hca, hct, hcg⟩ := pw1 c (by omega)
      have hgx1 : 0 ≤ (H.1 1831) (3 * c + 1) ∧ (H.1 1831) (3 * c + 1) < (H.1 1826 1) := hcg 1 (by omega)
      have hgx0 : 0 ≤ (H.1 1831) (3 * c + 0) ∧ (H.1 1831) (3 * c + 0) < (H.1 1826 1) := hcg 0 (by omega)
      have hF1 := (hX g1 (by omega)).1
      have hL1 : (Lr g1).length ≤ 2001 := by obtain ⟨r9, q9⟩ := (hX g1 (by omega)).2.1; have q8 := VS_len hV g1 (by omega); rw [q9, List.length_append] at q8; omega
      have hq1 : (H.1 1865) (8 * (H.1 1831) (3 * c + 1) + (n : Int)).toNat = (H.1 1865) (8 * g1 + n) := fo_q hg1
      have hv16 := RLs_1 hV hX (u := g0) (by omega) (List.mem_of_getElem? hget0)
      have hil : i < 2001 := by have q7 := (List.getElem?_eq_some_iff.mp (PX_get hX (u := g0) (by omega) hget0)).1; have q8 := VS_len hV g0 (by omega); omega
      have hXH1 : PX (H1.1 1826 1) (H1.1 1865) n (adL Ls t ((fmL (gF (if a = 2 then g0T else T2v Lr g2) (n - 1 - v.length)) ((Lr g1).take j)).map (fun r => ((1 + (c : Int)) :: v) ++ r))) Lr := by rw [tyH1, foH1]; exact PX_ad hX (VS_len hV)
      refine h_run 2 (pc' := 49) (l' := [(0, .inr (.inr 1826)), (1, .inl (t : Int)), (2, .inl (c : Int)), (3, .inl (n : Int)), (4, .inl (i : Int)), (5, .inl (a : Int)), (6, .inl (b9 : Int)), (7, .inl f1), (8, .inl (j : Int))]) (st' := [.inl f1, .inl (j : Int)]) rfl ?_
      refine h_ige (off := 175) (t := 224) rfl rfl (by omega) (by omega) (fun c2 => ?_) (fun c2 => ?_)
      · refine h_ret rfl rfl ?_
        refine ⟨rfl, hf, VS_cg hVH1 ?_⟩
        congr 2
        first | exact fmL_all (by omega) | exact fmL_rest (fun v9 h9 => by have q9 := pw_drop (hX g1 (by omega)).2.2 hget1 h9; by_cases q8 : a = 2; { rw [if_pos q8]; exact gF_mis (by omega) }; { have hgx2 : 0 ≤ (H.1 1831) (3 * c + 2) ∧ (H.1 1831) (3 * c + 2) < (H.1 1826 1) := hcg 2 (by omega); rw [if_neg q8]; by_cases q7 : v9.length ≤ (n - 1 - v.length); { rw [gF_in q7, show (n - 1 - v.length) - v9.length = 0 by omega, T2_0 (fun v8 h8 => (RLs_1 hV hX (by omega) h8).1)]; rfl }; { exact if_neg q7 } })
      · obtain ⟨wv, hget1⟩ : ∃ wv, (Lr g1)[j]? = some wv := ⟨_, List.getElem?_eq_getElem (show j < (Lr g1).length by omega)⟩
        have hw16 := RLs_1 hV hX (u := g1) (by omega) (List.mem_of_getElem? hget1)
        refine h_run 5 (pc' := 59) (l' := [(0, .inr (.inr 1826)), (1, .inl (t : Int)), (2, .inl (c : Int)), (3, .inl (n : Int)), (4, .inl (i : Int)), (5, .inl (a : Int)), (6, .inl (b9 : Int)), (7, .inl f1), (8, .inl (j : Int))]) (st' := [.inl (j : Int), .inl 1, .inl (c : Int), .inr (.inr 1826), .inl (b9 : Int)]) rfl ?_
        refine h_cv (i := 500) (j := 213) (b := 1826) (M' := mt_213) (xs := [.inl (j : Int), .inl 1, .inl (c : Int)]) (rest := [.inl (b9 : Int)]) rfl rfl rfl rfl rfl rfl (Nat.le_of_ble_eq_true rfl) (Nat.le_of_ble_eq_true rfl) (by omega) (m_sizeOf (k := 1) (z := (wv.length : Int)) (by omega) hPH1 (by omega) (by rw [cAH1]; omega) (by omega) (VS_sz hVH1 (by rw [cGH1]; exact hg1) (by omega) (PX_get hXH1 (by omega) hget1))) ?_
        rintro _ _ ⟨rfl, rfl⟩
        refine h_run 0 (pc' := 62) (l' := [(0, .inr (.inr 1826)), (1, .inl (t : Int)), (2, .inl (c : Int)), (3, .inl (n : Int)), (4, .inl (i : Int)), (5, .inl (a : Int)), (6, .inl (b9 : Int)), (7, .inl f1), (8, .inl (j : Int))]) (st' := [.inl (wv.length : Int), .inl (b9 : Int)]) rfl ?_
        refine h_run 6 (pc' := 69) (l' := [(0, .inr (.inr 1826)), (1, .inl (t : Int)), (2, .inl (c : Int)), (3, .inl (n : Int)), (4, .inl (i : Int)), (5, .inl (a : Int)), (6, .inl (b9 : Int)), (7, .inl f1), (8, .inl (j : Int))]) (st' := [.inl (n : Int), .inl ((((b9 : Int) + (wv.length : Int)) + (a : Int)) - 2)]) rfl ?_
        refine h_igt (off := 155) (t := 224) rfl rfl (by omega) (by omega) (fun c3 => ?_) (fun c3 => ?_)
        · refine h_ret rfl rfl ?_
          refine ⟨rfl, hf, VS_cg hVH1 ?_⟩
          congr 2
          first | exact fmL_all (by omega) | exact fmL_rest (fun v9 h9 => by have q9 := pw_drop (hX g1 (by omega)).2.2 hget1 h9; by_cases q8 : a = 2; { rw [if_pos q8]; exact gF_mis (by omega) }; { have hgx2 : 0 ≤ (H.1 1831) (3 * c + 2) ∧ (H.1 1831) (3 * c + 2) < (H.1 1826 1) := hcg 2 (by omega); rw [if_neg q8]; by_cases q7 : v9.length ≤ (n - 1 - v.length); { rw [gF_in q7, show (n - 1 - v.length) - v9.length = 0 by omega, T2_0 (fun v8 h8 => (RLs_1 hV hX (by omega) h8).1)]; rfl }; { exact if_neg q7 } })
        · refine h_run 5 (pc' := 79) (l' := [(0, .inr (.inr 1826)), (1, .inl (t : Int)), (2, .inl (c : Int)), (3, .inl (n : Int)), (4, .inl (i : Int)), (5, .inl (a : Int)), (6, .inl (b9 : Int)), (7, .inl f1), (8, .inl (j : Int))]) (st' := [.inl (j : Int), .inl 1, .inl (c : Int), .inr (.inr 1826), .inl (b9 : Int)]) rfl ?_
          refine h_cv (i := 500) (j := 213) (b := 1826) (M' := mt_213) (xs := [.inl (j : Int), .inl 1, .inl (c : Int)]) (rest := [.inl (b9 : Int)]) rfl rfl rfl rfl rfl rfl (Nat.le_of_ble_eq_true rfl) (Nat.le_of_ble_eq_true rfl) (by omega) (m_sizeOf (k := 1) (z := (wv.length : Int)) (by omega) hPH1 (by omega) (by rw [cAH1]; omega) (by omega) (VS_sz hVH1 (by rw [cGH1]; exact hg1) (by omega) (PX_get hXH1 (by omega) hget1))) ?_
          rintro _ _ ⟨rfl, rfl⟩
          refine h_run 0 (pc' := 82) (l' := [(0, .inr (.inr 1826)), (1, .inl (t : Int)), (2, .inl (c : Int)), (3, .inl (n : Int)), (4, .inl (i : Int)), (5, .inl (a : Int)), (6, .inl (b9 : Int)), (7, .inl f1), (8, .inl (j : Int))]) (st' := [.inl (wv.length : Int), .inl (b9 : Int)]) rfl ?_
          refine h_run 4 (pc' := 88) (l' := [(0, .inr (.inr 1826)), (1, .inl (t : Int)), (2, .inl (c : Int)), (3, .inl (n : Int)), (4, .inl (i : Int)), (5, .inl (a : Int)), (6, .inl (b9 : Int)), (7, .inl f1), (8, .inl (j : Int)), (9, .inl ((b9 : Int) + (wv.length : Int)))]) (st' := [.inl 2, .inl (a : Int)]) rfl ?_
          refine h_ine (off := 33) (t := 121) rfl rfl (by omega) (by decide) (fun c4 => ?_) (fun c4 => ?_)
          · have hgx2 : 0 ≤ (H.1 1831) (3 * c + 2) ∧ (H.1 1831) (3 * c + 2) < (H.1 1826 1) := hcg 2 (by omega)
            have hcx2 := congrFun cGH1 (3 * c + 2)
            have hg2x := hg2 (by omega)
            refine h_run 10 (pc' := 136) (l' := [(0, .inr (.inr 1826)), (1, .inl (t : Int)), (2, .inl (c : Int)), (3, .inl (n : Int)), (4, .inl (i : Int)), (5, .inl (a : Int)), (6, .inl (b9 : Int)), (7, .inl f1), (8, .inl (j : Int)), (9, .inl ((b9 : Int) + (wv.length : Int)))]) (st' := [.inl ((3 * (c : Int)) + 2), .inr (.inr 1831), .inl 8, .inr (.inr 1865)]) rfl ?_
            refine h_ild (c := 1831) (j := ((3 * c) + 2)) (i := ((3 * (c : Int)) + 2)) rfl rfl (by decide) (by omega) (by omega) ?_
            have g5 : -2147483648 ≤ (H1.1 1831 ((3 * c) + 2)) ∧ (H1.1 1831 ((3 * c) + 2)) ≤ 2147483647 := hrg1.2 1831 ((3 * c) + 2) 48 .int rfl (by omega)
            have e6 : (H1.1 1831 ((3 * c) + 2)) = (H.1 1831 ((3 * c) + 2)) := congrFun (hf.2.1 1831 (by decide) (by decide)) ((3 * c) + 2)
            refine h_run 0 (pc' := 137) (l' := [(0, .inr (.inr 1826)), (1, .inl (t : Int)), (2, .inl (c : Int)), (3, .inl (n : Int)), (4, .inl (i : Int)), (5, .inl (a : Int)), (6, .inl (b9 : Int)), (7, .inl f1), (8, .inl (j : Int)), (9, .inl ((b9 : Int) + (wv.length : Int)))]) (st' := [.inl (H1.1 1831 ((3 * c) + 2)), .inl 8, .inr (.inr 1865)]) rfl ?_
            refine h_run 3 (pc' := 140) (l' := [(0, .inr (.inr 1826)), (1, .inl (t : Int)), (2, .inl (c : Int)), (3, .inl (n : Int)), (4, .inl (i : Int)), (5, .inl (a : Int)), (6, .inl (b9 : Int)), (7, .inl f1), (8, .inl (j : Int)), (9, .inl ((b9 : Int) + (wv.length : Int)))]) (st' := [.inl ((8 * (H1.1 1831 ((3 * c) + 2))) + (n : Int)), .inr (.inr 1865)]) rfl ?_
            refine h_ild (c := 1865) (j := (((8 * (H1.1 1831 ((3 * c) + 2))) + (n : Int))).toNat) (i := ((8 * (H1.1 1831 ((3 * c) + 2))) + (n : Int))) rfl rfl (by decide) (by omega) (by omega) ?_
            have g7 : -2147483648 ≤ (H1.1 1865 (((8 * (H1.1 1831 ((3 * c) + 2))) + (n : Int))).toNat) ∧ (H1.1 1865 (((8 * (H1.1 1831 ((3 * c) + 2))) + (n : Int))).toNat) ≤ 2147483647 := hrg1.2 1865 (((8 * (H1.1 1831 ((3 * c) + 2))) + (n : Int))).toNat 64 .int rfl (by omega)
            have e8 : (H1.1 1865 (((8 * (H1.1 1831 ((3 * c) + 2))) + (n : Int))).toNat) = (H.1 1865 (((8 * (H1.1 1831 ((3 * c) + 2))) + (n : Int))).toNat) := congrFun (hf.2.1 1865 (by decide) (by decide)) (((8 * (H1.1 1831 ((3 * c) + 2))) + (n : Int))).toNat
            refine h_run 0 (pc' := 141) (l' := [(0, .inr (.inr 1826)), (1, .inl (t : Int)), (2, .inl (c : Int)), (3, .inl (n : Int)), (4, .inl (i : Int)), (5, .inl (a : Int)), (6, .inl (b9 : Int)), (7, .inl f1), (8, .inl (j : Int)), (9, .inl ((b9 : Int) + (wv.length : Int)))]) (st' := [.inl (H1.1 1865 (((8 * (H1.1 1831 ((3 * c) + 2))) + (n : Int))).toNat)]) rfl ?_
            have hf2 : (H1.1 1865 (((8 * (H1.1 1831 ((3 * c) + 2))) + (n : Int))).toNat) = (H.1 1865) (8 * (H.1 1831) (3 * c + 2) + (n : Int)).toNat := by rw [foH1, cGH1]
            refine h_run 3 (pc' := 146) (l' := [(0, .inr (.inr 1826)), (1, .inl (t : Int)), (2, .inl (c : Int)), (3, .inl (n : Int)), (4, .inl (i : Int)), (5, .inl (a : Int)), (6, .inl (b9 : Int)), (7, .inl f1), (8, .inl (j : Int)), (9, .inl ((b9 : Int) + (wv.length : Int))), (10, .inl (H1.1 1865 (((8 * (H1.1 1831 ((3 * c) + 2))) + (n : Int))).toNat)), (11, .inl 0)]) (st' := []) rfl ?_
            rw [show ((b9 : Int) + (wv.length : Int)) = (((b9 + wv.length) : Nat) : Int) by omega]
            exact ih.2 _ b9 f1 j (b9 + wv.length) (H1.1 1865 (((8 * (H1.1 1831 ((3 * c) + 2))) + (n : Int))).toNat) 0 (wv) hf (VS_cg hVH1 (by rw [show (Lr g2).take 0 = [] from rfl]; show adL Ls t _ = adL Ls t (_ ++ []); rw [List.append_nil])) (by omega) hf1 (by omega) hget1 (by omega) hf2 (by omega) (by omega) (by omega : 10000000 - 4000 * j - 100 - 0 < w)
          · refine h_run 2 (pc' := 94) (l' := [(0, .inr (.inr 1826)), (1, .inl (t : Int)), (2, .inl (c : Int)), (3, .inl (n : Int)), (4, .inl (i : Int)), (5, .inl (a : Int)), (6, .inl (b9 : Int)), (7, .inl f1), (8, .inl (j : Int)), (9, .inl ((b9 : Int) + (wv.length : Int)))]) (st' := [.inl (n : Int), .inl ((b9 : Int) + (wv.length : Int))]) rfl ?_
            refine h_ine (off := 124) (t := 218) rfl rfl (by omega) (by omega) (fun c9 => ?_) (fun c9 => ?_)
            · refine h_run 2 (pc' := 45) (l' := [(0, .inr (.inr 1826)), (1, .inl (t : Int)), (2, .inl (c : Int)), (3, .inl (n : Int)), (4, .inl (i : Int)), (5, .inl (a : Int)), (6, .inl (b9 : Int)), (7, .inl f1), (8, .inl ((j : Int) + 1)), (9, .inl ((b9 : Int) + (wv.length : Int)))]) (st' := []) rfl ?_
              refine h_loc [0, 1, 2, 3, 4, 5, 6, 7, 8] rfl ?_
              rw [show ((j : Int) + 1) = (((j + 1) : Nat) : Int) by omega]
              exact ih.1 _ b9 f1 (j + 1) hf (VS_cg hVH1 (by rw [fmL_s hget1, if_pos (show a = 2 by omega), gF_mis (by omega), List.append_nil])) (by omega) hf1 (by omega) (by omega : 10000000 - 4000 * (j + 1) < w)
            · refine h_run 3 (pc' := 101) (l' := [(0, .inr (.inr 1826)), (1, .inl (t : Int)), (2, .inl (c : Int)), (3, .inl (n : Int)), (4, .inl (i : Int)), (5, .inl (a : Int)), (6, .inl (b9 : Int)), (7, .inl f1), (8, .inl (j : Int)), (9, .inl ((b9 : Int) + (wv.length : Int)))]) (st' := [.inl (i : Int), .inl (c : Int), .inr (.inr 1826)]) rfl ?_
              refine h_cv (i := 504) (j := 216) (b := 1826) (M' := mt_216) (xs := [.inl (i : Int), .inl (c : Int)]) (rest := []) rfl rfl rfl rfl rfl rfl (Nat.le_of_ble_eq_true rfl) (Nat.le_of_ble_eq_true rfl) (by omega) (n_begun (Ls := (adL Ls t ((fmL (gF (if a = 2 then g0T else T2v Lr g2) (n - 1 - v.length)) ((Lr g1).take j)).map (fun r => ((1 + (c : Int)) :: v) ++ r)))) (g := g0) (v := v) (by omega) hPH1 (by omega) (by rw [cAH1]; omega) (by rw [cGH1]; exact hg0) (by omega) hVH1 (PX_get hXH1 (by omega) hget0)) ?_
              rintro _ H10 ⟨rfl, hfH10, hmsH10, hmkH10⟩
              refine h_rng (fun hrg11 => ?_)
              have hf12 : fr [53] [1856, 1861, 1862, 1863] H H10 := fr_t hf hfH10 (by decide) (by decide)
              have hPH10 : PWc H10 := PWc_fr hP hf12 (by decide) (by decide)
              have cGH10 : (H10.1 1831) = (H.1 1831) := hf12.2.1 1831 (by decide) (by decide)
              have cAH10 : (H10.1 1830) = (H.1 1830) := hf12.2.1 1830 (by decide) (by decide)
              have fAH10 : (H10.1 1833) = (H.1 1833) := hf12.2.1 1833 (by decide) (by decide)
              have foH10 : (H10.1 1865) = (H.1 1865) := hf12.2.1 1865 (by decide) (by decide)
              have tyH10 : (H10.1 1826 1) = (H.1 1826 1) := hf12.2.2 1 (by decide)
              have cnH10 : (H10.1 1826 3) = (H.1 1826 3) := hf12.2.2 3 (by decide)
              have fnH10 : (H10.1 1826 8) = (H.1 1826 8) := hf12.2.2 8 (by decide)
              have hVH10 : VS (H10.1 1826 1) (H10.1 1861) (H10.1 1862) (H10.1 1863) (adL Ls t ((fmL (gF (if a = 2 then g0T else T2v Lr g2) (n - 1 - v.length)) ((Lr g1).take j)).map (fun r => ((1 + (c : Int)) :: v) ++ r))) := VS_fr hVH1 hfH10 (by decide) (by decide)
              have hXH10 : PX (H10.1 1826 1) (H10.1 1865) n (adL Ls t ((fmL (gF (if a = 2 then g0T else T2v Lr g2) (n - 1 - v.length)) ((Lr g1).take j)).map (fun r => ((1 + (c : Int)) :: v) ++ r))) Lr := by rw [tyH10, foH10]; rw [tyH1, foH1] at hXH1; exact hXH1
              refine h_run 0 (pc' := 104) (l' := [(0, .inr (.inr 1826)), (1, .inl (t : Int)), (2, .inl (c : Int)), (3, .inl (n : Int)), (4, .inl (i : Int)), (5, .inl (a : Int)), (6, .inl (b9 : Int)), (7, .inl f1), (8, .inl (j : Int)), (9, .inl ((b9 : Int) + (wv.length : Int)))]) (st' := []) rfl ?_
              refine h_run 4 (pc' := 109) (l' := [(0, .inr (.inr 1826)), (1, .inl (t : Int)), (2, .inl (c : Int)), (3, .inl (n : Int)), (4, .inl (i : Int)), (5, .inl (a : Int)), (6, .inl (b9 : Int)), (7, .inl f1), (8, .inl (j : Int)), (9, .inl ((b9 : Int) + (wv.length : Int)))]) (st' := [.inl (j : Int), .inl 1, .inl (c : Int), .inr (.inr 1826)]) rfl ?_
              refine h_cv (i := 511) (j := 214) (b := 1826) (M' := mt_214) (xs := [.inl (j : Int), .inl 1, .inl (c : Int)]) (rest := []) rfl rfl rfl rfl rfl rfl (Nat.le_of_ble_eq_true rfl) (Nat.le_of_ble_eq_true rfl) (by omega) (n_putValue (Ls := (adL Ls t ((fmL (gF (if a = 2 then g0T else T2v Lr g2) (n - 1 - v.length)) ((Lr g1).take j)).map (fun r => ((1 + (c : Int)) :: v) ++ r)))) (k := 1) (g := g1) (p := (1 + v.length)) (v := wv) (l := ((1 + (c : Int)) :: v)) (by omega) hPH10 (by omega) (by rw [cAH10]; omega) (by rw [cGH10]; exact hg1) (by omega) hVH10 (PX_get hXH10 (by omega) hget1) hmsH10 (by omega) hmkH10) ?_
              rintro _ H13 ⟨rfl, hfH13, hmsH13, hmkH13⟩
              refine h_rng (fun hrg14 => ?_)
              have hf15 : fr [53] [1856, 1861, 1862, 1863] H H13 := fr_t hf12 hfH13 (by decide) (by decide)
              have hPH13 : PWc H13 := PWc_fr hP hf15 (by decide) (by decide)
              have cGH13 : (H13.1 1831) = (H.1 1831) := hf15.2.1 1831 (by decide) (by decide)
              have cAH13 : (H13.1 1830) = (H.1 1830) := hf15.2.1 1830 (by decide) (by decide)
              have fAH13 : (H13.1 1833) = (H.1 1833) := hf15.2.1 1833 (by decide) (by decide)
              have foH13 : (H13.1 1865) = (H.1 1865) := hf15.2.1 1865 (by decide) (by decide)
              have tyH13 : (H13.1 1826 1) = (H.1 1826 1) := hf15.2.2 1 (by decide)
              have cnH13 : (H13.1 1826 3) = (H.1 1826 3) := hf15.2.2 3 (by decide)
              have fnH13 : (H13.1 1826 8) = (H.1 1826 8) := hf15.2.2 8 (by decide)
              have hVH13 : VS (H13.1 1826 1) (H13.1 1861) (H13.1 1862) (H13.1 1863) (adL Ls t ((fmL (gF (if a = 2 then g0T else T2v Lr g2) (n - 1 - v.length)) ((Lr g1).take j)).map (fun r => ((1 + (c : Int)) :: v) ++ r))) := VS_fr hVH10 hfH13 (by decide) (by decide)
              have hXH13 : PX (H13.1 1826 1) (H13.1 1865) n (adL Ls t ((fmL (gF (if a = 2 then g0T else T2v Lr g2) (n - 1 - v.length)) ((Lr g1).take j)).map (fun r => ((1 + (c : Int)) :: v) ++ r))) Lr := by rw [tyH13, foH13]; rw [tyH10, foH10] at hXH10; exact hXH10
              refine h_run 0 (pc' := 112) (l' := [(0, .inr (.inr 1826)), (1, .inl (t : Int)), (2, .inl (c : Int)), (3, .inl (n : Int)), (4, .inl (i : Int)), (5, .inl (a : Int)), (6, .inl (b9 : Int)), (7, .inl f1), (8, .inl (j : Int)), (9, .inl ((b9 : Int) + (wv.length : Int)))]) (st' := []) rfl ?_
              refine h_run 3 (pc' := 115) (l' := [(0, .inr (.inr 1826)), (1, .inl (t : Int)), (2, .inl (c : Int)), (3, .inl (n : Int)), (4, .inl (i : Int)), (5, .inl (a : Int)), (6, .inl (b9 : Int)), (7, .inl f1), (8, .inl (j : Int)), (9, .inl ((b9 : Int) + (wv.length : Int)))]) (st' := [.inl (n : Int), .inl (t : Int), .inr (.inr 1826)]) rfl ?_
              refine h_cv (i := 493) (j := 211) (b := 1826) (M' := mt_211) (xs := [.inl (n : Int), .inl (t : Int)]) (rest := []) rfl rfl rfl rfl rfl rfl (Nat.le_of_ble_eq_true rfl) (Nat.le_of_ble_eq_true rfl) (by omega) (n_addValue (Ls := (adL Ls t ((fmL (gF (if a = 2 then g0T else T2v Lr g2) (n - 1 - v.length)) ((Lr g1).take j)).map (fun r => ((1 + (c : Int)) :: v) ++ r)))) (v := (((1 + (c : Int)) :: v) ++ wv)) (t := t) (n := n) (by omega) hPH13 (by omega) (by omega) hVH13 (by rw [show n = 1 + v.length + wv.length by omega]; exact hmkH13) (by have q9 := hmkH13.1; omega)) ?_
              rintro _ H16 ⟨rfl, hfH16, hVH16⟩
              refine h_rng (fun hrg17 => ?_)
              have hf18 : fr [53] [1856, 1861, 1862, 1863] H H16 := fr_t hf15 hfH16 (by decide) (by decide)
              have hPH16 : PWc H16 := PWc_fr hP hf18 (by decide) (by decide)
              have cGH16 : (H16.1 1831) = (H.1 1831) := hf18.2.1 1831 (by decide) (by decide)
              have cAH16 : (H16.1 1830) = (H.1 1830) := hf18.2.1 1830 (by decide) (by decide)
              have fAH16 : (H16.1 1833) = (H.1 1833) := hf18.2.1 1833 (by decide) (by decide)
              have foH16 : (H16.1 1865) = (H.1 1865) := hf18.2.1 1865 (by decide) (by decide)
              have tyH16 : (H16.1 1826 1) = (H.1 1826 1) := hf18.2.2 1 (by decide)
              have cnH16 : (H16.1 1826 3) = (H.1 1826 3) := hf18.2.2 3 (by decide)
              have fnH16 : (H16.1 1826 8) = (H.1 1826 8) := hf18.2.2 8 (by decide)
              have hXH16 : PX (H16.1 1826 1) (H16.1 1865) n (adL (adL Ls t ((fmL (gF (if a = 2 then g0T else T2v Lr g2) (n - 1 - v.length)) ((Lr g1).take j)).map (fun r => ((1 + (c : Int)) :: v) ++ r))) t [(((1 + (c : Int)) :: v) ++ wv)]) Lr := by rw [tyH16, foH16]; rw [tyH13, foH13] at hXH13; exact PX_ad hXH13 (by rw [← tyH13]; exact VS_len hVH13)
              refine h_run 0 (pc' := 118) (l' := [(0, .inr (.inr 1826)), (1, .inl (t : Int)), (2, .inl (c : Int)), (3, .inl (n : Int)), (4, .inl (i : Int)), (5, .inl (a : Int)), (6, .inl (b9 : Int)), (7, .inl f1), (8, .inl (j : Int)), (9, .inl ((b9 : Int) + (wv.length : Int)))]) (st' := []) rfl ?_
              refine h_run 3 (pc' := 45) (l' := [(0, .inr (.inr 1826)), (1, .inl (t : Int)), (2, .inl (c : Int)), (3, .inl (n : Int)), (4, .inl (i : Int)), (5, .inl (a : Int)), (6, .inl (b9 : Int)), (7, .inl f1), (8, .inl ((j : Int) + 1)), (9, .inl ((b9 : Int) + (wv.length : Int)))]) (st' := []) rfl ?_
              refine h_loc [0, 1, 2, 3, 4, 5, 6, 7, 8] rfl ?_
              rw [show ((j : Int) + 1) = (((j + 1) : Nat) : Int) by omega]
              exact ih.1 _ b9 f1 (j + 1) hf18 (VS_cg hVH16 (by rw [adL_ad, fmL_s hget1, if_pos (show a = 2 by omega), gF_hit (by omega), map_one])) (by omega) hf1 (by omega) (by omega : 10000000 - 4000 * (j + 1) < w)
    · intro H1 b9 f1 j b8 f2 k wv hf hVH1 hb9 hf1 hj hget1 hb8 hf2 ha3 hk hw
      refine h_rng (fun hrg19 => ?_)
      have hPH1 : PWc H1 := PWc_fr hP hf (by decide) (by decide)
      have cGH1 : (H1.1 1831) = (H.1 1831) := hf.2.1 1831 (by decide) (by decide)
      have cAH1 : (H1.1 1830) = (H.1 1830) := hf.2.1 1830 (by decide) (by decide)
      have fAH1 : (H1.1 1833) = (H.1 1833) := hf.2.1 1833 (by decide) (by decide)
      have foH1 : (H1.1 1865) = (H.1 1865) := hf.2.1 1865 (by decide) (by decide)
      have tyH1 : (H1.1 1826 1) = (H.1 1826 1) := hf.2.2 1 (by decide)
      have cnH1 : (H1.1 1826 3) = (H.1 1826 3) := hf.2.2 3 (by decide)
      have fnH1 : (H1.1 1826 8) = (H.1 1826 8) := hf.2.2 8 (by decide)
      obtain ⟨⟨pb1, pb2, pb3, pb4, pb5⟩, pw1, pw2, pw3, pw4⟩ := (id hP : PW H (H.1 1826 1) (H.1 1826 3) (H.1 1826 8) (H.1 1826 13) (H.1 1826 19))
      obtain ⟨hca, hct, hcg⟩ := pw1 c (by omega)
      have hgx1 : 0 ≤ (H.1 1831) (3 * c + 1) ∧ (H.1 1831) (3 * c + 1) < (H.1 1826 1) := hcg 1 (by omega)
      have hgx0 : 0 ≤ (H.1 1831) (3 * c + 0) ∧ (H.1 1831) (3 * c + 0) < (H.1 1826 1) := hcg 0 (by omega)
      have hF1 := (hX g1 (by omega)).1
      have hL1 : (Lr g1).length ≤ 2001 := by obtain ⟨r9, q9⟩ := (hX g1 (by omega)).2.1; have q8 := VS_len hV g1 (by omega); rw [q9, List.length_append] at q8; omega
      have hq1 : (H.1 1865) (8 * (H.1 1831) (3 * c + 1) + (n : Int)).toNat = (H.1 1865) (8 * g1 + n) := fo_q hg1
      have hv16 := RLs_1 hV hX (u := g0) (by omega) (List.mem_of_getElem? hget0)
      have hil : i < 2001 := by have q7 := (List.getElem?_eq_some_iff.mp (PX_get hX (u := g0) (by omega) hget0)).1; have q8 := VS_len hV g0 (by omega); omega
      have hgx2 : 0 ≤ (H.1 1831) (3 * c + 2) ∧ (H.1 1831) (3 * c + 2) < (H.1 1826 1) := hcg 2 (by omega)
      replace hg2 := hg2 ha3
      have hF2 := (hX g2 (by omega)).1
      have hL2 : (Lr g2).length ≤ 2001 := by obtain ⟨r9, q9⟩ := (hX g2 (by omega)).2.1; have q8 := VS_len hV g2 (by omega); rw [q9, List.length_append] at q8; omega
      have hq2 : (H.1 1865) (8 * (H.1 1831) (3 * c + 2) + (n : Int)).toNat = (H.1 1865) (8 * g2 + n) := fo_q hg2
      have hw16 := RLs_1 hV hX (u := g1) (by omega) (List.mem_of_getElem? hget1)
      have hXH1 : PX (H1.1 1826 1) (H1.1 1865) n (adL Ls t ((fmL (gF (if a = 2 then g0T else T2v Lr g2) (n - 1 - v.length)) ((Lr g1).take j)).map (fun r => ((1 + (c : Int)) :: v) ++ r) ++ ((fmL (gF g0T ((n - 1 - v.length) - wv.length)) ((Lr g2).take k)).map (fun r => wv ++ r)).map (fun r => ((1 + (c : Int)) :: v) ++ r))) Lr := by rw [tyH1, foH1]; exact PX_ad hX (VS_len hV)
      refine h_run 2 (pc' := 150) (l' := [(0, .inr (.inr 1826)), (1, .inl (t : Int)), (2, .inl (c : Int)), (3, .inl (n : Int)), (4, .inl (i : Int)), (5, .inl (a : Int)), (6, .inl (b9 : Int)), (7, .inl f1), (8, .inl (j : Int)), (9, .inl (b8 : Int)), (10, .inl f2), (11, .inl (k : Int))]) (st' := [.inl f2, .inl (k : Int)]) rfl ?_
      refine h_ige (off := 68) (t := 218) rfl rfl (by omega) (by omega) (fun c20 => ?_) (fun c20 => ?_)
      · refine h_run 2 (pc' := 45) (l' := [(0, .inr (.inr 1826)), (1, .inl (t : Int)), (2, .inl (c : Int)), (3, .inl (n : Int)), (4, .inl (i : Int)), (5, .inl (a : Int)), (6, .inl (b9 : Int)), (7, .inl f1), (8, .inl ((j : Int) + 1)), (9, .inl (b8 : Int)), (10, .inl f2), (11, .inl (k : Int))]) (st' := []) rfl ?_
        refine h_loc [0, 1, 2, 3, 4, 5, 6, 7, 8] rfl ?_
        rw [show ((j : Int) + 1) = (((j + 1) : Nat) : Int) by omega]
        exact ih.1 _ b9 f1 (j + 1) hf (VS_cg hVH1 (by rw [fmL_s hget1, if_neg (show ¬ a = 2 by omega), gF_in (by omega), List.map_append]; rw [show fmL (gF g0T ((n - 1 - v.length) - wv.length)) ((Lr g2).take k) = T2v Lr g2 ((n - 1 - v.length) - wv.length) from (by first | exact fmL_all (by omega) | exact fmL_rest (fun v9 h9 => gF_mis (by have q9 := pw_drop (hX g2 (by omega)).2.2 hget2 h9; omega)))])) (by omega) hf1 (by omega) (by omega : 10000000 - 4000 * (j + 1) < w)
      · obtain ⟨u, hget2⟩ : ∃ u, (Lr g2)[k]? = some u := ⟨_, List.getElem?_eq_getElem (show k < (Lr g2).length by omega)⟩
        have hu16 := RLs_1 hV hX (u := g2) (by omega) (List.mem_of_getElem? hget2)
        refine h_run 5 (pc' := 160) (l' := [(0, .inr (.inr 1826)), (1, .inl (t : Int)), (2, .inl (c : Int)), (3, .inl (n : Int)), (4, .inl (i : Int)), (5, .inl (a : Int)), (6, .inl (b9 : Int)), (7, .inl f1), (8, .inl (j : Int)), (9, .inl (b8 : Int)), (10, .inl f2), (11, .inl (k : Int))]) (st' := [.inl (k : Int), .inl 2, .inl (c : Int), .inr (.inr 1826), .inl (b8 : Int)]) rfl ?_
        refine h_cv (i := 500) (j := 213) (b := 1826) (M' := mt_213) (xs := [.inl (k : Int), .inl 2, .inl (c : Int)]) (rest := [.inl (b8 : Int)]) rfl rfl rfl rfl rfl rfl (Nat.le_of_ble_eq_true rfl) (Nat.le_of_ble_eq_true rfl) (by omega) (m_sizeOf (k := 2) (z := (u.length : Int)) (by omega) hPH1 (by omega) (by rw [cAH1]; omega) (by omega) (VS_sz hVH1 (by rw [cGH1]; exact hg2) (by omega) (PX_get hXH1 (by omega) hget2))) ?_
        rintro _ _ ⟨rfl, rfl⟩
        refine h_run 0 (pc' := 163) (l' := [(0, .inr (.inr 1826)), (1, .inl (t : Int)), (2, .inl (c : Int)), (3, .inl (n : Int)), (4, .inl (i : Int)), (5, .inl (a : Int)), (6, .inl (b9 : Int)), (7, .inl f1), (8, .inl (j : Int)), (9, .inl (b8 : Int)), (10, .inl f2), (11, .inl (k : Int))]) (st' := [.inl (u.length : Int), .inl (b8 : Int)]) rfl ?_
        refine h_run 2 (pc' := 165) (l' := [(0, .inr (.inr 1826)), (1, .inl (t : Int)), (2, .inl (c : Int)), (3, .inl (n : Int)), (4, .inl (i : Int)), (5, .inl (a : Int)), (6, .inl (b9 : Int)), (7, .inl f1), (8, .inl (j : Int)), (9, .inl (b8 : Int)), (10, .inl f2), (11, .inl (k : Int))]) (st' := [.inl (n : Int), .inl ((b8 : Int) + (u.length : Int))]) rfl ?_
        refine h_igt (off := 53) (t := 218) rfl rfl (by omega) (by omega) (fun c21 => ?_) (fun c21 => ?_)
        · refine h_run 2 (pc' := 45) (l' := [(0, .inr (.inr 1826)), (1, .inl (t : Int)), (2, .inl (c : Int)), (3, .inl (n : Int)), (4, .inl (i : Int)), (5, .inl (a : Int)), (6, .inl (b9 : Int)), (7, .inl f1), (8, .inl ((j : Int) + 1)), (9, .inl (b8 : Int)), (10, .inl f2), (11, .inl (k : Int))]) (st' := []) rfl ?_
          refine h_loc [0, 1, 2, 3, 4, 5, 6, 7, 8] rfl ?_
          rw [show ((j : Int) + 1) = (((j + 1) : Nat) : Int) by omega]
          exact ih.1 _ b9 f1 (j + 1) hf (VS_cg hVH1 (by rw [fmL_s hget1, if_neg (show ¬ a = 2 by omega), gF_in (by omega), List.map_append]; rw [show fmL (gF g0T ((n - 1 - v.length) - wv.length)) ((Lr g2).take k) = T2v Lr g2 ((n - 1 - v.length) - wv.length) from (by first | exact fmL_all (by omega) | exact fmL_rest (fun v9 h9 => gF_mis (by have q9 := pw_drop (hX g2 (by omega)).2.2 hget2 h9; omega)))])) (by omega) hf1 (by omega) (by omega : 10000000 - 4000 * (j + 1) < w)
        · refine h_run 5 (pc' := 175) (l' := [(0, .inr (.inr 1826)), (1, .inl (t : Int)), (2, .inl (c : Int)), (3, .inl (n : Int)), (4, .inl (i : Int)), (5, .inl (a : Int)), (6, .inl (b9 : Int)), (7, .inl f1), (8, .inl (j : Int)), (9, .inl (b8 : Int)), (10, .inl f2), (11, .inl (k : Int))]) (st' := [.inl (k : Int), .inl 2, .inl (c : Int), .inr (.inr 1826), .inl (b8 : Int)]) rfl ?_
          refine h_cv (i := 500) (j := 213) (b := 1826) (M' := mt_213) (xs := [.inl (k : Int), .inl 2, .inl (c : Int)]) (rest := [.inl (b8 : Int)]) rfl rfl rfl rfl rfl rfl (Nat.le_of_ble_eq_true rfl) (Nat.le_of_ble_eq_true rfl) (by omega) (m_sizeOf (k := 2) (z := (u.length : Int)) (by omega) hPH1 (by omega) (by rw [cAH1]; omega) (by omega) (VS_sz hVH1 (by rw [cGH1]; exact hg2) (by omega) (PX_get hXH1 (by omega) hget2))) ?_
          rintro _ _ ⟨rfl, rfl⟩
          refine h_run 0 (pc' := 178) (l' := [(0, .inr (.inr 1826)), (1, .inl (t : Int)), (2, .inl (c : Int)), (3, .inl (n : Int)), (4, .inl (i : Int)), (5, .inl (a : Int)), (6, .inl (b9 : Int)), (7, .inl f1), (8, .inl (j : Int)), (9, .inl (b8 : Int)), (10, .inl f2), (11, .inl (k : Int))]) (st' := [.inl (u.length : Int), .inl (b8 : Int)]) rfl ?_
          refine h_run 2 (pc' := 180) (l' := [(0, .inr (.inr 1826)), (1, .inl (t : Int)), (2, .inl (c : Int)), (3, .inl (n : Int)), (4, .inl (i : Int)), (5, .inl (a : Int)), (6, .inl (b9 : Int)), (7, .inl f1), (8, .inl (j : Int)), (9, .inl (b8 : Int)), (10, .inl f2), (11, .inl (k : Int))]) (st' := [.inl (n : Int), .inl ((b8 : Int) + (u.length : Int))]) rfl ?_
          refine h_ine (off := 32) (t := 212) rfl rfl (by omega) (by omega) (fun c22 => ?_) (fun c22 => ?_)
          · refine h_run 2 (pc' := 146) (l' := [(0, .inr (.inr 1826)), (1, .inl (t : Int)), (2, .inl (c : Int)), (3, .inl (n : Int)), (4, .inl (i : Int)), (5, .inl (a : Int)), (6, .inl (b9 : Int)), (7, .inl f1), (8, .inl (j : Int)), (9, .inl (b8 : Int)), (10, .inl f2), (11, .inl ((k : Int) + 1))]) (st' := []) rfl ?_
            rw [show ((k : Int) + 1) = (((k + 1) : Nat) : Int) by omega]
            exact ih.2 _ b9 f1 j b8 f2 (k + 1) (wv) hf (VS_cg hVH1 (by rw [fmL_s hget2, gF_mis (by omega), List.append_nil])) (by omega) hf1 (by omega) hget1 (by omega) hf2 (by omega) (by omega) (by omega : 10000000 - 4000 * j - 100 - (k + 1) < w)
          · refine h_run 3 (pc' := 187) (l' := [(0, .inr (.inr 1826)), (1, .inl (t : Int)), (2, .inl (c : Int)), (3, .inl (n : Int)), (4, .inl (i : Int)), (5, .inl (a : Int)), (6, .inl (b9 : Int)), (7, .inl f1), (8, .inl (j : Int)), (9, .inl (b8 : Int)), (10, .inl f2), (11, .inl (k : Int))]) (st' := [.inl (i : Int), .inl (c : Int), .inr (.inr 1826)]) rfl ?_
            refine h_cv (i := 504) (j := 216) (b := 1826) (M' := mt_216) (xs := [.inl (i : Int), .inl (c : Int)]) (rest := []) rfl rfl rfl rfl rfl rfl (Nat.le_of_ble_eq_true rfl) (Nat.le_of_ble_eq_true rfl) (by omega) (n_begun (Ls := (adL Ls t ((fmL (gF (if a = 2 then g0T else T2v Lr g2) (n - 1 - v.length)) ((Lr g1).take j)).map (fun r => ((1 + (c : Int)) :: v) ++ r) ++ ((fmL (gF g0T ((n - 1 - v.length) - wv.length)) ((Lr g2).take k)).map (fun r => wv ++ r)).map (fun r => ((1 + (c : Int)) :: v) ++ r)))) (g := g0) (v := v) (by omega) hPH1 (by omega) (by rw [cAH1]; omega) (by rw [cGH1]; exact hg0) (by omega) hVH1 (PX_get hXH1 (by omega) hget0)) ?_
            rintro _ H23 ⟨rfl, hfH23, hmsH23, hmkH23⟩
            refine h_rng (fun hrg24 => ?_)
            have hf25 : fr [53] [1856, 1861, 1862, 1863] H H23 := fr_t hf hfH23 (by decide) (by decide)
            have hPH23 : PWc H23 := PWc_fr hP hf25 (by decide) (by decide)
            have cGH23 : (H23.1 1831) = (H.1 1831) := hf25.2.1 1831 (by decide) (by decide)
            have cAH23 : (H23.1 1830) = (H.1 1830) := hf25.2.1 1830 (by decide) (by decide)
            have fAH23 : (H23.1 1833) = (H.1 1833) := hf25.2.1 1833 (by decide) (by decide)
            have foH23 : (H23.1 1865) = (H.1 1865) := hf25.2.1 1865 (by decide) (by decide)
            have tyH23 : (H23.1 1826 1) = (H.1 1826 1) := hf25.2.2 1 (by decide)
            have cnH23 : (H23.1 1826 3) = (H.1 1826 3) := hf25.2.2 3 (by decide)
            have fnH23 : (H23.1 1826 8) = (H.1 1826 8) := hf25.2.2 8 (by decide)
            have hVH23 : VS (H23.1 1826 1) (H23.1 1861) (H23.1 1862) (H23.1 1863) (adL Ls t ((fmL (gF (if a = 2 then g0T else T2v Lr g2) (n - 1 - v.length)) ((Lr g1).take j)).map (fun r => ((1 + (c : Int)) :: v) ++ r) ++ ((fmL (gF g0T ((n - 1 - v.length) - wv.length)) ((Lr g2).take k)).map (fun r => wv ++ r)).map (fun r => ((1 + (c : Int)) :: v) ++ r))) := VS_fr hVH1 hfH23 (by decide) (by decide)
            have hXH23 : PX (H23.1 1826 1) (H23.1 1865) n (adL Ls t ((fmL (gF (if a = 2 then g0T else T2v Lr g2) (n - 1 - v.length)) ((Lr g1).take j)).map (fun r => ((1 + (c : Int)) :: v) ++ r) ++ ((fmL (gF g0T ((n - 1 - v.length) - wv.length)) ((Lr g2).take k)).map (fun r => wv ++ r)).map (fun r => ((1 + (c : Int)) :: v) ++ r))) Lr := by rw [tyH23, foH23]; rw [tyH1, foH1] at hXH1; exact hXH1
            refine h_run 0 (pc' := 190) (l' := [(0, .inr (.inr 1826)), (1, .inl (t : Int)), (2, .inl (c : Int)), (3, .inl (n : Int)), (4, .inl (i : Int)), (5, .inl (a : Int)), (6, .inl (b9 : Int)), (7, .inl f1), (8, .inl (j : Int)), (9, .inl (b8 : Int)), (10, .inl f2), (11, .inl (k : Int))]) (st' := []) rfl ?_
            refine h_run 4 (pc' := 195) (l' := [(0, .inr (.inr 1826)), (1, .inl (t : Int)), (2, .inl (c : Int)), (3, .inl (n : Int)), (4, .inl (i : Int)), (5, .inl (a : Int)), (6, .inl (b9 : Int)), (7, .inl f1), (8, .inl (j : Int)), (9, .inl (b8 : Int)), (10, .inl f2), (11, .inl (k : Int))]) (st' := [.inl (j : Int), .inl 1, .inl (c : Int), .inr (.inr 1826)]) rfl ?_
            refine h_cv (i := 511) (j := 214) (b := 1826) (M' := mt_214) (xs := [.inl (j : Int), .inl 1, .inl (c : Int)]) (rest := []) rfl rfl rfl rfl rfl rfl (Nat.le_of_ble_eq_true rfl) (Nat.le_of_ble_eq_true rfl) (by omega) (n_putValue (Ls := (adL Ls t ((fmL (gF (if a = 2 then g0T else T2v Lr g2) (n - 1 - v.length)) ((Lr g1).take j)).map (fun r => ((1 + (c : Int)) :: v) ++ r) ++ ((fmL (gF g0T ((n - 1 - v.length) - wv.length)) ((Lr g2).take k)).map (fun r => wv ++ r)).map (fun r => ((1 + (c : Int)) :: v) ++ r)))) (k := 1) (g := g1) (p := (1 + v.length)) (v := wv) (l := ((1 + (c : Int)) :: v)) (by omega) hPH23 (by omega) (by rw [cAH23]; omega) (by rw [cGH23]; exact hg1) (by omega) hVH23 (PX_get hXH23 (by omega) hget1) hmsH23 (by omega) hmkH23) ?_
            rintro _ H26 ⟨rfl, hfH26, hmsH26, hmkH26⟩
            refine h_rng (fun hrg27 => ?_)
            have hf28 : fr [53] [1856, 1861, 1862, 1863] H H26 := fr_t hf25 hfH26 (by decide) (by decide)
            have hPH26 : PWc H26 := PWc_fr hP hf28 (by decide) (by decide)
            have cGH26 : (H26.1 1831) = (H.1 1831) := hf28.2.1 1831 (by decide) (by decide)
            have cAH26 : (H26.1 1830) = (H.1 1830) := hf28.2.1 1830 (by decide) (by decide)
            have fAH26 : (H26.1 1833) = (H.1 1833) := hf28.2.1 1833 (by decide) (by decide)
            have foH26 : (H26.1 1865) = (H.1 1865) := hf28.2.1 1865 (by decide) (by decide)
            have tyH26 : (H26.1 1826 1) = (H.1 1826 1) := hf28.2.2 1 (by decide)
            have cnH26 : (H26.1 1826 3) = (H.1 1826 3) := hf28.2.2 3 (by decide)
            have fnH26 : (H26.1 1826 8) = (H.1 1826 8) := hf28.2.2 8 (by decide)
            have hVH26 : VS (H26.1 1826 1) (H26.1 1861) (H26.1 1862) (H26.1 1863) (adL Ls t ((fmL (gF (if a = 2 then g0T else T2v Lr g2) (n - 1 - v.length)) ((Lr g1).take j)).map (fun r => ((1 + (c : Int)) :: v) ++ r) ++ ((fmL (gF g0T ((n - 1 - v.length) - wv.length)) ((Lr g2).take k)).map (fun r => wv ++ r)).map (fun r => ((1 + (c : Int)) :: v) ++ r))) := VS_fr hVH23 hfH26 (by decide) (by decide)
            have hXH26 : PX (H26.1 1826 1) (H26.1 1865) n (adL Ls t ((fmL (gF (if a = 2 then g0T else T2v Lr g2) (n - 1 - v.length)) ((Lr g1).take j)).map (fun r => ((1 + (c : Int)) :: v) ++ r) ++ ((fmL (gF g0T ((n - 1 - v.length) - wv.length)) ((Lr g2).take k)).map (fun r => wv ++ r)).map (fun r => ((1 + (c : Int)) :: v) ++ r))) Lr := by rw [tyH26, foH26]; rw [tyH23, foH23] at hXH23; exact hXH23
            refine h_run 0 (pc' := 198) (l' := [(0, .inr (.inr 1826)), (1, .inl (t : Int)), (2, .inl (c : Int)), (3, .inl (n : Int)), (4, .inl (i : Int)), (5, .inl (a : Int)), (6, .inl (b9 : Int)), (7, .inl f1), (8, .inl (j : Int)), (9, .inl (b8 : Int)), (10, .inl f2), (11, .inl (k : Int))]) (st' := []) rfl ?_
            refine h_run 4 (pc' := 203) (l' := [(0, .inr (.inr 1826)), (1, .inl (t : Int)), (2, .inl (c : Int)), (3, .inl (n : Int)), (4, .inl (i : Int)), (5, .inl (a : Int)), (6, .inl (b9 : Int)), (7, .inl f1), (8, .inl (j : Int)), (9, .inl (b8 : Int)), (10, .inl f2), (11, .inl (k : Int))]) (st' := [.inl (k : Int), .inl 2, .inl (c : Int), .inr (.inr 1826)]) rfl ?_
            refine h_cv (i := 511) (j := 214) (b := 1826) (M' := mt_214) (xs := [.inl (k : Int), .inl 2, .inl (c : Int)]) (rest := []) rfl rfl rfl rfl rfl rfl (Nat.le_of_ble_eq_true rfl) (Nat.le_of_ble_eq_true rfl) (by omega) (n_putValue (Ls := (adL Ls t ((fmL (gF (if a = 2 then g0T else T2v Lr g2) (n - 1 - v.length)) ((Lr g1).take j)).map (fun r => ((1 + (c : Int)) :: v) ++ r) ++ ((fmL (gF g0T ((n - 1 - v.length) - wv.length)) ((Lr g2).take k)).map (fun r => wv ++ r)).map (fun r => ((1 + (c : Int)) :: v) ++ r)))) (k := 2) (g := g2) (p := (1 + v.length + wv.length)) (v := u) (l := ((1 + (c : Int)) :: v ++ wv)) (by omega) hPH26 (by omega) (by rw [cAH26]; omega) (by rw [cGH26]; exact hg2) (by omega) hVH26 (PX_get hXH26 (by omega) hget2) hmsH26 (by omega) hmkH26) ?_
            rintro _ H29 ⟨rfl, hfH29, hmsH29, hmkH29⟩
            refine h_rng (fun hrg30 => ?_)
            have hf31 : fr [53] [1856, 1861, 1862, 1863] H H29 := fr_t hf28 hfH29 (by decide) (by decide)
            have hPH29 : PWc H29 := PWc_fr hP hf31 (by decide) (by decide)
            have cGH29 : (H29.1 1831) = (H.1 1831) := hf31.2.1 1831 (by decide) (by decide)
            have cAH29 : (H29.1 1830) = (H.1 1830) := hf31.2.1 1830 (by decide) (by decide)
            have fAH29 : (H29.1 1833) = (H.1 1833) := hf31.2.1 1833 (by decide) (by decide)
            have foH29 : (H29.1 1865) = (H.1 1865) := hf31.2.1 1865 (by decide) (by decide)
            have tyH29 : (H29.1 1826 1) = (H.1 1826 1) := hf31.2.2 1 (by decide)
            have cnH29 : (H29.1 1826 3) = (H.1 1826 3) := hf31.2.2 3 (by decide)
            have fnH29 : (H29.1 1826 8) = (H.1 1826 8) := hf31.2.2 8 (by decide)
            have hVH29 : VS (H29.1 1826 1) (H29.1 1861) (H29.1 1862) (H29.1 1863) (adL Ls t ((fmL (gF (if a = 2 then g0T else T2v Lr g2) (n - 1 - v.length)) ((Lr g1).take j)).map (fun r => ((1 + (c : Int)) :: v) ++ r) ++ ((fmL (gF g0T ((n - 1 - v.length) - wv.length)) ((Lr g2).take k)).map (fun r => wv ++ r)).map (fun r => ((1 + (c : Int)) :: v) ++ r))) := VS_fr hVH26 hfH29 (by decide) (by decide)
            have hXH29 : PX (H29.1 1826 1) (H29.1 1865) n (adL Ls t ((fmL (gF (if a = 2 then g0T else T2v Lr g2) (n - 1 - v.length)) ((Lr g1).take j)).map (fun r => ((1 + (c : Int)) :: v) ++ r) ++ ((fmL (gF g0T ((n - 1 - v.length) - wv.length)) ((Lr g2).take k)).map (fun r => wv ++ r)).map (fun r => ((1 + (c : Int)) :: v) ++ r))) Lr := by rw [tyH29, foH29]; rw [tyH26, foH26] at hXH26; exact hXH26
            refine h_run 0 (pc' := 206) (l' := [(0, .inr (.inr 1826)), (1, .inl (t : Int)), (2, .inl (c : Int)), (3, .inl (n : Int)), (4, .inl (i : Int)), (5, .inl (a : Int)), (6, .inl (b9 : Int)), (7, .inl f1), (8, .inl (j : Int)), (9, .inl (b8 : Int)), (10, .inl f2), (11, .inl (k : Int))]) (st' := []) rfl ?_
            refine h_run 3 (pc' := 209) (l' := [(0, .inr (.inr 1826)), (1, .inl (t : Int)), (2, .inl (c : Int)), (3, .inl (n : Int)), (4, .inl (i : Int)), (5, .inl (a : Int)), (6, .inl (b9 : Int)), (7, .inl f1), (8, .inl (j : Int)), (9, .inl (b8 : Int)), (10, .inl f2), (11, .inl (k : Int))]) (st' := [.inl (n : Int), .inl (t : Int), .inr (.inr 1826)]) rfl ?_
            refine h_cv (i := 493) (j := 211) (b := 1826) (M' := mt_211) (xs := [.inl (n : Int), .inl (t : Int)]) (rest := []) rfl rfl rfl rfl rfl rfl (Nat.le_of_ble_eq_true rfl) (Nat.le_of_ble_eq_true rfl) (by omega) (n_addValue (Ls := (adL Ls t ((fmL (gF (if a = 2 then g0T else T2v Lr g2) (n - 1 - v.length)) ((Lr g1).take j)).map (fun r => ((1 + (c : Int)) :: v) ++ r) ++ ((fmL (gF g0T ((n - 1 - v.length) - wv.length)) ((Lr g2).take k)).map (fun r => wv ++ r)).map (fun r => ((1 + (c : Int)) :: v) ++ r)))) (v := (((1 + (c : Int)) :: v) ++ wv ++ u)) (t := t) (n := n) (by omega) hPH29 (by omega) (by omega) hVH29 (by rw [show n = 1 + v.length + wv.length + u.length by omega]; exact hmkH29) (by have q9 := hmkH29.1; omega)) ?_
            rintro _ H32 ⟨rfl, hfH32, hVH32⟩
            refine h_rng (fun hrg33 => ?_)
            have hf34 : fr [53] [1856, 1861, 1862, 1863] H H32 := fr_t hf31 hfH32 (by decide) (by decide)
            have hPH32 : PWc H32 := PWc_fr hP hf34 (by decide) (by decide)
            have cGH32 : (H32.1 1831) = (H.1 1831) := hf34.2.1 1831 (by decide) (by decide)
            have cAH32 : (H32.1 1830) = (H.1 1830) := hf34.2.1 1830 (by decide) (by decide)
            have fAH32 : (H32.1 1833) = (H.1 1833) := hf34.2.1 1833 (by decide) (by decide)
            have foH32 : (H32.1 1865) = (H.1 1865) := hf34.2.1 1865 (by decide) (by decide)
            have tyH32 : (H32.1 1826 1) = (H.1 1826 1) := hf34.2.2 1 (by decide)
            have cnH32 : (H32.1 1826 3) = (H.1 1826 3) := hf34.2.2 3 (by decide)
            have fnH32 : (H32.1 1826 8) = (H.1 1826 8) := hf34.2.2 8 (by decide)
            have hXH32 : PX (H32.1 1826 1) (H32.1 1865) n (adL (adL Ls t ((fmL (gF (if a = 2 then g0T else T2v Lr g2) (n - 1 - v.length)) ((Lr g1).take j)).map (fun r => ((1 + (c : Int)) :: v) ++ r) ++ ((fmL (gF g0T ((n - 1 - v.length) - wv.length)) ((Lr g2).take k)).map (fun r => wv ++ r)).map (fun r => ((1 + (c : Int)) :: v) ++ r))) t [(((1 + (c : Int)) :: v) ++ wv ++ u)]) Lr := by rw [tyH32, foH32]; rw [tyH29, foH29] at hXH29; exact PX_ad hXH29 (by rw [← tyH29]; exact VS_len hVH29)
            refine h_run 0 (pc' := 212) (l' := [(0, .inr (.inr 1826)), (1, .inl (t : Int)), (2, .inl (c : Int)), (3, .inl (n : Int)), (4, .inl (i : Int)), (5, .inl (a : Int)), (6, .inl (b9 : Int)), (7, .inl f1), (8, .inl (j : Int)), (9, .inl (b8 : Int)), (10, .inl f2), (11, .inl (k : Int))]) (st' := []) rfl ?_
            refine h_run 2 (pc' := 146) (l' := [(0, .inr (.inr 1826)), (1, .inl (t : Int)), (2, .inl (c : Int)), (3, .inl (n : Int)), (4, .inl (i : Int)), (5, .inl (a : Int)), (6, .inl (b9 : Int)), (7, .inl f1), (8, .inl (j : Int)), (9, .inl (b8 : Int)), (10, .inl f2), (11, .inl ((k : Int) + 1))]) (st' := []) rfl ?_
            rw [show ((k : Int) + 1) = (((k + 1) : Nat) : Int) by omega]
            exact ih.2 _ b9 f1 j b8 f2 (k + 1) (wv) hf34 (VS_cg hVH32 (by rw [adL_ad, fmL_s hget2, gF_hit (by omega), map_one, map_one, List.append_assoc, List.append_assoc])) (by omega) hf1 (by omega) hget1 (by omega) hf2 (by omega) (by omega) (by omega : 10000000 - 4000 * j - 100 - (k + 1) < w)
set_option maxRecDepth 100000 in
theorem n_makeTwo {zC : Nat → Option zsh} {d : Nat} (hd : 6 ≤ d) {H : hp} {Ls Lr : Nat → vls} {v : List Int} {t c n i a g0 g1 g2 : Nat} (hP : PWc H) (hc : (c : Int) < (H.1 1826 3)) (ht : (t : Int) < (H.1 1826 1)) (hn : 1 ≤ n ∧ n ≤ 6) (hV : VS (H.1 1826 1) (H.1 1861) (H.1 1862) (H.1 1863) Ls) (hX : PX (H.1 1826 1) (H.1 1865) n Ls Lr) (ha : (H.1 1830) c = (a : Int)) (ha2 : 2 ≤ a ∧ a ≤ 3) (hg0 : (H.1 1831) (3 * c + 0) = (g0 : Int)) (hg1 : (H.1 1831) (3 * c + 1) = (g1 : Int)) (hg2 : a = 3 → (H.1 1831) (3 * c + 2) = (g2 : Int)) (hget0 : (Lr g0)[i]? = some v) (hvn : v.length + a ≤ n) : hG (zs zC) d mt_217 0 (zargs 0 [.inr (.inr 1826), .inl (t : Int), .inl (c : Int), .inl (n : Int), .inl (i : Int)]) [] H (fun r9 H2 => r9 = none ∧ fr [53] [1856, 1861, 1862, 1863] H H2 ∧ VS (H2.1 1826 1) (H2.1 1861) (H2.1 1862) (H2.1 1863) (adL Ls t ((fmL (gF (if a = 2 then g0T else T2v Lr g2) (n - 1 - v.length)) (Lr g1)).map (fun r => ((1 + (c : Int)) :: v) ++ r)))) := by
  refine h_rng (fun hrg0 => ?_)
  refine h_run 0 (pc' := 0) (l' := [(0, .inr (.inr 1826)), (1, .inl (t : Int)), (2, .inl (c : Int)), (3, .inl (n : Int)), (4, .inl (i : Int))]) (st' := []) rfl ?_
  have hPH := hP
  have hVH := hV
  have hXH := hX
  have cGH : (H.1 1831) = (H.1 1831) := rfl
  have cAH : (H.1 1830) = (H.1 1830) := rfl
  have foH : (H.1 1865) = (H.1 1865) := rfl
  have tyH : (H.1 1826 1) = (H.1 1826 1) := rfl
  obtain ⟨⟨pb1, pb2, pb3, pb4, pb5⟩, pw1, pw2, pw3, pw4⟩ := (id hP : PW H (H.1 1826 1) (H.1 1826 3) (H.1 1826 8) (H.1 1826 13) (H.1 1826 19))
  obtain ⟨hca, hct, hcg⟩ := pw1 c (by omega)
  have hgx1 : 0 ≤ (H.1 1831) (3 * c + 1) ∧ (H.1 1831) (3 * c + 1) < (H.1 1826 1) := hcg 1 (by omega)
  have hgx0 : 0 ≤ (H.1 1831) (3 * c + 0) ∧ (H.1 1831) (3 * c + 0) < (H.1 1826 1) := hcg 0 (by omega)
  have hF1 := (hX g1 (by omega)).1
  have hL1 : (Lr g1).length ≤ 2001 := by obtain ⟨r9, q9⟩ := (hX g1 (by omega)).2.1; have q8 := VS_len hV g1 (by omega); rw [q9, List.length_append] at q8; omega
  have hq1 : (H.1 1865) (8 * (H.1 1831) (3 * c + 1) + (n : Int)).toNat = (H.1 1865) (8 * g1 + n) := fo_q hg1
  have hv16 := RLs_1 hV hX (u := g0) (by omega) (List.mem_of_getElem? hget0)
  have hil : i < 2001 := by have q7 := (List.getElem?_eq_some_iff.mp (PX_get hX (u := g0) (by omega) hget0)).1; have q8 := VS_len hV g0 (by omega); omega
  refine h_run 3 (pc' := 5) (l' := [(0, .inr (.inr 1826)), (1, .inl (t : Int)), (2, .inl (c : Int)), (3, .inl (n : Int)), (4, .inl (i : Int))]) (st' := [.inl (c : Int), .inr (.inr 1830)]) rfl ?_
  refine h_ild (c := 1830) (j := c) (i := (c : Int)) rfl rfl (by decide) rfl (by omega) ?_
  have g35 : -2147483648 ≤ (H.1 1830 c) ∧ (H.1 1830 c) ≤ 2147483647 := hrg0.2 1830 c 16 .int rfl (by omega)
  refine h_run 0 (pc' := 6) (l' := [(0, .inr (.inr 1826)), (1, .inl (t : Int)), (2, .inl (c : Int)), (3, .inl (n : Int)), (4, .inl (i : Int))]) (st' := [.inl (H.1 1830 c)]) rfl ?_
  refine h_run 6 (pc' := 14) (l' := [(0, .inr (.inr 1826)), (1, .inl (t : Int)), (2, .inl (c : Int)), (3, .inl (n : Int)), (4, .inl (i : Int)), (5, .inl (H.1 1830 c))]) (st' := [.inl (i : Int), .inl 0, .inl (c : Int), .inr (.inr 1826), .inl 1]) rfl ?_
  refine h_cv (i := 500) (j := 213) (b := 1826) (M' := mt_213) (xs := [.inl (i : Int), .inl 0, .inl (c : Int)]) (rest := [.inl 1]) rfl rfl rfl rfl rfl rfl (Nat.le_of_ble_eq_true rfl) (Nat.le_of_ble_eq_true rfl) (by omega) (m_sizeOf (k := 0) (z := (v.length : Int)) (by omega) hPH (by omega) (by rw [cAH]; omega) (by omega) (VS_sz hVH (by rw [cGH]; exact hg0) (by omega) (PX_get hXH (by omega) hget0))) ?_
  rintro _ _ ⟨rfl, rfl⟩
  refine h_run 0 (pc' := 17) (l' := [(0, .inr (.inr 1826)), (1, .inl (t : Int)), (2, .inl (c : Int)), (3, .inl (n : Int)), (4, .inl (i : Int)), (5, .inl (H.1 1830 c))]) (st' := [.inl (v.length : Int), .inl 1]) rfl ?_
  refine h_run 12 (pc' := 35) (l' := [(0, .inr (.inr 1826)), (1, .inl (t : Int)), (2, .inl (c : Int)), (3, .inl (n : Int)), (4, .inl (i : Int)), (5, .inl (H.1 1830 c)), (6, .inl (1 + (v.length : Int)))]) (st' := [.inl ((3 * (c : Int)) + 1), .inr (.inr 1831), .inl 8, .inr (.inr 1865)]) rfl ?_
  refine h_ild (c := 1831) (j := ((3 * c) + 1)) (i := ((3 * (c : Int)) + 1)) rfl rfl (by decide) (by omega) (by omega) ?_
  have g36 : -2147483648 ≤ (H.1 1831 ((3 * c) + 1)) ∧ (H.1 1831 ((3 * c) + 1)) ≤ 2147483647 := hrg0.2 1831 ((3 * c) + 1) 48 .int rfl (by omega)
  refine h_run 0 (pc' := 36) (l' := [(0, .inr (.inr 1826)), (1, .inl (t : Int)), (2, .inl (c : Int)), (3, .inl (n : Int)), (4, .inl (i : Int)), (5, .inl (H.1 1830 c)), (6, .inl (1 + (v.length : Int)))]) (st' := [.inl (H.1 1831 ((3 * c) + 1)), .inl 8, .inr (.inr 1865)]) rfl ?_
  refine h_run 3 (pc' := 39) (l' := [(0, .inr (.inr 1826)), (1, .inl (t : Int)), (2, .inl (c : Int)), (3, .inl (n : Int)), (4, .inl (i : Int)), (5, .inl (H.1 1830 c)), (6, .inl (1 + (v.length : Int)))]) (st' := [.inl ((8 * (H.1 1831 ((3 * c) + 1))) + (n : Int)), .inr (.inr 1865)]) rfl ?_
  refine h_ild (c := 1865) (j := (((8 * (H.1 1831 ((3 * c) + 1))) + (n : Int))).toNat) (i := ((8 * (H.1 1831 ((3 * c) + 1))) + (n : Int))) rfl rfl (by decide) (by omega) (by omega) ?_
  have g37 : -2147483648 ≤ (H.1 1865 (((8 * (H.1 1831 ((3 * c) + 1))) + (n : Int))).toNat) ∧ (H.1 1865 (((8 * (H.1 1831 ((3 * c) + 1))) + (n : Int))).toNat) ≤ 2147483647 := hrg0.2 1865 (((8 * (H.1 1831 ((3 * c) + 1))) + (n : Int))).toNat 64 .int rfl (by omega)
  refine h_run 0 (pc' := 40) (l' := [(0, .inr (.inr 1826)), (1, .inl (t : Int)), (2, .inl (c : Int)), (3, .inl (n : Int)), (4, .inl (i : Int)), (5, .inl (H.1 1830 c)), (6, .inl (1 + (v.length : Int)))]) (st' := [.inl (H.1 1865 (((8 * (H.1 1831 ((3 * c) + 1))) + (n : Int))).toNat)]) rfl ?_
  refine h_run 3 (pc' := 45) (l' := [(0, .inr (.inr 1826)), (1, .inl (t : Int)), (2, .inl (c : Int)), (3, .inl (n : Int)), (4, .inl (i : Int)), (5, .inl (H.1 1830 c)), (6, .inl (1 + (v.length : Int))), (7, .inl (H.1 1865 (((8 * (H.1 1831 ((3 * c) + 1))) + (n : Int))).toNat)), (8, .inl 0)]) (st' := []) rfl ?_
  rw [show (H.1 1830 c) = (a : Int) by omega]
  rw [show (1 + (v.length : Int)) = (((1 + v.length) : Nat) : Int) by omega]
  exact (n_makeTwo_cut hd hP hc ht hn hV hX ha ha2 hg0 hg1 hg2 hget0 hvn _).1 _ (1 + v.length) (H.1 1865 (((8 * (H.1 1831 ((3 * c) + 1))) + (n : Int))).toNat) 0 (fr_rf _ _ _) (VS_cg hV (by show Ls = adL Ls t []; exact (adL_nil (VS_len hV t ht)).symm)) (by omega) rfl (by omega) (Nat.lt_succ_self _)


/-- rows of a constructor's arguments, out of the lists -/
def TR9 (Lr : Nat → vls) (cG : Nat → Int) (c a j m : Nat) : vls := tuR (fun u => Lr u.toNat) (fun k => cG (3 * c + k)) a j m
/-- the same, for all arguments of the constructor -/
def TRc (Lr : Nat → vls) (cG cA : Nat → Int) (c m : Nat) : vls := TR9 Lr cG c (cA c).toNat (cA c).toNat m
theorem TR_0 {Lr : Nat → vls} {cG : Nat → Int} {c a : Nat} : TR9 Lr cG c a 0 = g0T := by
  funext n
  rfl
theorem TR_s {Lr : Nat → vls} {cG : Nat → Int} {c a j m g : Nat} (h : cG (3 * c + (a - (j + 1))) = (g : Int)) : TR9 Lr cG c a (j + 1) m = fmL (gF (TR9 Lr cG c a j) m) (Lr g) := by
  show fmL (gF (TR9 Lr cG c a j) m) (Lr (cG (3 * c + (a - (j + 1)))).toNat) = _
  rw [h, Int.toNat_natCast]
theorem TR_two {Lr : Nat → vls} {cG : Nat → Int} {c a m g1 g2 : Nat} (ha : a = 2 ∨ a = 3) (h1 : cG (3 * c + 1) = (g1 : Int)) (h2 : a = 3 → cG (3 * c + 2) = (g2 : Int)) : TR9 Lr cG c a (a - 1) m = fmL (gF (if a = 2 then g0T else T2v Lr g2) m) (Lr g1) := by
  rcases ha with rfl | rfl
  · rw [if_pos rfl, ← TR_0 (Lr := Lr) (cG := cG) (c := c) (a := 2)]
    exact TR_s h1
  · rw [if_neg (by decide)]
    have e : TR9 Lr cG c 3 1 = T2v Lr g2 := by
      funext n
      have h3 := TR_s (Lr := Lr) (cG := cG) (c := c) (a := 3) (j := 0) (m := n) (h2 rfl)
      rw [h3, TR_0]
      rfl
    rw [← e]
    exact TR_s h1
theorem map_map9 {s : Int} {v : List Int} {Z : vls} : (Z.map (fun r => v ++ r)).map (fun r => s :: r) = Z.map (fun r => (s :: v) ++ r) := by
  rw [List.map_map]
  rfl

/-! makeCon -/
set_option maxRecDepth 100000 in
theorem n_makeCon_cut {zC : Nat → Option zsh} {d : Nat} (hd : 8 ≤ d) {H : hp} {Ls Lr : Nat → vls} {t c n : Nat} (hP : PWc H) (hc : (c : Int) < (H.1 1826 3)) (ht : (t : Int) < (H.1 1826 1)) (hn : 1 ≤ n ∧ n ≤ 6) (hV : VS (H.1 1826 1) (H.1 1861) (H.1 1862) (H.1 1863) Ls) (hX : PX (H.1 1826 1) (H.1 1865) n Ls Lr) : ∀ w : Nat, (∀ (H1 : hp) (a : Nat) (f0 : Int) (i : Nat) (g0 : Nat), (fr [53] [1856, 1861, 1862, 1863] H H1) → (VS (H1.1 1826 1) (H1.1 1861) (H1.1 1862) (H1.1 1863) (adL Ls t ((fmL (gF (TR9 Lr (H.1 1831) c a (a - 1)) (n - 1)) ((Lr g0).take i)).map (fun r => (1 + (c : Int)) :: r)))) → ((H.1 1830) c = (a : Int)) → (1 ≤ a) → ((H.1 1831) (3 * c + 0) = (g0 : Int)) → (f0 = (H.1 1865) (8 * (H.1 1831) (3 * c) + (n : Int)).toNat) → (i ≤ 2001) → 10000 - i < w → hG (zs zC) d mt_215 57 [(0, .inr (.inr 1826)), (1, .inl (t : Int)), (2, .inl (c : Int)), (3, .inl (n : Int)), (4, .inl (a : Int)), (5, .inl f0), (6, .inl (i : Int))] [] H1 (fun r9 H2 => r9 = none ∧ fr [53] [1856, 1861, 1862, 1863] H H2 ∧ VS (H2.1 1826 1) (H2.1 1861) (H2.1 1862) (H2.1 1863) (adL Ls t ((TRc Lr (H.1 1831) (H.1 1830) c (n - 1)).map (fun r => (1 + (c : Int)) :: r))))) := by
  intro w
  induction w with
  | zero => exact fun _ _ _ _ _ _ _ _ _ _ _ _ h => absurd h (Nat.not_lt_zero _)
  | succ w ih =>
    intro H1 a f0 i g0 hf hVH1 ha ha1 hg0 hf0 hi hw
    refine h_rng (fun hrg1 => ?_)
    have hPH1 : PWc H1 := PWc_fr hP hf (by decide) (by decide)
    have cGH1 : (H1.1 1831) = (H.1 1831) := hf.2.1 1831 (by decide) (by decide)
    have cAH1 : (H1.1 1830) = (H.1 1830) := hf.2.1 1830 (by decide) (by decide)
    have fAH1 : (H1.1 1833) = (H.1 1833) := hf.2.1 1833 (by decide) (by decide)
    have foH1 : (H1.1 1865) = (H.1 1865) := hf.2.1 1865 (by decide) (by decide)
    have tyH1 : (H1.1 1826 1) = (H.1 1826 1) := hf.2.2 1 (by decide)
    have cnH1 : (H1.1 1826 3) = (H.1 1826 3) := hf.2.2 3 (by decide)
    have fnH1 : (H1.1 1826 8) = (H.1 1826 8) := hf.2.2 8 (by decide)
    obtain ⟨⟨pb1, pb2, pb3, pb4, pb5⟩, pw1, pw2, pw3, pw4⟩ := (id hP : PW H (H.1 1826 1) (H.1 1826 3) (H.1 1826 8) (H.1 1826 13) (H.1 1826 19))
    obtain ⟨hca, hct, hcg⟩ := pw1 c (by omega)
    have hgx0 : 0 ≤ (H.1 1831) (3 * c + 0) ∧ (H.1 1831) (3 * c + 0) < (H.1 1826 1) := hcg 0 (by omega)
    have hF0 := (hX g0 (by omega)).1
    have hL0 : (Lr g0).length ≤ 2001 := by obtain ⟨r9, q9⟩ := (hX g0 (by omega)).2.1; have q8 := VS_len hV g0 (by omega); rw [q9, List.length_append] at q8; omega
    have hq0 : (H.1 1865) (8 * (H.1 1831) (3 * c) + (n : Int)).toNat = (H.1 1865) (8 * g0 + n) := fo_q hg0
    have hXH1 : PX (H1.1 1826 1) (H1.1 1865) n (adL Ls t ((fmL (gF (TR9 Lr (H.1 1831) c a (a - 1)) (n - 1)) ((Lr g0).take i)).map (fun r => (1 + (c : Int)) :: r))) Lr := by rw [tyH1, foH1]; exact PX_ad hX (VS_len hV)
    refine h_run 2 (pc' := 61) (l' := [(0, .inr (.inr 1826)), (1, .inl (t : Int)), (2, .inl (c : Int)), (3, .inl (n : Int)), (4, .inl (a : Int)), (5, .inl f0), (6, .inl (i : Int))]) (st' := [.inl f0, .inl (i : Int)]) rfl ?_
    refine h_ige (off := 69) (t := 130) rfl rfl (by omega) (by omega) (fun c2 => ?_) (fun c2 => ?_)
    · refine h_ret rfl rfl ?_
      refine ⟨rfl, hf, VS_cg hVH1 ?_⟩
      unfold TRc
      have hae : ((H.1 1830) c).toNat = (a - 1) + 1 := by omega
      rw [hae, TR_s (g := g0) (by rw [show a - 1 + 1 - (a - 1 + 1) = 0 by omega]; exact hg0), show a - 1 + 1 = a by omega]
      congr 2
      first | exact fmL_all (by omega) | exact fmL_rest (fun v9 h9 => by have q9 := pw_drop (hX g0 (by omega)).2.2 hget0 h9; by_cases q7 : v9.length ≤ n - 1; { rw [gF_in q7]; have q6 := tuR_few2 (Lr := fun u => Lr u.toNat) (ag := fun k => (H.1 1831) (3 * c + k)) (a := a) (fun k hk v8 h8 => (RLs_1 hV hX (u := ((H.1 1831) (3 * c + k)).toNat) (by have q5 := hcg k (by omega); omega) h8).1) (j := a - 1) (m := n - 1 - v9.length) (by omega) (by omega); have q6 : TR9 Lr (H.1 1831) c a (a - 1) (n - 1 - v9.length) = [] := q6; rw [q6]; rfl }; { exact if_neg q7 })
    · obtain ⟨v, hget0⟩ : ∃ v, (Lr g0)[i]? = some v := ⟨_, List.getElem?_eq_getElem (show i < (Lr g0).length by omega)⟩
      have hv16 := RLs_1 hV hX (u := g0) (by omega) (List.mem_of_getElem? hget0)
      refine h_run 4 (pc' := 69) (l' := [(0, .inr (.inr 1826)), (1, .inl (t : Int)), (2, .inl (c : Int)), (3, .inl (n : Int)), (4, .inl (a : Int)), (5, .inl f0), (6, .inl (i : Int))]) (st' := [.inl (i : Int), .inl 0, .inl (c : Int), .inr (.inr 1826)]) rfl ?_
      refine h_cv (i := 500) (j := 213) (b := 1826) (M' := mt_213) (xs := [.inl (i : Int), .inl 0, .inl (c : Int)]) (rest := []) rfl rfl rfl rfl rfl rfl (Nat.le_of_ble_eq_true rfl) (Nat.le_of_ble_eq_true rfl) (by omega) (m_sizeOf (k := 0) (z := (v.length : Int)) (by omega) hPH1 (by omega) (by rw [cAH1]; omega) (by omega) (VS_sz hVH1 (by rw [cGH1]; exact hg0) (by omega) (PX_get hXH1 (by omega) hget0))) ?_
      rintro _ _ ⟨rfl, rfl⟩
      refine h_run 0 (pc' := 72) (l' := [(0, .inr (.inr 1826)), (1, .inl (t : Int)), (2, .inl (c : Int)), (3, .inl (n : Int)), (4, .inl (a : Int)), (5, .inl f0), (6, .inl (i : Int))]) (st' := [.inl (v.length : Int)]) rfl ?_
      refine h_run 3 (pc' := 76) (l' := [(0, .inr (.inr 1826)), (1, .inl (t : Int)), (2, .inl (c : Int)), (3, .inl (n : Int)), (4, .inl (a : Int)), (5, .inl f0), (6, .inl (i : Int))]) (st' := [.inl (n : Int), .inl ((v.length : Int) + (a : Int))]) rfl ?_
      refine h_igt (off := 54) (t := 130) rfl rfl (by omega) (by omega) (fun c3 => ?_) (fun c3 => ?_)
      · refine h_ret rfl rfl ?_
        refine ⟨rfl, hf, VS_cg hVH1 ?_⟩
        unfold TRc
        have hae : ((H.1 1830) c).toNat = (a - 1) + 1 := by omega
        rw [hae, TR_s (g := g0) (by rw [show a - 1 + 1 - (a - 1 + 1) = 0 by omega]; exact hg0), show a - 1 + 1 = a by omega]
        congr 2
        first | exact fmL_all (by omega) | exact fmL_rest (fun v9 h9 => by have q9 := pw_drop (hX g0 (by omega)).2.2 hget0 h9; by_cases q7 : v9.length ≤ n - 1; { rw [gF_in q7]; have q6 := tuR_few2 (Lr := fun u => Lr u.toNat) (ag := fun k => (H.1 1831) (3 * c + k)) (a := a) (fun k hk v8 h8 => (RLs_1 hV hX (u := ((H.1 1831) (3 * c + k)).toNat) (by have q5 := hcg k (by omega); omega) h8).1) (j := a - 1) (m := n - 1 - v9.length) (by omega) (by omega); have q6 : TR9 Lr (H.1 1831) c a (a - 1) (n - 1 - v9.length) = [] := q6; rw [q6]; rfl }; { exact if_neg q7 })
      · refine h_run 2 (pc' := 82) (l' := [(0, .inr (.inr 1826)), (1, .inl (t : Int)), (2, .inl (c : Int)), (3, .inl (n : Int)), (4, .inl (a : Int)), (5, .inl f0), (6, .inl (i : Int))]) (st' := [.inl 1, .inl (a : Int)]) rfl ?_
        refine h_ine (off := 33) (t := 115) rfl rfl (by omega) (by decide) (fun c4 => ?_) (fun c4 => ?_)
        · refine h_run 5 (pc' := 121) (l' := [(0, .inr (.inr 1826)), (1, .inl (t : Int)), (2, .inl (c : Int)), (3, .inl (n : Int)), (4, .inl (a : Int)), (5, .inl f0), (6, .inl (i : Int))]) (st' := [.inl (i : Int), .inl (n : Int), .inl (c : Int), .inl (t : Int), .inr (.inr 1826)]) rfl ?_
          have hgx1 : 0 ≤ (H.1 1831) (3 * c + 1) ∧ (H.1 1831) (3 * c + 1) < (H.1 1826 1) := hcg 1 (by omega)
          obtain ⟨g1, hg1⟩ : ∃ q9 : Nat, (H.1 1831) (3 * c + 1) = (q9 : Int) := ⟨((H.1 1831) (3 * c + 1)).toNat, by omega⟩
          obtain ⟨g2, hg2⟩ : ∃ q9 : Nat, a = 3 → (H.1 1831) (3 * c + 2) = (q9 : Int) := ⟨((H.1 1831) (3 * c + 2)).toNat, fun q8 => by have q7 : 0 ≤ (H.1 1831) (3 * c + 2) ∧ (H.1 1831) (3 * c + 2) < (H.1 1826 1) := hcg 2 (by omega); omega⟩
          refine h_cv (i := 507) (j := 217) (b := 1826) (M' := mt_217) (xs := [.inl (i : Int), .inl (n : Int), .inl (c : Int), .inl (t : Int)]) (rest := []) rfl rfl rfl rfl rfl rfl (Nat.le_of_ble_eq_true rfl) (Nat.le_of_ble_eq_true rfl) (by omega) (n_makeTwo (Ls := (adL Ls t ((fmL (gF (TR9 Lr (H.1 1831) c a (a - 1)) (n - 1)) ((Lr g0).take i)).map (fun r => (1 + (c : Int)) :: r)))) (Lr := Lr) (v := v) (t := t) (c := c) (n := n) (i := i) (a := a) (g0 := g0) (g1 := g1) (g2 := g2) (by omega) hPH1 (by omega) (by omega) (by omega) hVH1 hXH1 (by rw [cAH1]; exact ha) (by omega) (by rw [cGH1]; exact hg0) (by rw [cGH1]; exact hg1) (by rw [cGH1]; exact hg2) hget0 (by omega)) ?_
          rintro _ H5 ⟨rfl, hfH5, hVH5⟩
          refine h_rng (fun hrg6 => ?_)
          have hf7 : fr [53] [1856, 1861, 1862, 1863] H H5 := fr_t hf hfH5 (by decide) (by decide)
          have hPH5 : PWc H5 := PWc_fr hP hf7 (by decide) (by decide)
          have cGH5 : (H5.1 1831) = (H.1 1831) := hf7.2.1 1831 (by decide) (by decide)
          have cAH5 : (H5.1 1830) = (H.1 1830) := hf7.2.1 1830 (by decide) (by decide)
          have fAH5 : (H5.1 1833) = (H.1 1833) := hf7.2.1 1833 (by decide) (by decide)
          have foH5 : (H5.1 1865) = (H.1 1865) := hf7.2.1 1865 (by decide) (by decide)
          have tyH5 : (H5.1 1826 1) = (H.1 1826 1) := hf7.2.2 1 (by decide)
          have cnH5 : (H5.1 1826 3) = (H.1 1826 3) := hf7.2.2 3 (by decide)
          have fnH5 : (H5.1 1826 8) = (H.1 1826 8) := hf7.2.2 8 (by decide)
          refine h_run 0 (pc' := 124) (l' := [(0, .inr (.inr 1826)), (1, .inl (t : Int)), (2, .inl (c : Int)), (3, .inl (n : Int)), (4, .inl (a : Int)), (5, .inl f0), (6, .inl (i : Int))]) (st' := []) rfl ?_
          refine h_run 2 (pc' := 57) (l' := [(0, .inr (.inr 1826)), (1, .inl (t : Int)), (2, .inl (c : Int)), (3, .inl (n : Int)), (4, .inl (a : Int)), (5, .inl f0), (6, .inl ((i : Int) + 1))]) (st' := []) rfl ?_
          rw [show ((i : Int) + 1) = (((i + 1) : Nat) : Int) by omega]
          exact ih _ (a) f0 (i + 1) (g0) hf7 (VS_cg hVH5 (by rw [adL_ad, fmL_s hget0, gF_in (by omega), List.map_append, TR_two (by omega) hg1 hg2, map_map9])) ha (by omega) hg0 hf0 (by omega) (by omega : 10000 - (i + 1) < w)
        · refine h_run 4 (pc' := 90) (l' := [(0, .inr (.inr 1826)), (1, .inl (t : Int)), (2, .inl (c : Int)), (3, .inl (n : Int)), (4, .inl (a : Int)), (5, .inl f0), (6, .inl (i : Int))]) (st' := [.inl (i : Int), .inl 0, .inl (c : Int), .inr (.inr 1826)]) rfl ?_
          refine h_cv (i := 500) (j := 213) (b := 1826) (M' := mt_213) (xs := [.inl (i : Int), .inl 0, .inl (c : Int)]) (rest := []) rfl rfl rfl rfl rfl rfl (Nat.le_of_ble_eq_true rfl) (Nat.le_of_ble_eq_true rfl) (by omega) (m_sizeOf (k := 0) (z := (v.length : Int)) (by omega) hPH1 (by omega) (by rw [cAH1]; omega) (by omega) (VS_sz hVH1 (by rw [cGH1]; exact hg0) (by omega) (PX_get hXH1 (by omega) hget0))) ?_
          rintro _ _ ⟨rfl, rfl⟩
          refine h_run 0 (pc' := 93) (l' := [(0, .inr (.inr 1826)), (1, .inl (t : Int)), (2, .inl (c : Int)), (3, .inl (n : Int)), (4, .inl (a : Int)), (5, .inl f0), (6, .inl (i : Int))]) (st' := [.inl (v.length : Int)]) rfl ?_
          refine h_run 3 (pc' := 96) (l' := [(0, .inr (.inr 1826)), (1, .inl (t : Int)), (2, .inl (c : Int)), (3, .inl (n : Int)), (4, .inl (a : Int)), (5, .inl f0), (6, .inl (i : Int))]) (st' := [.inl ((n : Int) - 1), .inl (v.length : Int)]) rfl ?_
          refine h_ine (off := 28) (t := 124) rfl rfl (by omega) (by omega) (fun c8 => ?_) (fun c8 => ?_)
          · refine h_run 2 (pc' := 57) (l' := [(0, .inr (.inr 1826)), (1, .inl (t : Int)), (2, .inl (c : Int)), (3, .inl (n : Int)), (4, .inl (a : Int)), (5, .inl f0), (6, .inl ((i : Int) + 1))]) (st' := []) rfl ?_
            rw [show ((i : Int) + 1) = (((i + 1) : Nat) : Int) by omega]
            exact ih _ (a) f0 (i + 1) (g0) hf (VS_cg hVH1 (by rw [fmL_s hget0, show (TR9 Lr (H.1 1831) c a (a - 1)) = g0T from (by rw [show a - 1 = 0 by omega]; exact TR_0), gF_mis (by omega), List.append_nil])) ha (by omega) hg0 hf0 (by omega) (by omega : 10000 - (i + 1) < w)
          · refine h_run 3 (pc' := 103) (l' := [(0, .inr (.inr 1826)), (1, .inl (t : Int)), (2, .inl (c : Int)), (3, .inl (n : Int)), (4, .inl (a : Int)), (5, .inl f0), (6, .inl (i : Int))]) (st' := [.inl (i : Int), .inl (c : Int), .inr (.inr 1826)]) rfl ?_
            refine h_cv (i := 504) (j := 216) (b := 1826) (M' := mt_216) (xs := [.inl (i : Int), .inl (c : Int)]) (rest := []) rfl rfl rfl rfl rfl rfl (Nat.le_of_ble_eq_true rfl) (Nat.le_of_ble_eq_true rfl) (by omega) (n_begun (Ls := (adL Ls t ((fmL (gF (TR9 Lr (H.1 1831) c a (a - 1)) (n - 1)) ((Lr g0).take i)).map (fun r => (1 + (c : Int)) :: r)))) (g := g0) (v := v) (by omega) hPH1 (by omega) (by rw [cAH1]; omega) (by rw [cGH1]; exact hg0) (by omega) hVH1 (PX_get hXH1 (by omega) hget0)) ?_
            rintro _ H9 ⟨rfl, hfH9, hmsH9, hmkH9⟩
            refine h_rng (fun hrg10 => ?_)
            have hf11 : fr [53] [1856, 1861, 1862, 1863] H H9 := fr_t hf hfH9 (by decide) (by decide)
            have hPH9 : PWc H9 := PWc_fr hP hf11 (by decide) (by decide)
            have cGH9 : (H9.1 1831) = (H.1 1831) := hf11.2.1 1831 (by decide) (by decide)
            have cAH9 : (H9.1 1830) = (H.1 1830) := hf11.2.1 1830 (by decide) (by decide)
            have fAH9 : (H9.1 1833) = (H.1 1833) := hf11.2.1 1833 (by decide) (by decide)
            have foH9 : (H9.1 1865) = (H.1 1865) := hf11.2.1 1865 (by decide) (by decide)
            have tyH9 : (H9.1 1826 1) = (H.1 1826 1) := hf11.2.2 1 (by decide)
            have cnH9 : (H9.1 1826 3) = (H.1 1826 3) := hf11.2.2 3 (by decide)
            have fnH9 : (H9.1 1826 8) = (H.1 1826 8) := hf11.2.2 8 (by decide)
            have hVH9 : VS (H9.1 1826 1) (H9.1 1861) (H9.1 1862) (H9.1 1863) (adL Ls t ((fmL (gF (TR9 Lr (H.1 1831) c a (a - 1)) (n - 1)) ((Lr g0).take i)).map (fun r => (1 + (c : Int)) :: r))) := VS_fr hVH1 hfH9 (by decide) (by decide)
            have hXH9 : PX (H9.1 1826 1) (H9.1 1865) n (adL Ls t ((fmL (gF (TR9 Lr (H.1 1831) c a (a - 1)) (n - 1)) ((Lr g0).take i)).map (fun r => (1 + (c : Int)) :: r))) Lr := by rw [tyH9, foH9]; rw [tyH1, foH1] at hXH1; exact hXH1
            refine h_run 0 (pc' := 106) (l' := [(0, .inr (.inr 1826)), (1, .inl (t : Int)), (2, .inl (c : Int)), (3, .inl (n : Int)), (4, .inl (a : Int)), (5, .inl f0), (6, .inl (i : Int))]) (st' := []) rfl ?_
            refine h_run 3 (pc' := 109) (l' := [(0, .inr (.inr 1826)), (1, .inl (t : Int)), (2, .inl (c : Int)), (3, .inl (n : Int)), (4, .inl (a : Int)), (5, .inl f0), (6, .inl (i : Int))]) (st' := [.inl (n : Int), .inl (t : Int), .inr (.inr 1826)]) rfl ?_
            refine h_cv (i := 493) (j := 211) (b := 1826) (M' := mt_211) (xs := [.inl (n : Int), .inl (t : Int)]) (rest := []) rfl rfl rfl rfl rfl rfl (Nat.le_of_ble_eq_true rfl) (Nat.le_of_ble_eq_true rfl) (by omega) (n_addValue (Ls := (adL Ls t ((fmL (gF (TR9 Lr (H.1 1831) c a (a - 1)) (n - 1)) ((Lr g0).take i)).map (fun r => (1 + (c : Int)) :: r)))) (v := ((1 + (c : Int)) :: v)) (t := t) (n := n) (by omega) hPH9 (by omega) (by omega) hVH9 (by rw [show n = 1 + v.length by omega]; exact hmkH9) (by have q9 := hmkH9.1; omega)) ?_
            rintro _ H12 ⟨rfl, hfH12, hVH12⟩
            refine h_rng (fun hrg13 => ?_)
            have hf14 : fr [53] [1856, 1861, 1862, 1863] H H12 := fr_t hf11 hfH12 (by decide) (by decide)
            have hPH12 : PWc H12 := PWc_fr hP hf14 (by decide) (by decide)
            have cGH12 : (H12.1 1831) = (H.1 1831) := hf14.2.1 1831 (by decide) (by decide)
            have cAH12 : (H12.1 1830) = (H.1 1830) := hf14.2.1 1830 (by decide) (by decide)
            have fAH12 : (H12.1 1833) = (H.1 1833) := hf14.2.1 1833 (by decide) (by decide)
            have foH12 : (H12.1 1865) = (H.1 1865) := hf14.2.1 1865 (by decide) (by decide)
            have tyH12 : (H12.1 1826 1) = (H.1 1826 1) := hf14.2.2 1 (by decide)
            have cnH12 : (H12.1 1826 3) = (H.1 1826 3) := hf14.2.2 3 (by decide)
            have fnH12 : (H12.1 1826 8) = (H.1 1826 8) := hf14.2.2 8 (by decide)
            have hXH12 : PX (H12.1 1826 1) (H12.1 1865) n (adL (adL Ls t ((fmL (gF (TR9 Lr (H.1 1831) c a (a - 1)) (n - 1)) ((Lr g0).take i)).map (fun r => (1 + (c : Int)) :: r))) t [((1 + (c : Int)) :: v)]) Lr := by rw [tyH12, foH12]; rw [tyH9, foH9] at hXH9; exact PX_ad hXH9 (by rw [← tyH9]; exact VS_len hVH9)
            refine h_run 0 (pc' := 112) (l' := [(0, .inr (.inr 1826)), (1, .inl (t : Int)), (2, .inl (c : Int)), (3, .inl (n : Int)), (4, .inl (a : Int)), (5, .inl f0), (6, .inl (i : Int))]) (st' := []) rfl ?_
            refine h_run 3 (pc' := 57) (l' := [(0, .inr (.inr 1826)), (1, .inl (t : Int)), (2, .inl (c : Int)), (3, .inl (n : Int)), (4, .inl (a : Int)), (5, .inl f0), (6, .inl ((i : Int) + 1))]) (st' := []) rfl ?_
            rw [show ((i : Int) + 1) = (((i + 1) : Nat) : Int) by omega]
            exact ih _ (a) f0 (i + 1) (g0) hf14 (VS_cg hVH12 (by rw [adL_ad, fmL_s hget0, show (TR9 Lr (H.1 1831) c a (a - 1)) = g0T from (by rw [show a - 1 = 0 by omega]; exact TR_0), gF_hit (by omega), List.map_append]; rfl)) ha (by omega) hg0 hf0 (by omega) (by omega : 10000 - (i + 1) < w)
set_option maxRecDepth 100000 in
theorem n_makeCon {zC : Nat → Option zsh} {d : Nat} (hd : 8 ≤ d) {H : hp} {Ls Lr : Nat → vls} {t c n : Nat} (hP : PWc H) (hc : (c : Int) < (H.1 1826 3)) (ht : (t : Int) < (H.1 1826 1)) (hn : 1 ≤ n ∧ n ≤ 6) (hV : VS (H.1 1826 1) (H.1 1861) (H.1 1862) (H.1 1863) Ls) (hX : PX (H.1 1826 1) (H.1 1865) n Ls Lr) : hG (zs zC) d mt_215 0 (zargs 0 [.inr (.inr 1826), .inl (t : Int), .inl (c : Int), .inl (n : Int)]) [] H (fun r9 H2 => r9 = none ∧ fr [53] [1856, 1861, 1862, 1863] H H2 ∧ VS (H2.1 1826 1) (H2.1 1861) (H2.1 1862) (H2.1 1863) (adL Ls t ((TRc Lr (H.1 1831) (H.1 1830) c (n - 1)).map (fun r => (1 + (c : Int)) :: r)))) := by
  refine h_rng (fun hrg0 => ?_)
  refine h_run 0 (pc' := 0) (l' := [(0, .inr (.inr 1826)), (1, .inl (t : Int)), (2, .inl (c : Int)), (3, .inl (n : Int))]) (st' := []) rfl ?_
  have hPH := hP
  have hVH := hV
  have hXH := hX
  have cGH : (H.1 1831) = (H.1 1831) := rfl
  have cAH : (H.1 1830) = (H.1 1830) := rfl
  have foH : (H.1 1865) = (H.1 1865) := rfl
  have tyH : (H.1 1826 1) = (H.1 1826 1) := rfl
  obtain ⟨⟨pb1, pb2, pb3, pb4, pb5⟩, pw1, pw2, pw3, pw4⟩ := (id hP : PW H (H.1 1826 1) (H.1 1826 3) (H.1 1826 8) (H.1 1826 13) (H.1 1826 19))
  obtain ⟨hca, hct, hcg⟩ := pw1 c (by omega)
  obtain ⟨a, ha⟩ : ∃ q9 : Nat, (H.1 1830) c = (q9 : Int) := ⟨((H.1 1830) c).toNat, by omega⟩
  refine h_run 3 (pc' := 5) (l' := [(0, .inr (.inr 1826)), (1, .inl (t : Int)), (2, .inl (c : Int)), (3, .inl (n : Int))]) (st' := [.inl (c : Int), .inr (.inr 1830)]) rfl ?_
  refine h_ild (c := 1830) (j := c) (i := (c : Int)) rfl rfl (by decide) rfl (by omega) ?_
  have g15 : -2147483648 ≤ (H.1 1830 c) ∧ (H.1 1830 c) ≤ 2147483647 := hrg0.2 1830 c 16 .int rfl (by omega)
  refine h_run 0 (pc' := 6) (l' := [(0, .inr (.inr 1826)), (1, .inl (t : Int)), (2, .inl (c : Int)), (3, .inl (n : Int))]) (st' := [.inl (H.1 1830 c)]) rfl ?_
  refine h_run 2 (pc' := 10) (l' := [(0, .inr (.inr 1826)), (1, .inl (t : Int)), (2, .inl (c : Int)), (3, .inl (n : Int)), (4, .inl (H.1 1830 c))]) (st' := [.inl (H.1 1830 c)]) rfl ?_
  refine h_zne (off := 24) (t := 34) rfl rfl (by omega) (fun c16 => ?_) (fun c16 => ?_)
  · have hgx0 : 0 ≤ (H.1 1831) (3 * c + 0) ∧ (H.1 1831) (3 * c + 0) < (H.1 1826 1) := hcg 0 (by omega)
    have hgy0 : 0 ≤ (H.1 1831) (3 * c) ∧ (H.1 1831) (3 * c) < (H.1 1826 1) := hgx0
    obtain ⟨g0, hg0⟩ : ∃ q9 : Nat, (H.1 1831) (3 * c + 0) = (q9 : Int) := ⟨((H.1 1831) (3 * c + 0)).toNat, by omega⟩
    refine h_run 8 (pc' := 47) (l' := [(0, .inr (.inr 1826)), (1, .inl (t : Int)), (2, .inl (c : Int)), (3, .inl (n : Int)), (4, .inl (H.1 1830 c))]) (st' := [.inl (3 * (c : Int)), .inr (.inr 1831), .inl 8, .inr (.inr 1865)]) rfl ?_
    refine h_ild (c := 1831) (j := (3 * c)) (i := (3 * (c : Int))) rfl rfl (by decide) (by omega) (by omega) ?_
    have g17 : -2147483648 ≤ (H.1 1831 (3 * c)) ∧ (H.1 1831 (3 * c)) ≤ 2147483647 := hrg0.2 1831 (3 * c) 48 .int rfl (by omega)
    refine h_run 0 (pc' := 48) (l' := [(0, .inr (.inr 1826)), (1, .inl (t : Int)), (2, .inl (c : Int)), (3, .inl (n : Int)), (4, .inl (H.1 1830 c))]) (st' := [.inl (H.1 1831 (3 * c)), .inl 8, .inr (.inr 1865)]) rfl ?_
    refine h_run 3 (pc' := 51) (l' := [(0, .inr (.inr 1826)), (1, .inl (t : Int)), (2, .inl (c : Int)), (3, .inl (n : Int)), (4, .inl (H.1 1830 c))]) (st' := [.inl ((8 * (H.1 1831 (3 * c))) + (n : Int)), .inr (.inr 1865)]) rfl ?_
    refine h_ild (c := 1865) (j := (((8 * (H.1 1831 (3 * c))) + (n : Int))).toNat) (i := ((8 * (H.1 1831 (3 * c))) + (n : Int))) rfl rfl (by decide) (by omega) (by omega) ?_
    have g18 : -2147483648 ≤ (H.1 1865 (((8 * (H.1 1831 (3 * c))) + (n : Int))).toNat) ∧ (H.1 1865 (((8 * (H.1 1831 (3 * c))) + (n : Int))).toNat) ≤ 2147483647 := hrg0.2 1865 (((8 * (H.1 1831 (3 * c))) + (n : Int))).toNat 64 .int rfl (by omega)
    refine h_run 0 (pc' := 52) (l' := [(0, .inr (.inr 1826)), (1, .inl (t : Int)), (2, .inl (c : Int)), (3, .inl (n : Int)), (4, .inl (H.1 1830 c))]) (st' := [.inl (H.1 1865 (((8 * (H.1 1831 (3 * c))) + (n : Int))).toNat)]) rfl ?_
    refine h_run 3 (pc' := 57) (l' := [(0, .inr (.inr 1826)), (1, .inl (t : Int)), (2, .inl (c : Int)), (3, .inl (n : Int)), (4, .inl (H.1 1830 c)), (5, .inl (H.1 1865 (((8 * (H.1 1831 (3 * c))) + (n : Int))).toNat)), (6, .inl 0)]) (st' := []) rfl ?_
    rw [show (H.1 1830 c) = (((a) : Nat) : Int) by omega]
    exact (n_makeCon_cut hd hP hc ht hn hV hX _) _ (a) (H.1 1865 (((8 * (H.1 1831 (3 * c))) + (n : Int))).toNat) 0 (g0) (fr_rf _ _ _) (VS_cg hV (by show Ls = adL Ls t []; exact (adL_nil (VS_len hV t ht)).symm)) ha (by omega) hg0 rfl (by omega) (Nat.lt_succ_self _)
  · refine h_run 2 (pc' := 15) (l' := [(0, .inr (.inr 1826)), (1, .inl (t : Int)), (2, .inl (c : Int)), (3, .inl (n : Int)), (4, .inl (H.1 1830 c))]) (st' := [.inl 1, .inl (n : Int)]) rfl ?_
    refine h_ine (off := 18) (t := 33) rfl rfl (by omega) (by decide) (fun c19 => ?_) (fun c19 => ?_)
    · refine h_ret rfl rfl ?_
      exact ⟨rfl, (fr_rf _ _ _), VS_cg hV (by unfold TRc; rw [show ((H.1 1830) c).toNat = 0 by omega, TR_0]; unfold g0T; rw [if_neg (by omega)]; exact (adL_nil (VS_len hV t ht)).symm)⟩
    · refine h_run 6 (pc' := 26) (l' := [(0, .inr (.inr 1826)), (1, .inl (t : Int)), (2, .inl (c : Int)), (3, .inl (n : Int)), (4, .inl (H.1 1830 c))]) (st' := [.inl (1 + (c : Int)), .inl 0, .inr (.inr 1856)]) rfl ?_
      refine h_ist (c := 1856) (j := 0) (i := 0) (x := (1 + (c : Int))) rfl rfl (by decide) (by decide) rfl (by omega) (by omega) ?_
      refine h_run 3 (pc' := 30) (l' := [(0, .inr (.inr 1826)), (1, .inl (t : Int)), (2, .inl (c : Int)), (3, .inl (n : Int)), (4, .inl (H.1 1830 c))]) (st' := [.inl 1, .inl (t : Int), .inr (.inr 1826)]) rfl ?_
      have hP9 : PWc (zu H 1856 (up (H.1 1856) 0 (1 + (c : Int)))) := (PWc_a hP (by decide))
      refine h_cv (i := 493) (j := 211) (b := 1826) (M' := mt_211) (xs := [.inl 1, .inl (t : Int)]) (rest := []) rfl rfl rfl rfl rfl rfl (Nat.le_of_ble_eq_true rfl) (Nat.le_of_ble_eq_true rfl) (by omega) (n_addValue (Ls := Ls) (v := [1 + (c : Int)]) (t := t) (n := 1) (by omega) hP9 ht (by decide) hV (MK_one (MK_0 (m := (H.1 1856))) (fun x hx => absurd hx (Nat.not_lt_zero _)) (show up (H.1 1856) 0 (1 + (c : Int)) 0 = _ from up_eq _ _ _)) rfl) ?_
      rintro _ H20 ⟨rfl, hfH20, hVH20⟩
      refine h_rng (fun hrg21 => ?_)
      have hf22 : fr [53] [1856, 1861, 1862, 1863] H H20 := fr_t (fr_a (fr_rf _ _ _) (by decide)) hfH20 (by decide) (by decide)
      refine h_run 0 (pc' := 33) (l' := [(0, .inr (.inr 1826)), (1, .inl (t : Int)), (2, .inl (c : Int)), (3, .inl (n : Int)), (4, .inl (H.1 1830 c))]) (st' := []) rfl ?_
      refine h_ret rfl rfl ?_
      exact ⟨rfl, hf22, VS_cg hVH20 (by unfold TRc; rw [show ((H.1 1830) c).toNat = 0 by omega, TR_0]; unfold g0T; rw [if_pos (by omega)]; rfl)⟩
