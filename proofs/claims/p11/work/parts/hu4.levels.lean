/-! the reference lists all small values, told exactly -/
def LN9 (X : rx) (al : Bool) (n : Nat) : Nat → vls := fun u => (vL X al (u : Int) n).take 2001
def LM9 (X : rx) (al : Bool) (n t : Nat) : Nat → vls := fun u => if u < t then (vL X al (u : Int) n).take 2001 else (vL X al (u : Int) (n - 1)).take 2001
def LC9 (X : rx) (al : Bool) (n t c : Nat) : Nat → vls := upL (LM9 X al n t) t ((vL X al (t : Int) (n - 1) ++ (vU al n ++ fmN (vcL (vv X al) X (t : Int) n) c)).take 2001)
theorem LM_t {X : rx} {al : Bool} {n t : Nat} : LM9 X al n t t = (vL X al (t : Int) (n - 1)).take 2001 := if_neg (Nat.lt_irrefl _)
theorem vL_s {X : rx} {al : Bool} {t : Int} {n : Nat} (hn : 1 ≤ n) : vL X al t (n - 1) ++ (vU al n ++ fmN (vcL (vv X al) X t n) (nC9 X)) = vL X al t n := by
  obtain ⟨m, rfl⟩ : ∃ m, n = m + 1 := ⟨n - 1, by omega⟩
  rw [Nat.add_sub_cancel]
  show _ = vL X al t m ++ vv X al (m + 1) t
  rw [vv_eq]
  rfl
theorem VS_cg2 {tn : Int} {va vz vc : Nat → Int} {Ls Ls' : Nat → vls} (h : VS tn va vz vc Ls) (e : ∀ u : Nat, (u : Int) < tn → Ls u = Ls' u) : VS tn va vz vc Ls' := fun u hu => e u hu ▸ h u hu
theorem PX_cg2 {tn : Int} {fo : Nat → Int} {n : Nat} {Ls Ls' Lr : Nat → vls} (h : PX tn fo n Ls Lr) (e : ∀ u : Nat, (u : Int) < tn → Ls u = Ls' u) : PX tn fo n Ls' Lr := fun u hu => e u hu ▸ h u hu
theorem VS_0 {tn : Int} {va vz vc : Nat → Int} {X : rx} {al : Bool} (h : ∀ u : Nat, (u : Int) < tn → vc u = 0) : VS tn va vz vc (LN9 X al 0) := fun u hu => ⟨h u hu, Nat.zero_le _, fun i v hi => absurd (show ([] : vls)[i]? = some v from hi) (by rw [List.getElem?_nil]; exact fun q => by cases q)⟩
theorem PX_0 {tn : Int} {va vz vc fo : Nat → Int} {X : rx} {al : Bool} {n m : Nat} (h : VS tn va vz vc (LN9 X al m)) (hf : ∀ u : Nat, (u : Int) < tn → fo (8 * u + n) = vc u) : PX tn fo n (LN9 X al m) (LN9 X al m) := fun u hu => ⟨(hf u hu).trans (h u hu).1, ⟨[], (List.append_nil _).symm⟩, List.Pairwise.sublist (List.take_sublist _ _) (vL_pw m)⟩
theorem LM_0 {X : rx} {al : Bool} {n : Nat} : LM9 X al n 0 = LN9 X al (n - 1) := by
  funext u
  exact if_neg (Nat.not_lt_zero _)
theorem LM_all {X : rx} {al : Bool} {n t u : Nat} (h : u < t) : LM9 X al n t u = LN9 X al n u := if_pos h
theorem LC_0 {X : rx} {al : Bool} {n t : Nat} (h : ¬ (al = true ∧ n = 1)) : LC9 X al n t 0 = LM9 X al n t := by
  unfold LC9
  have e : vL X al (t : Int) (n - 1) ++ (vU al n ++ fmN (vcL (vv X al) X (t : Int) n) 0) = vL X al (t : Int) (n - 1) := by
    unfold vU
    rw [if_neg h]
    exact List.append_nil _
  rw [e, ← LM_t, upL_id]
theorem LC_1 {X : rx} {al : Bool} {n t : Nat} (h : al = true ∧ n = 1) : adL (LM9 X al n t) t [[0]] = LC9 X al n t 0 := by
  unfold LC9 adL addN
  have e : vL X al (t : Int) (n - 1) ++ (vU al n ++ fmN (vcL (vv X al) X (t : Int) n) 0) = vL X al (t : Int) (n - 1) ++ [[0]] := by
    unfold vU
    rw [if_pos h]
    rfl
  rw [e, LM_t, tk_tk]
theorem LC_no {X : rx} {al : Bool} {n t c : Nat} (h : X 3 c ≠ (t : Int)) : LC9 X al n t c = LC9 X al n t (c + 1) := by
  unfold LC9
  have e : fmN (vcL (vv X al) X (t : Int) n) (c + 1) = fmN (vcL (vv X al) X (t : Int) n) c := by
    show _ ++ vcL (vv X al) X (t : Int) n c = _
    rw [show vcL (vv X al) X (t : Int) n c = [] from if_neg h, List.append_nil]
  rw [e]
theorem LC_con {X : rx} {al : Bool} {n t c : Nat} {cG : Nat → Int} (hn : 1 ≤ n) (ht : X 3 c = (t : Int)) (hc : c < nC9 X) (ha : ∀ k, k < aQ9 X c → cG (3 * c + k) = agC X c k ∧ 0 ≤ agC X c k) : adL (LC9 X al n t c) t ((TR9 (LN9 X al (n - 1)) cG c (aQ9 X c) (aQ9 X c) (n - 1)).map (fun r => (1 + (c : Int)) :: r)) = LC9 X al n t (c + 1) := by
  have h1 : TR9 (LN9 X al (n - 1)) cG c (aQ9 X c) (aQ9 X c) (n - 1) = tuR (fun u => LN9 X al (n - 1) u.toNat) (agC X c) (aQ9 X c) (aQ9 X c) (n - 1) := tuR_ag (fun k hk => (ha k hk).1) (Nat.le_refl _)
  have h2 := add_con (X := X) (al := al) (Lr := fun u => LN9 X al (n - 1) u.toNat) (n := n - 1) (c := c) (t := (t : Int)) (B := vL X al (t : Int) (n - 1) ++ (vU al n ++ fmN (vcL (vv X al) X (t : Int) n) c)) (fun k hk => by
    show (vL X al (((agC X c k).toNat : Nat) : Int) (n - 1)).take 2001 = _
    rw [show (((agC X c k).toNat : Nat) : Int) = agC X c k by have := (ha k hk).2; omega]) ht hc (by rw [List.length_append]; omega)
  rw [show n - 1 + 1 = n by omega] at h2
  unfold adL LC9 addN
  rw [upL_eq, upL_up, tk_tk, h1, h2]
  show _ = upL (LM9 X al n t) t ((vL X al (t : Int) (n - 1) ++ (vU al n ++ (fmN (vcL (vv X al) X (t : Int) n) c ++ vcL (vv X al) X (t : Int) n c))).take 2001)
  rw [List.append_assoc, List.append_assoc]
theorem LC_end {X : rx} {al : Bool} {n t c u : Nat} (hn : 1 ≤ n) (hc : c = nC9 X) : LC9 X al n t c u = LM9 X al n (t + 1) u := by
  subst hc
  unfold LC9
  rw [vL_s hn]
  by_cases e : u = t
  · subst e
    rw [upL_eq]
    exact (if_pos (Nat.lt_succ_self _)).symm
  · rw [upL_ne _ _ e]
    unfold LM9
    by_cases q : u < t
    · rw [if_pos q, if_pos (by omega)]
    · rw [if_neg q, if_neg (by omega)]

/-! makeValues -/
set_option maxRecDepth 100000 in
theorem n_makeValues_cut {zC : Nat → Option zsh} {d : Nat} (hd : 10 ≤ d) {H : hp} {X : rx} {al : Bool} {mo : Nat} {alz : Int} (hP : PWc H) (hX : RT9 H X) (hm : 1 ≤ mo ∧ mo ≤ 6) (hal : hid ((al = false → alz = 0) ∧ (al = true → alz = 1))) (halz : 0 ≤ alz ∧ alz ≤ 1) : ∀ w : Nat, (∀ (H1 : hp) (t : Nat), (fr [53] [1856, 1861, 1862, 1863, 1865] H H1) → (∀ u : Nat, u < t → (H1.1 1863) u = 0) → (t ≤ 6) → 100000000 - t < w → hG (zs zC) d mt_212 2 [(0, .inr (.inr 1826)), (1, .inl (mo : Int)), (2, .inl alz), (3, .inl (t : Int))] [] H1 (fun r9 H2 => r9 = none ∧ fr [53] [1856, 1861, 1862, 1863, 1865] H H2 ∧ VS (H2.1 1826 1) (H2.1 1861) (H2.1 1862) (H2.1 1863) (LN9 X al mo))) ∧ (∀ (H1 : hp) (n : Nat), (fr [53] [1856, 1861, 1862, 1863, 1865] H H1) → (VS (H1.1 1826 1) (H1.1 1861) (H1.1 1862) (H1.1 1863) (LN9 X al (n - 1))) → (1 ≤ n ∧ n ≤ mo + 1) → 50000000 - 50000 * n < w → hG (zs zC) d mt_212 25 [(0, .inr (.inr 1826)), (1, .inl (mo : Int)), (2, .inl alz), (3, .inl (n : Int))] [] H1 (fun r9 H2 => r9 = none ∧ fr [53] [1856, 1861, 1862, 1863, 1865] H H2 ∧ VS (H2.1 1826 1) (H2.1 1861) (H2.1 1862) (H2.1 1863) (LN9 X al mo))) ∧ (∀ (H1 : hp) (n : Nat) (t : Nat), (fr [53] [1856, 1861, 1862, 1863, 1865] H H1) → (VS (H1.1 1826 1) (H1.1 1861) (H1.1 1862) (H1.1 1863) (LN9 X al (n - 1))) → (1 ≤ n ∧ n ≤ mo) → (t ≤ 6) → (∀ u : Nat, u < t → (H1.1 1865) (8 * u + n) = (H1.1 1863) u) → 50000000 - 50000 * n - 100 - t < w → hG (zs zC) d mt_212 33 [(0, .inr (.inr 1826)), (1, .inl (mo : Int)), (2, .inl alz), (3, .inl (n : Int)), (4, .inl (t : Int))] [] H1 (fun r9 H2 => r9 = none ∧ fr [53] [1856, 1861, 1862, 1863, 1865] H H2 ∧ VS (H2.1 1826 1) (H2.1 1861) (H2.1 1862) (H2.1 1863) (LN9 X al mo))) ∧ (∀ (H1 : hp) (n : Nat) (t : Nat), (fr [53] [1856, 1861, 1862, 1863, 1865] H H1) → (VS (H1.1 1826 1) (H1.1 1861) (H1.1 1862) (H1.1 1863) (LM9 X al n t)) → (PX (H1.1 1826 1) (H1.1 1865) n (LM9 X al n t) (LN9 X al (n - 1))) → (1 ≤ n ∧ n ≤ mo) → (t ≤ 6) → 50000000 - 50000 * n - 1000 - 100 * t < w → hG (zs zC) d mt_212 70 [(0, .inr (.inr 1826)), (1, .inl (mo : Int)), (2, .inl alz), (3, .inl (n : Int)), (4, .inl (t : Int))] [] H1 (fun r9 H2 => r9 = none ∧ fr [53] [1856, 1861, 1862, 1863, 1865] H H2 ∧ VS (H2.1 1826 1) (H2.1 1861) (H2.1 1862) (H2.1 1863) (LN9 X al mo))) ∧ (∀ (H1 : hp) (n : Nat) (t : Nat) (c : Nat), (fr [53] [1856, 1861, 1862, 1863, 1865] H H1) → (VS (H1.1 1826 1) (H1.1 1861) (H1.1 1862) (H1.1 1863) (LC9 X al n t c)) → (PX (H1.1 1826 1) (H1.1 1865) n (LC9 X al n t c) (LN9 X al (n - 1))) → (1 ≤ n ∧ n ≤ mo) → ((t : Int) < (H.1 1826 1)) → (c ≤ 16 ∧ (c : Int) ≤ (H.1 1826 3)) → 50000000 - 50000 * n - 1000 - 100 * t - 10 - c < w → hG (zs zC) d mt_212 105 [(0, .inr (.inr 1826)), (1, .inl (mo : Int)), (2, .inl alz), (3, .inl (n : Int)), (4, .inl (t : Int)), (5, .inl (c : Int))] [] H1 (fun r9 H2 => r9 = none ∧ fr [53] [1856, 1861, 1862, 1863, 1865] H H2 ∧ VS (H2.1 1826 1) (H2.1 1861) (H2.1 1862) (H2.1 1863) (LN9 X al mo))) := by
  intro w
  induction w with
  | zero => exact ⟨fun _ _ _ _ _ h => absurd h (Nat.not_lt_zero _), fun _ _ _ _ _ h => absurd h (Nat.not_lt_zero _), fun _ _ _ _ _ _ _ _ h => absurd h (Nat.not_lt_zero _), fun _ _ _ _ _ _ _ _ h => absurd h (Nat.not_lt_zero _), fun _ _ _ _ _ _ _ _ _ _ h => absurd h (Nat.not_lt_zero _)⟩
  | succ w ih =>
    refine ⟨?_, ?_, ?_, ?_, ?_⟩
    · intro H1 t hf hz0 ht hw
      refine h_rng (fun hrg1 => ?_)
      obtain ⟨⟨pb1, pb2, pb3, pb4, pb5⟩, pw1, pw2, pw3, pw4⟩ := (id hP : PW H (H.1 1826 1) (H.1 1826 3) (H.1 1826 8) (H.1 1826 13) (H.1 1826 19))
      have hPH1 : PWc H1 := PWc_fr hP hf (by decide) (by decide)
      have cGH1 : (H1.1 1831) = (H.1 1831) := hf.2.1 1831 (by decide) (by decide)
      have cAH1 : (H1.1 1830) = (H.1 1830) := hf.2.1 1830 (by decide) (by decide)
      have fAH1 : (H1.1 1833) = (H.1 1833) := hf.2.1 1833 (by decide) (by decide)
      have tyH1 : (H1.1 1826 1) = (H.1 1826 1) := hf.2.2 1 (by decide)
      have cnH1 : (H1.1 1826 3) = (H.1 1826 3) := hf.2.2 3 (by decide)
      have fnH1 : (H1.1 1826 8) = (H.1 1826 8) := hf.2.2 8 (by decide)
      have cTH1 : (H1.1 1829) = (H.1 1829) := hf.2.1 1829 (by decide) (by decide)
      have hX1 : RT9 H1 X := RT_fr hX hf (by decide) (by decide)
      obtain ⟨⟨xr3, xr4⟩, xrc⟩ := id hX1
      refine h_run 3 (pc' := 7) (l' := [(0, .inr (.inr 1826)), (1, .inl (mo : Int)), (2, .inl alz), (3, .inl (t : Int))]) (st' := [.inl (H1.1 1826 1), .inl (t : Int)]) rfl ?_
      have g2 : -2147483648 ≤ (H1.1 1826 1) ∧ (H1.1 1826 1) ≤ 2147483647 := hrg1.1 1826 13 1 _ .int rfl rfl
      have e3 : (H1.1 1826 1) = (H.1 1826 1) := hf.2.2 1 (by decide)
      refine h_ige (off := 16) (t := 23) rfl rfl (by omega) (by omega) (fun c4 => ?_) (fun c4 => ?_)
      · refine h_run 2 (pc' := 25) (l' := [(0, .inr (.inr 1826)), (1, .inl (mo : Int)), (2, .inl alz), (3, .inl 1)]) (st' := []) rfl ?_
        exact ih.2.1 _ 1 hf (VS_0 (fun u9 h9 => hz0 u9 (by omega))) (by omega) (by omega : 50000000 - 50000 * 1 < w)
      · refine h_run 4 (pc' := 16) (l' := [(0, .inr (.inr 1826)), (1, .inl (mo : Int)), (2, .inl alz), (3, .inl (t : Int))]) (st' := [.inl 0, .inl (t : Int), .inr (.inr 1863)]) rfl ?_
        refine h_ist (c := 1863) (j := t) (i := (t : Int)) (x := 0) rfl rfl (by decide) (by decide) rfl (by omega) (by decide) ?_
        refine h_run 2 (pc' := 2) (l' := [(0, .inr (.inr 1826)), (1, .inl (mo : Int)), (2, .inl alz), (3, .inl ((t : Int) + 1))]) (st' := []) rfl ?_
        rw [show ((t : Int) + 1) = (((t + 1) : Nat) : Int) by omega]
        exact ih.1 _ (t + 1) (fr_a hf (by decide)) (z0_up hz0) (by omega) (by omega : 100000000 - (t + 1) < w)
    · intro H1 n hf hVH1 hn hw
      refine h_rng (fun hrg5 => ?_)
      obtain ⟨⟨pb1, pb2, pb3, pb4, pb5⟩, pw1, pw2, pw3, pw4⟩ := (id hP : PW H (H.1 1826 1) (H.1 1826 3) (H.1 1826 8) (H.1 1826 13) (H.1 1826 19))
      have hPH1 : PWc H1 := PWc_fr hP hf (by decide) (by decide)
      have cGH1 : (H1.1 1831) = (H.1 1831) := hf.2.1 1831 (by decide) (by decide)
      have cAH1 : (H1.1 1830) = (H.1 1830) := hf.2.1 1830 (by decide) (by decide)
      have fAH1 : (H1.1 1833) = (H.1 1833) := hf.2.1 1833 (by decide) (by decide)
      have tyH1 : (H1.1 1826 1) = (H.1 1826 1) := hf.2.2 1 (by decide)
      have cnH1 : (H1.1 1826 3) = (H.1 1826 3) := hf.2.2 3 (by decide)
      have fnH1 : (H1.1 1826 8) = (H.1 1826 8) := hf.2.2 8 (by decide)
      have cTH1 : (H1.1 1829) = (H.1 1829) := hf.2.1 1829 (by decide) (by decide)
      have hX1 : RT9 H1 X := RT_fr hX hf (by decide) (by decide)
      obtain ⟨⟨xr3, xr4⟩, xrc⟩ := id hX1
      refine h_run 2 (pc' := 27) (l' := [(0, .inr (.inr 1826)), (1, .inl (mo : Int)), (2, .inl alz), (3, .inl (n : Int))]) (st' := [.inl (mo : Int), .inl (n : Int)]) rfl ?_
      refine h_igt (off := 126) (t := 153) rfl rfl (by omega) (by omega) (fun c6 => ?_) (fun c6 => ?_)
      · refine h_ret rfl rfl ?_
        exact ⟨rfl, hf, by rw [show mo = n - 1 by omega]; exact hVH1⟩
      · refine h_run 2 (pc' := 33) (l' := [(0, .inr (.inr 1826)), (1, .inl (mo : Int)), (2, .inl alz), (3, .inl (n : Int)), (4, .inl 0)]) (st' := []) rfl ?_
        exact ih.2.2.1 _ n 0 hf hVH1 (by omega) (by omega) (fun _ h9 => absurd h9 (Nat.not_lt_zero _)) (by omega : 50000000 - 50000 * n - 100 - 0 < w)
    · intro H1 n t hf hVH1 hn ht hfo hw
      refine h_rng (fun hrg7 => ?_)
      obtain ⟨⟨pb1, pb2, pb3, pb4, pb5⟩, pw1, pw2, pw3, pw4⟩ := (id hP : PW H (H.1 1826 1) (H.1 1826 3) (H.1 1826 8) (H.1 1826 13) (H.1 1826 19))
      have hPH1 : PWc H1 := PWc_fr hP hf (by decide) (by decide)
      have cGH1 : (H1.1 1831) = (H.1 1831) := hf.2.1 1831 (by decide) (by decide)
      have cAH1 : (H1.1 1830) = (H.1 1830) := hf.2.1 1830 (by decide) (by decide)
      have fAH1 : (H1.1 1833) = (H.1 1833) := hf.2.1 1833 (by decide) (by decide)
      have tyH1 : (H1.1 1826 1) = (H.1 1826 1) := hf.2.2 1 (by decide)
      have cnH1 : (H1.1 1826 3) = (H.1 1826 3) := hf.2.2 3 (by decide)
      have fnH1 : (H1.1 1826 8) = (H.1 1826 8) := hf.2.2 8 (by decide)
      have cTH1 : (H1.1 1829) = (H.1 1829) := hf.2.1 1829 (by decide) (by decide)
      have hX1 : RT9 H1 X := RT_fr hX hf (by decide) (by decide)
      obtain ⟨⟨xr3, xr4⟩, xrc⟩ := id hX1
      refine h_run 3 (pc' := 39) (l' := [(0, .inr (.inr 1826)), (1, .inl (mo : Int)), (2, .inl alz), (3, .inl (n : Int)), (4, .inl (t : Int))]) (st' := [.inl (H1.1 1826 1), .inl (t : Int)]) rfl ?_
      have g8 : -2147483648 ≤ (H1.1 1826 1) ∧ (H1.1 1826 1) ≤ 2147483647 := hrg7.1 1826 13 1 _ .int rfl rfl
      have e9 : (H1.1 1826 1) = (H.1 1826 1) := hf.2.2 1 (by decide)
      refine h_ige (off := 28) (t := 67) rfl rfl (by omega) (by omega) (fun c10 => ?_) (fun c10 => ?_)
      · refine h_run 2 (pc' := 70) (l' := [(0, .inr (.inr 1826)), (1, .inl (mo : Int)), (2, .inl alz), (3, .inl (n : Int)), (4, .inl 0)]) (st' := []) rfl ?_
        exact ih.2.2.2.1 _ n 0 hf (by rw [LM_0]; exact hVH1) (by rw [LM_0]; exact PX_0 hVH1 (fun u9 h9 => hfo u9 (by omega))) (by omega) (by omega) (by omega : 50000000 - 50000 * n - 1000 - 100 * 0 < w)
      · refine h_run 10 (pc' := 59) (l' := [(0, .inr (.inr 1826)), (1, .inl (mo : Int)), (2, .inl alz), (3, .inl (n : Int)), (4, .inl (t : Int))]) (st' := [.inl (t : Int), .inr (.inr 1863), .inl ((8 * (t : Int)) + (n : Int)), .inr (.inr 1865)]) rfl ?_
        refine h_ild (c := 1863) (j := t) (i := (t : Int)) rfl rfl (by decide) rfl (by omega) ?_
        have g11 : -2147483648 ≤ (H1.1 1863 t) ∧ (H1.1 1863 t) ≤ 2147483647 := hrg7.2 1863 t 6 .int rfl (by omega)
        refine h_run 0 (pc' := 60) (l' := [(0, .inr (.inr 1826)), (1, .inl (mo : Int)), (2, .inl alz), (3, .inl (n : Int)), (4, .inl (t : Int))]) (st' := [.inl (H1.1 1863 t), .inl ((8 * (t : Int)) + (n : Int)), .inr (.inr 1865)]) rfl ?_
        refine h_ist (c := 1865) (j := ((8 * t) + n)) (i := ((8 * (t : Int)) + (n : Int))) (x := (H1.1 1863 t)) rfl rfl (by decide) (by decide) (by omega) (by omega) (by omega) ?_
        refine h_run 2 (pc' := 33) (l' := [(0, .inr (.inr 1826)), (1, .inl (mo : Int)), (2, .inl alz), (3, .inl (n : Int)), (4, .inl ((t : Int) + 1))]) (st' := []) rfl ?_
        rw [show ((t : Int) + 1) = (((t + 1) : Nat) : Int) by omega]
        exact ih.2.2.1 _ n (t + 1) (fr_a hf (by decide)) hVH1 (by omega) (by omega) (FE_up hfo rfl) (by omega : 50000000 - 50000 * n - 100 - (t + 1) < w)
    · intro H1 n t hf hVH1 hXH1 hn ht hw
      refine h_rng (fun hrg12 => ?_)
      obtain ⟨⟨pb1, pb2, pb3, pb4, pb5⟩, pw1, pw2, pw3, pw4⟩ := (id hP : PW H (H.1 1826 1) (H.1 1826 3) (H.1 1826 8) (H.1 1826 13) (H.1 1826 19))
      have hPH1 : PWc H1 := PWc_fr hP hf (by decide) (by decide)
      have cGH1 : (H1.1 1831) = (H.1 1831) := hf.2.1 1831 (by decide) (by decide)
      have cAH1 : (H1.1 1830) = (H.1 1830) := hf.2.1 1830 (by decide) (by decide)
      have fAH1 : (H1.1 1833) = (H.1 1833) := hf.2.1 1833 (by decide) (by decide)
      have tyH1 : (H1.1 1826 1) = (H.1 1826 1) := hf.2.2 1 (by decide)
      have cnH1 : (H1.1 1826 3) = (H.1 1826 3) := hf.2.2 3 (by decide)
      have fnH1 : (H1.1 1826 8) = (H.1 1826 8) := hf.2.2 8 (by decide)
      have cTH1 : (H1.1 1829) = (H.1 1829) := hf.2.1 1829 (by decide) (by decide)
      have hX1 : RT9 H1 X := RT_fr hX hf (by decide) (by decide)
      obtain ⟨⟨xr3, xr4⟩, xrc⟩ := id hX1
      refine h_run 3 (pc' := 76) (l' := [(0, .inr (.inr 1826)), (1, .inl (mo : Int)), (2, .inl alz), (3, .inl (n : Int)), (4, .inl (t : Int))]) (st' := [.inl (H1.1 1826 1), .inl (t : Int)]) rfl ?_
      have g13 : -2147483648 ≤ (H1.1 1826 1) ∧ (H1.1 1826 1) ≤ 2147483647 := hrg12.1 1826 13 1 _ .int rfl rfl
      have e14 : (H1.1 1826 1) = (H.1 1826 1) := hf.2.2 1 (by decide)
      refine h_ige (off := 71) (t := 147) rfl rfl (by omega) (by omega) (fun c15 => ?_) (fun c15 => ?_)
      · refine h_run 2 (pc' := 25) (l' := [(0, .inr (.inr 1826)), (1, .inl (mo : Int)), (2, .inl alz), (3, .inl ((n : Int) + 1)), (4, .inl (t : Int))]) (st' := []) rfl ?_
        refine h_loc [0, 1, 2, 3] rfl ?_
        rw [show ((n : Int) + 1) = (((n + 1) : Nat) : Int) by omega]
        exact ih.2.1 _ (n + 1) hf (by rw [Nat.add_sub_cancel]; exact VS_cg2 hVH1 (fun u9 h9 => LM_all (by omega))) (by omega) (by omega : 50000000 - 50000 * (n + 1) < w)
      · refine h_run 2 (pc' := 81) (l' := [(0, .inr (.inr 1826)), (1, .inl (mo : Int)), (2, .inl alz), (3, .inl (n : Int)), (4, .inl (t : Int))]) (st' := [.inl 1, .inl (n : Int)]) rfl ?_
        refine h_ine (off := 21) (t := 102) rfl rfl (by omega) (by decide) (fun c16 => ?_) (fun c16 => ?_)
        · refine h_run 2 (pc' := 105) (l' := [(0, .inr (.inr 1826)), (1, .inl (mo : Int)), (2, .inl alz), (3, .inl (n : Int)), (4, .inl (t : Int)), (5, .inl 0)]) (st' := []) rfl ?_
          exact ih.2.2.2.2 _ n t 0 hf (by rw [LC_0 (by intro q9; have q8 := (id hal : (al = false → alz = 0) ∧ (al = true → alz = 1)).2 q9.1; omega)]; exact hVH1) (by rw [LC_0 (by intro q9; have q8 := (id hal : (al = false → alz = 0) ∧ (al = true → alz = 1)).2 q9.1; omega)]; exact hXH1) (by omega) (by omega) (by omega) (by omega : 50000000 - 50000 * n - 1000 - 100 * t - 10 - 0 < w)
        · refine h_run 1 (pc' := 85) (l' := [(0, .inr (.inr 1826)), (1, .inl (mo : Int)), (2, .inl alz), (3, .inl (n : Int)), (4, .inl (t : Int))]) (st' := [.inl alz]) rfl ?_
          refine h_zeq (off := 17) (t := 102) rfl rfl (by omega) (fun c17 => ?_) (fun c17 => ?_)
          · refine h_run 2 (pc' := 105) (l' := [(0, .inr (.inr 1826)), (1, .inl (mo : Int)), (2, .inl alz), (3, .inl (n : Int)), (4, .inl (t : Int)), (5, .inl 0)]) (st' := []) rfl ?_
            exact ih.2.2.2.2 _ n t 0 hf (by rw [LC_0 (by intro q9; have q8 := (id hal : (al = false → alz = 0) ∧ (al = true → alz = 1)).2 q9.1; omega)]; exact hVH1) (by rw [LC_0 (by intro q9; have q8 := (id hal : (al = false → alz = 0) ∧ (al = true → alz = 1)).2 q9.1; omega)]; exact hXH1) (by omega) (by omega) (by omega) (by omega : 50000000 - 50000 * n - 1000 - 100 * t - 10 - 0 < w)
          · refine h_run 4 (pc' := 94) (l' := [(0, .inr (.inr 1826)), (1, .inl (mo : Int)), (2, .inl alz), (3, .inl (n : Int)), (4, .inl (t : Int))]) (st' := [.inl 0, .inl 0, .inr (.inr 1856)]) rfl ?_
            refine h_ist (c := 1856) (j := 0) (i := 0) (x := 0) rfl rfl (by decide) (by decide) rfl (by omega) (by decide) ?_
            refine h_run 3 (pc' := 99) (l' := [(0, .inr (.inr 1826)), (1, .inl (mo : Int)), (2, .inl alz), (3, .inl (n : Int)), (4, .inl (t : Int))]) (st' := [.inl 1, .inl (t : Int), .inr (.inr 1826)]) rfl ?_
            have hP9 : PWc (zu H1 1856 (up (H1.1 1856) 0 0)) := (PWc_a hPH1 (by decide))
            have hal9 : al = true := by rcases Bool.eq_false_or_eq_true al with q8 | q8; { exact q8 }; { have q9 := (id hal : (al = false → alz = 0) ∧ (al = true → alz = 1)).1 q8; exfalso; omega }
            refine h_cv (i := 493) (j := 211) (b := 1826) (M' := mt_211) (xs := [.inl 1, .inl (t : Int)]) (rest := []) rfl rfl rfl rfl rfl rfl (Nat.le_of_ble_eq_true rfl) (Nat.le_of_ble_eq_true rfl) (by omega) (n_addValue (Ls := LM9 X al n t) (v := [0]) (t := t) (n := 1) (by omega) hP9 (by omega : (t : Int) < (H1.1 1826 1)) (by decide) hVH1 (MK_one (MK_0 (m := (H1.1 1856))) (fun x hx => absurd hx (Nat.not_lt_zero _)) (show up (H1.1 1856) 0 0 0 = 0 from up_eq _ _ _)) rfl) ?_
            rintro _ H18 ⟨rfl, hfH18, hVH18⟩
            refine h_rng (fun hrg19 => ?_)
            have hf20 : fr [53] [1856, 1861, 1862, 1863, 1865] H H18 := fr_t (fr_a hf (by decide)) hfH18 (by decide) (by decide)
            have hPH18 : PWc H18 := PWc_fr hP hf20 (by decide) (by decide)
            have cGH18 : (H18.1 1831) = (H.1 1831) := hf20.2.1 1831 (by decide) (by decide)
            have cAH18 : (H18.1 1830) = (H.1 1830) := hf20.2.1 1830 (by decide) (by decide)
            have fAH18 : (H18.1 1833) = (H.1 1833) := hf20.2.1 1833 (by decide) (by decide)
            have tyH18 : (H18.1 1826 1) = (H.1 1826 1) := hf20.2.2 1 (by decide)
            have cnH18 : (H18.1 1826 3) = (H.1 1826 3) := hf20.2.2 3 (by decide)
            have fnH18 : (H18.1 1826 8) = (H.1 1826 8) := hf20.2.2 8 (by decide)
            have cTH18 : (H18.1 1829) = (H.1 1829) := hf20.2.1 1829 (by decide) (by decide)
            have hV9 : VS (H18.1 1826 1) (H18.1 1861) (H18.1 1862) (H18.1 1863) (LC9 X al n t 0) := VS_cg hVH18 (LC_1 ⟨hal9, by omega⟩)
            have foH18 : (H18.1 1865) = (H1.1 1865) := hfH18.2.1 1865 (by decide) (by decide)
            have hX9 : PX (H18.1 1826 1) (H18.1 1865) n (LC9 X al n t 0) (LN9 X al (n - 1)) := by rw [← LC_1 ⟨hal9, by omega⟩, tyH18, foH18, ← tyH1]; exact PX_ad hXH1 (VS_len hVH1)
            refine h_run 0 (pc' := 102) (l' := [(0, .inr (.inr 1826)), (1, .inl (mo : Int)), (2, .inl alz), (3, .inl (n : Int)), (4, .inl (t : Int))]) (st' := []) rfl ?_
            refine h_run 2 (pc' := 105) (l' := [(0, .inr (.inr 1826)), (1, .inl (mo : Int)), (2, .inl alz), (3, .inl (n : Int)), (4, .inl (t : Int)), (5, .inl 0)]) (st' := []) rfl ?_
            exact ih.2.2.2.2 _ n t 0 hf20 hV9 hX9 (by omega) (by omega) (by omega) (by omega : 50000000 - 50000 * n - 1000 - 100 * t - 10 - 0 < w)
    · intro H1 n t c hf hVH1 hXH1 hn ht hc hw
      refine h_rng (fun hrg21 => ?_)
      obtain ⟨⟨pb1, pb2, pb3, pb4, pb5⟩, pw1, pw2, pw3, pw4⟩ := (id hP : PW H (H.1 1826 1) (H.1 1826 3) (H.1 1826 8) (H.1 1826 13) (H.1 1826 19))
      have hPH1 : PWc H1 := PWc_fr hP hf (by decide) (by decide)
      have cGH1 : (H1.1 1831) = (H.1 1831) := hf.2.1 1831 (by decide) (by decide)
      have cAH1 : (H1.1 1830) = (H.1 1830) := hf.2.1 1830 (by decide) (by decide)
      have fAH1 : (H1.1 1833) = (H.1 1833) := hf.2.1 1833 (by decide) (by decide)
      have tyH1 : (H1.1 1826 1) = (H.1 1826 1) := hf.2.2 1 (by decide)
      have cnH1 : (H1.1 1826 3) = (H.1 1826 3) := hf.2.2 3 (by decide)
      have fnH1 : (H1.1 1826 8) = (H.1 1826 8) := hf.2.2 8 (by decide)
      have cTH1 : (H1.1 1829) = (H.1 1829) := hf.2.1 1829 (by decide) (by decide)
      have hX1 : RT9 H1 X := RT_fr hX hf (by decide) (by decide)
      obtain ⟨⟨xr3, xr4⟩, xrc⟩ := id hX1
      refine h_run 3 (pc' := 111) (l' := [(0, .inr (.inr 1826)), (1, .inl (mo : Int)), (2, .inl alz), (3, .inl (n : Int)), (4, .inl (t : Int)), (5, .inl (c : Int))]) (st' := [.inl (H1.1 1826 3), .inl (c : Int)]) rfl ?_
      have g22 : -2147483648 ≤ (H1.1 1826 3) ∧ (H1.1 1826 3) ≤ 2147483647 := hrg21.1 1826 13 3 _ .int rfl rfl
      have e23 : (H1.1 1826 3) = (H.1 1826 3) := hf.2.2 3 (by decide)
      refine h_ige (off := 30) (t := 141) rfl rfl (by omega) (by omega) (fun c24 => ?_) (fun c24 => ?_)
      · refine h_run 2 (pc' := 70) (l' := [(0, .inr (.inr 1826)), (1, .inl (mo : Int)), (2, .inl alz), (3, .inl (n : Int)), (4, .inl ((t : Int) + 1)), (5, .inl (c : Int))]) (st' := []) rfl ?_
        refine h_loc [0, 1, 2, 3, 4] rfl ?_
        rw [show ((t : Int) + 1) = (((t + 1) : Nat) : Int) by omega]
        exact ih.2.2.2.1 _ n (t + 1) hf (VS_cg2 hVH1 (fun u9 h9 => LC_end (by omega) (by unfold nC9; omega))) (PX_cg2 hXH1 (fun u9 h9 => LC_end (by omega) (by unfold nC9; omega))) (by omega) (by omega) (by omega : 50000000 - 50000 * n - 1000 - 100 * (t + 1) < w)
      · have hcc : (c : Int) < (H.1 1826 3) := by omega
        have hcx := pw1 c hcc
        refine h_run 3 (pc' := 120) (l' := [(0, .inr (.inr 1826)), (1, .inl (mo : Int)), (2, .inl alz), (3, .inl (n : Int)), (4, .inl (t : Int)), (5, .inl (c : Int))]) (st' := [.inl (c : Int), .inr (.inr 1829)]) rfl ?_
        refine h_ild (c := 1829) (j := c) (i := (c : Int)) rfl rfl (by decide) rfl (by omega) ?_
        have g25 : -2147483648 ≤ (H1.1 1829 c) ∧ (H1.1 1829 c) ≤ 2147483647 := hrg21.2 1829 c 16 .int rfl (by omega)
        have e26 : (H1.1 1829 c) = (H.1 1829 c) := congrFun (hf.2.1 1829 (by decide) (by decide)) c
        refine h_run 0 (pc' := 121) (l' := [(0, .inr (.inr 1826)), (1, .inl (mo : Int)), (2, .inl alz), (3, .inl (n : Int)), (4, .inl (t : Int)), (5, .inl (c : Int))]) (st' := [.inl (H1.1 1829 c)]) rfl ?_
        refine h_run 1 (pc' := 123) (l' := [(0, .inr (.inr 1826)), (1, .inl (mo : Int)), (2, .inl alz), (3, .inl (n : Int)), (4, .inl (t : Int)), (5, .inl (c : Int))]) (st' := [.inl (t : Int), .inl (H1.1 1829 c)]) rfl ?_
        refine h_ine (off := 12) (t := 135) rfl rfl (by omega) (by omega) (fun c27 => ?_) (fun c27 => ?_)
        · refine h_run 2 (pc' := 105) (l' := [(0, .inr (.inr 1826)), (1, .inl (mo : Int)), (2, .inl alz), (3, .inl (n : Int)), (4, .inl (t : Int)), (5, .inl ((c : Int) + 1))]) (st' := []) rfl ?_
          rw [show ((c : Int) + 1) = (((c + 1) : Nat) : Int) by omega]
          exact ih.2.2.2.2 _ n t (c + 1) hf (by rw [← LC_no (by obtain ⟨q9, -⟩ := xrc c (by omega); omega)]; exact hVH1) (by rw [← LC_no (by obtain ⟨q9, -⟩ := xrc c (by omega); omega)]; exact hXH1) (by omega) (by omega) (by omega) (by omega : 50000000 - 50000 * n - 1000 - 100 * t - 10 - (c + 1) < w)
        · refine h_run 4 (pc' := 132) (l' := [(0, .inr (.inr 1826)), (1, .inl (mo : Int)), (2, .inl alz), (3, .inl (n : Int)), (4, .inl (t : Int)), (5, .inl (c : Int))]) (st' := [.inl (n : Int), .inl (c : Int), .inl (t : Int), .inr (.inr 1826)]) rfl ?_
          have hcc : (c : Int) < (H1.1 1826 3) := by omega
          obtain ⟨xc3, xc4, xc5⟩ := xrc c hcc
          have haq : ((H1.1 1830) c).toNat = aQ9 X c := by unfold aQ9; rw [xc4]
          have hcx := pw1 c (by omega)
          have hct9 : X 3 c = (t : Int) := by omega
          have cAx := congrFun cAH1 c
          have hLC := LC_con (X := X) (al := al) (n := n) (t := t) (c := c) (cG := (H1.1 1831)) (by omega) hct9 (by unfold nC9; omega) (fun k hk => by have q9 := xc5 k (by omega); have q8 := hcx.2.2 k (by rw [← cAx]; omega); rw [← cGH1] at q8; exact ⟨q9.symm, by unfold agC; omega⟩)
          refine h_cv (i := 496) (j := 215) (b := 1826) (M' := mt_215) (xs := [.inl (n : Int), .inl (c : Int), .inl (t : Int)]) (rest := []) rfl rfl rfl rfl rfl rfl (Nat.le_of_ble_eq_true rfl) (Nat.le_of_ble_eq_true rfl) (by omega) (n_makeCon (Ls := LC9 X al n t c) (Lr := LN9 X al (n - 1)) (t := t) (c := c) (n := n) (by omega) hPH1 (by omega) (by omega) (by omega) hVH1 hXH1) ?_
          rintro _ H28 ⟨rfl, hfH28, hVH28⟩
          refine h_rng (fun hrg29 => ?_)
          have hf30 : fr [53] [1856, 1861, 1862, 1863, 1865] H H28 := fr_t hf hfH28 (by decide) (by decide)
          have hPH28 : PWc H28 := PWc_fr hP hf30 (by decide) (by decide)
          have cGH28 : (H28.1 1831) = (H.1 1831) := hf30.2.1 1831 (by decide) (by decide)
          have cAH28 : (H28.1 1830) = (H.1 1830) := hf30.2.1 1830 (by decide) (by decide)
          have fAH28 : (H28.1 1833) = (H.1 1833) := hf30.2.1 1833 (by decide) (by decide)
          have tyH28 : (H28.1 1826 1) = (H.1 1826 1) := hf30.2.2 1 (by decide)
          have cnH28 : (H28.1 1826 3) = (H.1 1826 3) := hf30.2.2 3 (by decide)
          have fnH28 : (H28.1 1826 8) = (H.1 1826 8) := hf30.2.2 8 (by decide)
          have cTH28 : (H28.1 1829) = (H.1 1829) := hf30.2.1 1829 (by decide) (by decide)
          have hV9 : VS (H28.1 1826 1) (H28.1 1861) (H28.1 1862) (H28.1 1863) (LC9 X al n t (c + 1)) := by unfold TRc at hVH28; rw [haq] at hVH28; exact VS_cg hVH28 hLC
          have foH28 : (H28.1 1865) = (H1.1 1865) := hfH28.2.1 1865 (by decide) (by decide)
          have hX9 : PX (H28.1 1826 1) (H28.1 1865) n (LC9 X al n t (c + 1)) (LN9 X al (n - 1)) := by rw [← hLC, tyH28, foH28, ← tyH1]; exact PX_ad hXH1 (VS_len hVH1)
          refine h_run 0 (pc' := 135) (l' := [(0, .inr (.inr 1826)), (1, .inl (mo : Int)), (2, .inl alz), (3, .inl (n : Int)), (4, .inl (t : Int)), (5, .inl (c : Int))]) (st' := []) rfl ?_
          refine h_run 2 (pc' := 105) (l' := [(0, .inr (.inr 1826)), (1, .inl (mo : Int)), (2, .inl alz), (3, .inl (n : Int)), (4, .inl (t : Int)), (5, .inl ((c : Int) + 1))]) (st' := []) rfl ?_
          rw [show ((c : Int) + 1) = (((c + 1) : Nat) : Int) by omega]
          exact ih.2.2.2.2 _ n t (c + 1) hf30 hV9 hX9 (by omega) (by omega) (by omega) (by omega : 50000000 - 50000 * n - 1000 - 100 * t - 10 - (c + 1) < w)
set_option maxRecDepth 100000 in
theorem n_makeValues {zC : Nat → Option zsh} {d : Nat} (hd : 10 ≤ d) {H : hp} {X : rx} {al : Bool} {mo : Nat} {alz : Int} (hP : PWc H) (hX : RT9 H X) (hm : 1 ≤ mo ∧ mo ≤ 6) (hal : hid ((al = false → alz = 0) ∧ (al = true → alz = 1))) (halz : 0 ≤ alz ∧ alz ≤ 1) : hG (zs zC) d mt_212 0 (zargs 0 [.inr (.inr 1826), .inl (mo : Int), .inl alz]) [] H (fun r9 H2 => r9 = none ∧ fr [53] [1856, 1861, 1862, 1863, 1865] H H2 ∧ VS (H2.1 1826 1) (H2.1 1861) (H2.1 1862) (H2.1 1863) (LN9 X al mo)) := by
  refine h_rng (fun hrg0 => ?_)
  refine h_run 0 (pc' := 0) (l' := [(0, .inr (.inr 1826)), (1, .inl (mo : Int)), (2, .inl alz)]) (st' := []) rfl ?_
  obtain ⟨⟨pb1, pb2, pb3, pb4, pb5⟩, pw1, pw2, pw3, pw4⟩ := (id hP : PW H (H.1 1826 1) (H.1 1826 3) (H.1 1826 8) (H.1 1826 13) (H.1 1826 19))
  refine h_run 2 (pc' := 2) (l' := [(0, .inr (.inr 1826)), (1, .inl (mo : Int)), (2, .inl alz), (3, .inl 0)]) (st' := []) rfl ?_
  exact (n_makeValues_cut hd hP hX hm hal halz _).1 _ 0 (fr_rf _ _ _) (fun _ h9 => absurd h9 (Nat.not_lt_zero _)) (by omega) (Nat.lt_succ_self _)
