/-! showLaw, told exactly -/
def ws (ar : Int → Int) (a : Nat → Int) (i : Nat) : Nat → Int
  | 0 => 0
  | j + 1 => (ar (a i) - 1) + ws ar a (i + 1) j
theorem ws_s {ar : Int → Int} {a : Nat → Int} : ∀ (j i : Nat), ws ar a i (j + 1) = ws ar a i j + (ar (a (i + j)) - 1)
  | 0, i => by
    show (ar (a i) - 1) + 0 = 0 + (ar (a (i + 0)) - 1)
    rw [Nat.add_zero]
    omega
  | j + 1, i => by
    show (ar (a i) - 1) + ws ar a (i + 1) (j + 1) = (ar (a i) - 1) + ws ar a (i + 1) j + (ar (a (i + (j + 1))) - 1)
    rw [ws_s j (i + 1), show i + 1 + j = i + (j + 1) by omega]
    omega
theorem wn_ws {ar : Int → Int} {a : Nat → Int} : ∀ j : Nat, wn ar a j = 1 + ws ar a 0 j
  | 0 => rfl
  | j + 1 => by
    rw [ws_s j 0, Nat.zero_add]
    show wn ar a j + (ar (a j) - 1) = _
    rw [wn_ws j]
    omega
theorem tm_ws {ar : Int → Int} {ok : Int → Prop} {a : Nat → Int} : ∀ {k i n : Nat}, tm ar ok a k i n → (∀ j, j < k → 1 ≤ (n : Int) + ws ar a i j) ∧ (n : Int) + ws ar a i k = 0
  | 0, i, n, h => by
    have h : n = 0 := h
    rw [h]
    exact ⟨fun j hj => absurd hj (Nat.not_lt_zero _), rfl⟩
  | k + 1, i, n, ⟨h0, _, m, h2, _, h4⟩ => by
    obtain ⟨g1, g2⟩ := tm_ws h4
    refine ⟨fun j hj => ?_, ?_⟩
    · cases j with
      | zero =>
        show 1 ≤ (n : Int) + 0
        omega
      | succ j =>
        have q := g1 j (by omega)
        show 1 ≤ (n : Int) + ((ar (a i) - 1) + ws ar a (i + 1) j)
        rw [h2]
        omega
    · show (n : Int) + ((ar (a i) - 1) + ws ar a (i + 1) k) = 0
      rw [h2]
      omega
theorem tm_wn {ar : Int → Int} {ok : Int → Prop} {a : Nat → Int} {k : Nat} (h : tm ar ok a k 0 1) : (∀ i, i < k → 1 ≤ wn ar a i) ∧ wn ar a k = 0 := by
  obtain ⟨g1, g2⟩ := tm_ws h
  exact ⟨fun i hi => by rw [wn_ws]; exact g1 i hi, by rw [wn_ws]; exact g2⟩
theorem tm_k1 {ar : Int → Int} {ok : Int → Prop} {a : Nat → Int} {k : Nat} (h : tm ar ok a k 0 1) : 1 ≤ k := by
  cases k with
  | zero => exact absurd (show (1 : Nat) = 0 from h) (by decide)
  | succ k => omega

/-! showLaw -/
set_option maxRecDepth 100000 in
theorem n_showLaw_cut {zC : Nat → Option zsh} {d : Nat} (hd : 4 ≤ d) {H : hp} {l s : Int} (hP : PWc H) (hou : 0 ≤ (H.1 1826 59) ∧ (H.1 1826 59) ≤ 8000) (hl : -2147483648 ≤ l ∧ l ≤ 2147483647) (hs : -2147483648 ≤ s ∧ s ≤ 2147483647) (hnl : ∀ s9 : Int, m_sg (H.1 1826 3) (H.1 1826 8) 60 s9 → 1 ≤ lenR (H.1 1832) (H.1 1828) s9) : ∀ w : Nat, (∀ (H1 : hp) (ln : Nat) (sn : Nat) (i : Nat) (kk : Nat) (vn : Nat), (fr [59, 93] [1858, 1859, 1860, 1884] H H1) → ((ln : Int) < (H.1 1826 19) ∧ sn < 2 ∧ vn ≤ 6) → (l = (ln : Int) ∧ s = (sn : Int)) → ((H.1 1843) ((2 * ln) + sn) = (kk : Int) ∧ kk ≤ 40) → (tm (ma (H.1 1833) (H.1 1830)) (m_sg (H.1 1826 3) (H.1 1826 8) (vn : Nat)) (H.1 1842) kk (48 * ((2 * ln) + sn)) 1) → (i ≤ kk) → (∀ x, x < i → (H1.1 1884) x = (H.1 1842) (48 * ((2 * ln) + sn) + x)) → 1000 - i < w → hG (zs zC) d mt_272 29 [(0, .inr (.inr 1826)), (1, .inl (ln : Int)), (2, .inl (sn : Int)), (3, .inl (i : Int))] [] H1 (fun r9 H2 => fr [59, 93] [1858, 1859, 1860, 1884] H H2 ∧ (0 ≤ (H2.1 1826 59) ∧ (H2.1 1826 59) ≤ 8000) ∧ ∃ r0 : Int, r9 = some (.inl r0) ∧ ((r0 = -101 ∧ (l < 0 ∨ (H.1 1826 19) ≤ l)) ∨ (r0 = -102 ∧ (0 ≤ l ∧ l < (H.1 1826 19)) ∧ (s < 0 ∨ 1 < s)) ∨ ∃ ln sn kk : Nat, (l = (ln : Int) ∧ s = (sn : Int) ∧ (ln : Int) < (H.1 1826 19) ∧ sn < 2) ∧ ((H.1 1843) (2 * ln + sn) = (kk : Int) ∧ kk ≤ 40) ∧ r0 = bs (ma (H.1 1833) (H.1 1830)) (lenR (H.1 1832) (H.1 1828)) (fun x => (H.1 1842) (48 * (2 * ln + sn) + x)) kk))) := by
  intro w
  induction w with
  | zero => exact fun _ _ _ _ _ _ _ _ _ _ _ _ _ h => absurd h (Nat.not_lt_zero _)
  | succ w ih =>
    intro H1 ln sn i kk vn hf hb hls u1 u3 hi hcp hw
    refine h_rng (fun hrg1 => ?_)
    obtain ⟨⟨pb1, pb2, pb3, pb4, pb5⟩, pw1, pw2, pw3, pw4⟩ := (id hP : PW H (H.1 1826 1) (H.1 1826 3) (H.1 1826 8) (H.1 1826 13) (H.1 1826 19))
    have ehs : (H1.1 1843) ((2 * ln) + sn) = (H.1 1843) ((2 * ln) + sn) := congrFun (hf.2.1 1843 (by decide) (by decide)) _
    refine h_run 8 (pc' := 39) (l' := [(0, .inr (.inr 1826)), (1, .inl (ln : Int)), (2, .inl (sn : Int)), (3, .inl (i : Int))]) (st' := [.inl ((2 * (ln : Int)) + (sn : Int)), .inr (.inr 1843), .inl (i : Int)]) rfl ?_
    refine h_ild (c := 1843) (j := ((2 * ln) + sn)) (i := ((2 * (ln : Int)) + (sn : Int))) rfl rfl (by decide) (by omega) (by omega) ?_
    have g2 : -2147483648 ≤ (H1.1 1843 ((2 * ln) + sn)) ∧ (H1.1 1843 ((2 * ln) + sn)) ≤ 2147483647 := hrg1.2 1843 ((2 * ln) + sn) 32 .int rfl (by omega)
    have e3 : (H1.1 1843 ((2 * ln) + sn)) = (H.1 1843 ((2 * ln) + sn)) := congrFun (hf.2.1 1843 (by decide) (by decide)) ((2 * ln) + sn)
    refine h_run 0 (pc' := 40) (l' := [(0, .inr (.inr 1826)), (1, .inl (ln : Int)), (2, .inl (sn : Int)), (3, .inl (i : Int))]) (st' := [.inl (H1.1 1843 ((2 * ln) + sn)), .inl (i : Int)]) rfl ?_
    refine h_ige (off := 30) (t := 70) rfl rfl (by omega) (by omega) (fun c4 => ?_) (fun c4 => ?_)
    · refine h_run 4 (pc' := 76) (l' := [(0, .inr (.inr 1826)), (1, .inl (ln : Int)), (2, .inl (sn : Int)), (3, .inl (i : Int))]) (st' := [.inl 0, .inr (.inr 1884), .inr (.inr 1826)]) rfl ?_
      have hQp : sP H H1 := sP_fr2 hf (by decide) (by decide)
      have hPp : PWc H1 := PWc_fr hP hf (by decide) (by decide)
      have eFN : (H1.1 1832) = (H.1 1832) := hf.2.1 1832 (by decide) (by decide)
      have eCN : (H1.1 1828) = (H.1 1828) := hf.2.1 1828 (by decide) (by decide)
      have eFA : (H1.1 1833) = (H.1 1833) := hf.2.1 1833 (by decide) (by decide)
      have eCA : (H1.1 1830) = (H.1 1830) := hf.2.1 1830 (by decide) (by decide)
      have hTn : tm (ma (H.1 1833) (H.1 1830)) (m_sg (H.1 1826 3) (H.1 1826 8) 60) (H1.1 1884) kk 0 1 := (tm_mono (tm_at u3 (fun x hx => by rw [Nat.zero_add]; exact hcp x (by omega))) (fun _ _ _ q9 => ⟨rfl, by unfold m_sg at *; omega, rfl⟩))
      have hwn := tm_wn hTn
      have hk1 := tm_k1 hTn
      have hln : ∀ i : Nat, i < kk → 1 ≤ lenR (H.1 1832) (H.1 1828) ((H1.1 1884) i) := fun i hi9 => hnl _ (by have q9 := tm_ok hTn i hi9; rw [Nat.zero_add] at q9; exact q9)
      refine h_cv (i := 466) (j := 206) (b := 1826) (M' := mt_206) (xs := [.inl 0, .inr (.inr 1884)]) (rest := []) rfl rfl rfl rfl rfl rfl (Nat.le_of_ble_eq_true rfl) (Nat.le_of_ble_eq_true rfl) (by omega) (n_print (c := 1884) (n := 128) (k := kk) (ok := (m_sg (H.1 1826 3) (H.1 1826 8) 60)) (by omega) rfl (by decide) (by decide) (fun s9 h9 => by unfold m_sg at h9; unfold sg0; omega) hPp (by rw [hQp.1, hQp.2.1]; exact hTn) (by omega) hk1 (by show ∀ i : Nat, i < kk → 1 ≤ wn (ma (H1.1 1833) (H1.1 1830)) (H1.1 1884) i; rw [eFA, eCA]; exact hwn.1) (by show wn (ma (H1.1 1833) (H1.1 1830)) (H1.1 1884) kk = 0; rw [eFA, eCA]; exact hwn.2) (by show ∀ i : Nat, i < kk → 1 ≤ lenR (H1.1 1832) (H1.1 1828) ((H1.1 1884) i); rw [eFN, eCN]; exact hln)) ?_
      rintro _ H5 ⟨rfl, hfH5, hoH5⟩
      refine h_rng (fun hrg6 => ?_)
      have hf7 : fr [59, 93] [1858, 1859, 1860, 1884] H H5 := fr_t hf hfH5 (by decide) (by decide)
      have hoeH5 : (H5.1 1826 59) = bs (ma (H.1 1833) (H.1 1830)) (lenR (H.1 1832) (H.1 1828)) (fun x => (H.1 1842) (48 * (2 * ln + sn) + x)) kk := hoH5.trans (by show bs (ma (H1.1 1833) (H1.1 1830)) (lenR (H1.1 1832) (H1.1 1828)) (H1.1 1884) kk = _; rw [eFA, eCA, eFN, eCN]; exact bs_cg (fun i hi9 => by rw [hcp i (by omega)]; exact ⟨rfl, rfl⟩))
      have hob := bs_b (ar := (ma (H.1 1833) (H.1 1830))) (len := (lenR (H.1 1832) (H.1 1828))) (a := fun x => (H.1 1842) (48 * (2 * ln + sn) + x)) (fun c9 => lenR_b _ _ c9) kk
      refine h_run 0 (pc' := 79) (l' := [(0, .inr (.inr 1826)), (1, .inl (ln : Int)), (2, .inl (sn : Int)), (3, .inl (i : Int))]) (st' := []) rfl ?_
      refine h_run 2 (pc' := 83) (l' := [(0, .inr (.inr 1826)), (1, .inl (ln : Int)), (2, .inl (sn : Int)), (3, .inl (i : Int))]) (st' := [.inl (H5.1 1826 59)]) rfl ?_
      have g8 : -2147483648 ≤ (H5.1 1826 59) ∧ (H5.1 1826 59) ≤ 2147483647 := hrg6.1 1826 13 59 _ .int rfl rfl
      refine h_reti (x := (H5.1 1826 59)) rfl rfl ?_
      exact ⟨hf7, (by omega), _, rfl, Or.inr (Or.inr ⟨ln, sn, kk, ⟨hls.1, hls.2, hb.1, hb.2.1⟩, u1, hoeH5⟩)⟩
    · refine h_run 14 (pc' := 62) (l' := [(0, .inr (.inr 1826)), (1, .inl (ln : Int)), (2, .inl (sn : Int)), (3, .inl (i : Int))]) (st' := [.inl ((48 * ((2 * (ln : Int)) + (sn : Int))) + (i : Int)), .inr (.inr 1842), .inl (i : Int), .inr (.inr 1884)]) rfl ?_
      refine h_ild (c := 1842) (j := ((48 * ((2 * ln) + sn)) + i)) (i := ((48 * ((2 * (ln : Int)) + (sn : Int))) + (i : Int))) rfl rfl (by decide) (by omega) (by omega) ?_
      have g9 : -2147483648 ≤ (H1.1 1842 ((48 * ((2 * ln) + sn)) + i)) ∧ (H1.1 1842 ((48 * ((2 * ln) + sn)) + i)) ≤ 2147483647 := hrg1.2 1842 ((48 * ((2 * ln) + sn)) + i) 1536 .int rfl (by omega)
      have e10 : (H1.1 1842 ((48 * ((2 * ln) + sn)) + i)) = (H.1 1842 ((48 * ((2 * ln) + sn)) + i)) := congrFun (hf.2.1 1842 (by decide) (by decide)) ((48 * ((2 * ln) + sn)) + i)
      refine h_run 0 (pc' := 63) (l' := [(0, .inr (.inr 1826)), (1, .inl (ln : Int)), (2, .inl (sn : Int)), (3, .inl (i : Int))]) (st' := [.inl (H1.1 1842 ((48 * ((2 * ln) + sn)) + i)), .inl (i : Int), .inr (.inr 1884)]) rfl ?_
      refine h_ist (c := 1884) (j := i) (i := (i : Int)) (x := (H1.1 1842 ((48 * ((2 * ln) + sn)) + i))) rfl rfl (by decide) (by decide) rfl (by omega) (by omega) ?_
      refine h_run 2 (pc' := 29) (l' := [(0, .inr (.inr 1826)), (1, .inl (ln : Int)), (2, .inl (sn : Int)), (3, .inl ((i : Int) + 1))]) (st' := []) rfl ?_
      rw [show ((i : Int) + 1) = (((i + 1) : Nat) : Int) by omega]
      exact ih _ ln sn (i + 1) (kk) (vn) (fr_a hf (by decide)) (by omega) hls u1 u3 (by omega) (fun x hx => by show up (H1.1 1884) i ((H1.1 1842) (48 * ((2 * ln) + sn) + i)) x = _; rw [up_if, show (H1.1 1842) = (H.1 1842) from hf.2.1 1842 (by decide) (by decide)]; by_cases e9 : x = i; { rw [if_pos e9, e9] }; { rw [if_neg e9]; exact hcp x (by omega) }) (by omega : 1000 - (i + 1) < w)
set_option maxRecDepth 100000 in
theorem n_showLaw {zC : Nat → Option zsh} {d : Nat} (hd : 4 ≤ d) {H : hp} {l s : Int} (hP : PWc H) (hou : 0 ≤ (H.1 1826 59) ∧ (H.1 1826 59) ≤ 8000) (hl : -2147483648 ≤ l ∧ l ≤ 2147483647) (hs : -2147483648 ≤ s ∧ s ≤ 2147483647) (hnl : ∀ s9 : Int, m_sg (H.1 1826 3) (H.1 1826 8) 60 s9 → 1 ≤ lenR (H.1 1832) (H.1 1828) s9) : hG (zs zC) d mt_272 0 (zargs 0 [.inr (.inr 1826), .inl l, .inl s]) [] H (fun r9 H2 => fr [59, 93] [1858, 1859, 1860, 1884] H H2 ∧ (0 ≤ (H2.1 1826 59) ∧ (H2.1 1826 59) ≤ 8000) ∧ ∃ r0 : Int, r9 = some (.inl r0) ∧ ((r0 = -101 ∧ (l < 0 ∨ (H.1 1826 19) ≤ l)) ∨ (r0 = -102 ∧ (0 ≤ l ∧ l < (H.1 1826 19)) ∧ (s < 0 ∨ 1 < s)) ∨ ∃ ln sn kk : Nat, (l = (ln : Int) ∧ s = (sn : Int) ∧ (ln : Int) < (H.1 1826 19) ∧ sn < 2) ∧ ((H.1 1843) (2 * ln + sn) = (kk : Int) ∧ kk ≤ 40) ∧ r0 = bs (ma (H.1 1833) (H.1 1830)) (lenR (H.1 1832) (H.1 1828)) (fun x => (H.1 1842) (48 * (2 * ln + sn) + x)) kk)) := by
  refine h_rng (fun hrg0 => ?_)
  refine h_run 0 (pc' := 0) (l' := [(0, .inr (.inr 1826)), (1, .inl l), (2, .inl s)]) (st' := []) rfl ?_
  obtain ⟨⟨pb1, pb2, pb3, pb4, pb5⟩, pw1, pw2, pw3, pw4⟩ := (id hP : PW H (H.1 1826 1) (H.1 1826 3) (H.1 1826 8) (H.1 1826 13) (H.1 1826 19))
  refine h_run 1 (pc' := 1) (l' := [(0, .inr (.inr 1826)), (1, .inl l), (2, .inl s)]) (st' := [.inl l]) rfl ?_
  refine h_zlt (off := 11) (t := 12) rfl rfl (by omega) (fun c11 => ?_) (fun c11 => ?_)
  · refine h_run 1 (pc' := 14) (l' := [(0, .inr (.inr 1826)), (1, .inl l), (2, .inl s)]) (st' := [.inl (-101)]) rfl ?_
    refine h_reti (x := (-101)) rfl rfl ?_
    exact ⟨(fr_rf _ _ _), hou, _, rfl, (by first | exact Or.inl ⟨rfl, by omega⟩ | exact Or.inr (Or.inl ⟨rfl, by omega, by omega⟩))⟩
  · refine h_run 3 (pc' := 9) (l' := [(0, .inr (.inr 1826)), (1, .inl l), (2, .inl s)]) (st' := [.inl (H.1 1826 19), .inl l]) rfl ?_
    have g12 : -2147483648 ≤ (H.1 1826 19) ∧ (H.1 1826 19) ≤ 2147483647 := hrg0.1 1826 13 19 _ .int rfl rfl
    refine h_ilt (off := 6) (t := 15) rfl rfl (by omega) (by omega) (fun c13 => ?_) (fun c13 => ?_)
    · refine h_run 1 (pc' := 16) (l' := [(0, .inr (.inr 1826)), (1, .inl l), (2, .inl s)]) (st' := [.inl s]) rfl ?_
      refine h_zlt (off := 8) (t := 24) rfl rfl (by omega) (fun c14 => ?_) (fun c14 => ?_)
      · refine h_run 1 (pc' := 26) (l' := [(0, .inr (.inr 1826)), (1, .inl l), (2, .inl s)]) (st' := [.inl (-102)]) rfl ?_
        refine h_reti (x := (-102)) rfl rfl ?_
        exact ⟨(fr_rf _ _ _), hou, _, rfl, (by first | exact Or.inl ⟨rfl, by omega⟩ | exact Or.inr (Or.inl ⟨rfl, by omega, by omega⟩))⟩
      · refine h_run 2 (pc' := 21) (l' := [(0, .inr (.inr 1826)), (1, .inl l), (2, .inl s)]) (st' := [.inl 1, .inl s]) rfl ?_
        refine h_ile (off := 6) (t := 27) rfl rfl (by omega) (by decide) (fun c15 => ?_) (fun c15 => ?_)
        · obtain ⟨ln, rfl⟩ : ∃ k9 : Nat, l = (k9 : Int) := ⟨(l).toNat, by omega⟩
          obtain ⟨sn, rfl⟩ : ∃ k9 : Nat, s = (k9 : Int) := ⟨(s).toNat, by omega⟩
          obtain ⟨vn, ⟨hv1, hv2⟩, hv3, hv4⟩ := pw4 ln (by omega)
          obtain ⟨kk, u1, u3⟩ := hv4 sn (by omega)
          refine h_run 2 (pc' := 29) (l' := [(0, .inr (.inr 1826)), (1, .inl (ln : Int)), (2, .inl (sn : Int)), (3, .inl 0)]) (st' := []) rfl ?_
          exact (n_showLaw_cut hd hP hou hl hs hnl _) _ ln sn 0 (kk) (vn) (fr_rf _ _ _) (by omega) ⟨by omega, by omega⟩ u1 u3 (by omega) (fun x hx => absurd hx (Nat.not_lt_zero _)) (Nat.lt_succ_self _)
        · refine h_run 1 (pc' := 26) (l' := [(0, .inr (.inr 1826)), (1, .inl l), (2, .inl s)]) (st' := [.inl (-102)]) rfl ?_
          refine h_reti (x := (-102)) rfl rfl ?_
          exact ⟨(fr_rf _ _ _), hou, _, rfl, (by first | exact Or.inl ⟨rfl, by omega⟩ | exact Or.inr (Or.inl ⟨rfl, by omega, by omega⟩))⟩
    · refine h_run 1 (pc' := 14) (l' := [(0, .inr (.inr 1826)), (1, .inl l), (2, .inl s)]) (st' := [.inl (-101)]) rfl ?_
      refine h_reti (x := (-101)) rfl rfl ?_
      exact ⟨(fr_rf _ _ _), hou, _, rfl, (by first | exact Or.inl ⟨rfl, by omega⟩ | exact Or.inr (Or.inl ⟨rfl, by omega, by omega⟩))⟩

/-! Program.hasLaw -/
set_option maxRecDepth 100000 in
theorem qq_hasLaw {d : Nat} (hd : 1 ≤ d) {H : hp} (hI : Inv H) {a : Int} (ha : -2147483648 ≤ a ∧ a ≤ 2147483647) : hG (zs zK) d mt_35 0 (zargs 0 [.inr (.inr 7), .inl a]) [] H (fun r9 H9 => ∃ z : Int, r9 = some (.inl z) ∧ ((0 ≤ z ∧ z ≤ 1) ∧ ((z = 1 ∧ 0 ≤ a ∧ a < H.1 7 6 ∧ a < 16) ∨ (z = 0 ∧ (a < 0 ∨ H.1 7 6 ≤ a)))) ∧ H = H9) := by
  refine k_run 0 (pc' := 0) (l' := [(0, .inr (.inr 7)), (1, .inl a)]) (st' := []) rfl ?_
  refine k_run 1 (pc' := 1) (l' := [(0, .inr (.inr 7)), (1, .inl a)]) (st' := [.inl a]) rfl ?_
  refine h_zlt (off := 24) (t := 25) rfl rfl (by omega) (fun c1 => ?_) (fun c1 => ?_)
  · refine k_run 0 (pc' := 25) (l' := [(0, .inr (.inr 7)), (1, .inl a)]) (st' := []) rfl ?_
    refine k_run 1 (pc' := 26) (l' := [(0, .inr (.inr 7)), (1, .inl a)]) (st' := [.inl 0]) rfl ?_
    refine h_retz (x := 0) rfl rfl (by decide) ?_
    have g2 : 0 ≤ (H.1 7 6) ∧ (H.1 7 6) ≤ 16 := kn (x := kx_7) hI rfl 6
    exact ⟨_, rfl, (by omega), rfl⟩
  · refine k_run 0 (pc' := 4) (l' := [(0, .inr (.inr 7)), (1, .inl a)]) (st' := []) rfl ?_
    refine k_run 3 (pc' := 9) (l' := [(0, .inr (.inr 7)), (1, .inl a)]) (st' := [.inl (H.1 7 6), .inl a]) rfl ?_
    have g3 : 0 ≤ (H.1 7 6) ∧ (H.1 7 6) ≤ 16 := kn (x := kx_7) hI rfl 6
    refine h_ige (off := 16) (t := 25) rfl rfl (by omega) (by omega) (fun c4 => ?_) (fun c4 => ?_)
    · refine k_run 0 (pc' := 25) (l' := [(0, .inr (.inr 7)), (1, .inl a)]) (st' := []) rfl ?_
      refine k_run 1 (pc' := 26) (l' := [(0, .inr (.inr 7)), (1, .inl a)]) (st' := [.inl 0]) rfl ?_
      refine h_retz (x := 0) rfl rfl (by decide) ?_
      exact ⟨_, rfl, (by omega), rfl⟩
    · refine k_run 0 (pc' := 12) (l' := [(0, .inr (.inr 7)), (1, .inl a)]) (st' := []) rfl ?_
      refine k_run 3 (pc' := 17) (l' := [(0, .inr (.inr 7)), (1, .inl a)]) (st' := [.inr (.inr 24), .inl a]) rfl ?_
      refine k_alen (c := 24) (x := kx_24) rfl rfl (by decide) rfl ?_
      refine k_run 0 (pc' := 18) (l' := [(0, .inr (.inr 7)), (1, .inl a)]) (st' := [.inl 16, .inl a]) rfl ?_
      refine h_ige (off := 7) (t := 25) rfl rfl (by omega) (by decide) (fun c5 => ?_) (fun c5 => ?_)
      · refine k_run 0 (pc' := 25) (l' := [(0, .inr (.inr 7)), (1, .inl a)]) (st' := []) rfl ?_
        refine k_run 1 (pc' := 26) (l' := [(0, .inr (.inr 7)), (1, .inl a)]) (st' := [.inl 0]) rfl ?_
        refine h_retz (x := 0) rfl rfl (by decide) ?_
        exact ⟨_, rfl, (by omega), rfl⟩
      · refine k_run 0 (pc' := 21) (l' := [(0, .inr (.inr 7)), (1, .inl a)]) (st' := []) rfl ?_
        refine k_run 2 (pc' := 26) (l' := [(0, .inr (.inr 7)), (1, .inl a)]) (st' := [.inl 1]) rfl ?_
        refine h_retz (x := 1) rfl rfl (by decide) ?_
        exact ⟨_, rfl, (by omega), rfl⟩

/-! showLaw -/
set_option maxRecDepth 100000 in
theorem q_showLaw {d : Nat} (hd : 5 ≤ d) {H : hp} (hI : Inv H) {a : Int} {b : Int} (ha : -2147483648 ≤ a ∧ a ≤ 2147483647) (hb : -2147483648 ≤ b ∧ b ≤ 2147483647) (hE : ER H) (hs9 : ∀ l o : Nat, (l : Int) < H.1 7 6 → l < 16 → o = 1 ∨ o = 3 → (1 ≤ H.1 (265 + 6 * l + o) 1 ∧ H.1 (265 + 6 * l + o) 1 ≤ 40) ∧ (∀ i : Nat, (i : Int) < H.1 (265 + 6 * l + o) 1 → 1 ≤ wn aC (H.1 (265 + 6 * l + o + 1)) i) ∧ wn aC (H.1 (265 + 6 * l + o + 1)) (H.1 (265 + 6 * l + o) 1).toNat = 0) : hG (zs zK) d mt_22 0 (zargs 0 [.inr (.inr 1), .inl a, .inl b]) [] H (fun r9 H9 => ∃ z : Int, r9 = some (.inl z) ∧ ((-2147483648 ≤ z ∧ z ≤ 2147483647)) ∧ Inv H9 ∧ fq [(363, 3)] [364, 365] false H H9 ∧ ((z = -101 ∧ (a < 0 ∨ H.1 7 6 ≤ a)) ∨ (z = -102 ∧ (0 ≤ a ∧ a < H.1 7 6) ∧ (b < 0 ∨ 1 < b)) ∨ ((0 ≤ a ∧ a < H.1 7 6 ∧ a < 16) ∧ (0 ≤ b ∧ b ≤ 1) ∧ ((b = 0 ∧ z = bs aC (lenC H) (H.1 (265 + 6 * a.toNat + 1 + 1)) (H.1 (265 + 6 * a.toNat + 1) 1).toNat) ∨ (b = 1 ∧ z = bs aC (lenC H) (H.1 (265 + 6 * a.toNat + 3 + 1)) (H.1 (265 + 6 * a.toNat + 3) 1).toNat)) ∧ PF [363, 364, 365] H H9))) := by
  obtain ⟨Q9, hQ9⟩ : ∃ Q9 : Option zv → hp → Prop, Q9 = (fun r9 H9 => ∃ z : Int, r9 = some (.inl z) ∧ ((-2147483648 ≤ z ∧ z ≤ 2147483647)) ∧ Inv H9 ∧ fq [(363, 3)] [364, 365] false H H9 ∧ ((z = -101 ∧ (a < 0 ∨ H.1 7 6 ≤ a)) ∨ (z = -102 ∧ (0 ≤ a ∧ a < H.1 7 6) ∧ (b < 0 ∨ 1 < b)) ∨ ((0 ≤ a ∧ a < H.1 7 6 ∧ a < 16) ∧ (0 ≤ b ∧ b ≤ 1) ∧ ((b = 0 ∧ z = bs aC (lenC H) (H.1 (265 + 6 * a.toNat + 1 + 1)) (H.1 (265 + 6 * a.toNat + 1) 1).toNat) ∨ (b = 1 ∧ z = bs aC (lenC H) (H.1 (265 + 6 * a.toNat + 3 + 1)) (H.1 (265 + 6 * a.toNat + 3) 1).toNat)) ∧ PF [363, 364, 365] H H9))) := ⟨_, rfl⟩
  rw [← hQ9]
  refine k_run 0 (pc' := 0) (l' := [(0, .inr (.inr 1)), (1, .inl a), (2, .inl b)]) (st' := []) rfl ?_
  refine k_run 3 (pc' := 5) (l' := [(0, .inr (.inr 1)), (1, .inl a), (2, .inl b)]) (st' := [.inl a, .inr (.inr 7)]) rfl ?_
  refine h_cv (i := 144) (j := 35) (b := 7) (M' := mt_35) (xs := [.inl a]) (rest := []) rfl rfl rfl rfl (zs_K (x := kx_7) rfl (by decide)) rfl (Nat.le_of_ble_eq_true rfl) (Nat.le_of_ble_eq_true rfl) (by omega) (qq_hasLaw (by omega) hI (by omega)) ?_
  rintro _ _ ⟨z7, rfl, g1, rfl⟩
  refine k_run 0 (pc' := 8) (l' := [(0, .inr (.inr 1)), (1, .inl a), (2, .inl b)]) (st' := [.inl z7]) rfl ?_
  refine h_zne (off := 6) (t := 14) rfl rfl (by omega) (fun c8 => ?_) (fun c8 => ?_)
  · refine k_run 0 (pc' := 14) (l' := [(0, .inr (.inr 1)), (1, .inl a), (2, .inl b)]) (st' := []) rfl ?_
    refine k_run 1 (pc' := 15) (l' := [(0, .inr (.inr 1)), (1, .inl a), (2, .inl b)]) (st' := [.inl b]) rfl ?_
    refine h_zlt (off := 8) (t := 23) rfl rfl (by omega) (fun c9 => ?_) (fun c9 => ?_)
    · refine k_run 0 (pc' := 23) (l' := [(0, .inr (.inr 1)), (1, .inl a), (2, .inl b)]) (st' := []) rfl ?_
      refine k_run 1 (pc' := 25) (l' := [(0, .inr (.inr 1)), (1, .inl a), (2, .inl b)]) (st' := [.inl (-102)]) rfl ?_
      refine h_reti (x := (-102)) rfl rfl ?_
      rw [hQ9]
      exact ⟨_, rfl, (by omega), hI, (fq_rf _ _ _ _), (by first | (exfalso; omega) | exact (Or.inr (Or.inl ⟨rfl, by omega, by omega⟩)))⟩
    · refine k_run 0 (pc' := 18) (l' := [(0, .inr (.inr 1)), (1, .inl a), (2, .inl b)]) (st' := []) rfl ?_
      refine k_run 2 (pc' := 20) (l' := [(0, .inr (.inr 1)), (1, .inl a), (2, .inl b)]) (st' := [.inl 1, .inl b]) rfl ?_
      refine h_ile (off := 6) (t := 26) rfl rfl (by omega) (by decide) (fun c10 => ?_) (fun c10 => ?_)
      · refine k_run 0 (pc' := 26) (l' := [(0, .inr (.inr 1)), (1, .inl a), (2, .inl b)]) (st' := []) rfl ?_
        refine k_run 4 (pc' := 34) (l' := [(0, .inr (.inr 1)), (1, .inl a), (2, .inl b)]) (st' := [.inl a, .inr (.inr 24)]) rfl ?_
        refine k_ald (c := 24) (j := (a).toNat) (i := a) (x := kx_24) rfl rfl (by decide) rfl (by decide) (by omega) (by omega) hI (fun h11 => ?_)
        obtain ⟨t12, et14⟩ : ∃ t9, t9 = H.2 24 (a).toNat := ⟨_, rfl⟩
        rw [← et14] at h11 ⊢
        have k13 : isE t12 := h11
        refine k_run 0 (pc' := 35) (l' := [(0, .inr (.inr 1)), (1, .inl a), (2, .inl b)]) (st' := [.inr (.inr t12)]) rfl ?_
        refine k_run 1 (pc' := 36) (l' := [(0, .inr (.inr 1)), (1, .inl a), (2, .inl b), (3, .inr (.inr t12))]) (st' := []) rfl ?_
        have hEl : t12 = 265 + 6 * a.toNat := et14.trans (hE.2 _ (by omega))
        refine k_run 3 (pc' := 41) (l' := [(0, .inr (.inr 1)), (1, .inl a), (2, .inl b), (3, .inr (.inr t12))]) (st' := [.inl b, .inr (.inr 363)]) rfl ?_
        refine h_zne (off := 10) (t := 51) rfl rfl (by omega) (fun c15 => ?_) (fun c15 => ?_)
        · refine k_run 0 (pc' := 51) (l' := [(0, .inr (.inr 1)), (1, .inl a), (2, .inl b), (3, .inr (.inr t12))]) (st' := [.inr (.inr 363)]) rfl ?_
          refine k_run 1 (pc' := 52) (l' := [(0, .inr (.inr 1)), (1, .inl a), (2, .inl b), (3, .inr (.inr t12))]) (st' := [.inr (.inr t12), .inr (.inr 363)]) rfl ?_
          refine k_get (a := t12) (x := (kEo t12)) (v := .inr (.inr (t12 + 3))) rfl rfl k13.1 (iE0 k13) rfl rfl rfl ?_
          refine k_run 0 (pc' := 55) (l' := [(0, .inr (.inr 1)), (1, .inl a), (2, .inl b), (3, .inr (.inr t12))]) (st' := [.inr (.inr (t12 + 3)), .inr (.inr 363)]) rfl ?_
          refine k_run 1 (pc' := 56) (l' := [(0, .inr (.inr 1)), (1, .inl a), (2, .inl b), (3, .inr (.inr t12))]) (st' := [.inr (.inl 0), .inr (.inr (t12 + 3)), .inr (.inr 363)]) rfl ?_
          refine h_cv (i := 183) (j := 88) (b := 363) (M' := mt_88) (xs := [.inr (.inl 0), .inr (.inr (t12 + 3))]) (rest := []) rfl rfl rfl rfl (zs_K (x := kx_363) rfl (by decide)) rfl (Nat.le_of_ble_eq_true rfl) (Nat.le_of_ble_eq_true rfl) (by omega) (q_Printer_print (by omega) hI (iEr k13) (by omega) (by rw [hEl]; exact (hs9 a.toNat 3 (by omega) (by omega) (by decide)).1) (by rw [hEl]; exact (hs9 a.toNat 3 (by omega) (by omega) (by decide)).2.1) (by rw [hEl]; exact (hs9 a.toNat 3 (by omega) (by omega) (by decide)).2.2)) ?_
          rintro _ H17 ⟨z22, rfl, g16, hI18, hq19, hx21⟩
          have hf23 : fq [(363, 3)] [364, 365] false H H17 := fq_t (fq_rf _ _ _ _) hq19 rfl rfl rfl
          refine k_run 0 (pc' := 59) (l' := [(0, .inr (.inr 1)), (1, .inl a), (2, .inl b), (3, .inr (.inr t12))]) (st' := [.inl z22]) rfl ?_
          refine h_reti (x := z22) rfl rfl ?_
          rw [hQ9]
          exact ⟨_, rfl, (by omega), hI18, hf23, (by first | (exfalso; omega) | exact (Or.inr (Or.inr ⟨by omega, by omega, by first | exact Or.inl ⟨by omega, by have q9 := hx21.1; rw [hEl] at q9; exact q9⟩ | exact Or.inr ⟨by omega, by have q9 := hx21.1; rw [hEl] at q9; exact q9⟩, PF_le hx21.2 (by simp)⟩)))⟩
        · refine k_run 0 (pc' := 44) (l' := [(0, .inr (.inr 1)), (1, .inl a), (2, .inl b), (3, .inr (.inr t12))]) (st' := [.inr (.inr 363)]) rfl ?_
          refine k_run 1 (pc' := 45) (l' := [(0, .inr (.inr 1)), (1, .inl a), (2, .inl b), (3, .inr (.inr t12))]) (st' := [.inr (.inr t12), .inr (.inr 363)]) rfl ?_
          refine k_get (a := t12) (x := (kEo t12)) (v := .inr (.inr (t12 + 1))) rfl rfl k13.1 (iE0 k13) rfl rfl rfl ?_
          refine k_run 0 (pc' := 48) (l' := [(0, .inr (.inr 1)), (1, .inl a), (2, .inl b), (3, .inr (.inr t12))]) (st' := [.inr (.inr (t12 + 1)), .inr (.inr 363)]) rfl ?_
          refine k_run 2 (pc' := 56) (l' := [(0, .inr (.inr 1)), (1, .inl a), (2, .inl b), (3, .inr (.inr t12))]) (st' := [.inr (.inl 0), .inr (.inr (t12 + 1)), .inr (.inr 363)]) rfl ?_
          refine h_cv (i := 183) (j := 88) (b := 363) (M' := mt_88) (xs := [.inr (.inl 0), .inr (.inr (t12 + 1))]) (rest := []) rfl rfl rfl rfl (zs_K (x := kx_363) rfl (by decide)) rfl (Nat.le_of_ble_eq_true rfl) (Nat.le_of_ble_eq_true rfl) (by omega) (q_Printer_print (by omega) hI (iEl k13) (by omega) (by rw [hEl]; exact (hs9 a.toNat 1 (by omega) (by omega) (by decide)).1) (by rw [hEl]; exact (hs9 a.toNat 1 (by omega) (by omega) (by decide)).2.1) (by rw [hEl]; exact (hs9 a.toNat 1 (by omega) (by omega) (by decide)).2.2)) ?_
          rintro _ H25 ⟨z30, rfl, g24, hI26, hq27, hx29⟩
          have hf31 : fq [(363, 3)] [364, 365] false H H25 := fq_t (fq_rf _ _ _ _) hq27 rfl rfl rfl
          refine k_run 0 (pc' := 59) (l' := [(0, .inr (.inr 1)), (1, .inl a), (2, .inl b), (3, .inr (.inr t12))]) (st' := [.inl z30]) rfl ?_
          refine h_reti (x := z30) rfl rfl ?_
          rw [hQ9]
          exact ⟨_, rfl, (by omega), hI26, hf31, (by first | (exfalso; omega) | exact (Or.inr (Or.inr ⟨by omega, by omega, by first | exact Or.inl ⟨by omega, by have q9 := hx29.1; rw [hEl] at q9; exact q9⟩ | exact Or.inr ⟨by omega, by have q9 := hx29.1; rw [hEl] at q9; exact q9⟩, PF_le hx29.2 (by simp)⟩)))⟩
      · refine k_run 0 (pc' := 23) (l' := [(0, .inr (.inr 1)), (1, .inl a), (2, .inl b)]) (st' := []) rfl ?_
        refine k_run 1 (pc' := 25) (l' := [(0, .inr (.inr 1)), (1, .inl a), (2, .inl b)]) (st' := [.inl (-102)]) rfl ?_
        refine h_reti (x := (-102)) rfl rfl ?_
        rw [hQ9]
        exact ⟨_, rfl, (by omega), hI, (fq_rf _ _ _ _), (by first | (exfalso; omega) | exact (Or.inr (Or.inl ⟨rfl, by omega, by omega⟩)))⟩
  · refine k_run 0 (pc' := 11) (l' := [(0, .inr (.inr 1)), (1, .inl a), (2, .inl b)]) (st' := []) rfl ?_
    refine k_run 1 (pc' := 13) (l' := [(0, .inr (.inr 1)), (1, .inl a), (2, .inl b)]) (st' := [.inl (-101)]) rfl ?_
    refine h_reti (x := (-101)) rfl rfl ?_
    rw [hQ9]
    exact ⟨_, rfl, (by omega), hI, (fq_rf _ _ _ _), (by first | (exfalso; omega) | exact (Or.inl ⟨rfl, by omega⟩))⟩

