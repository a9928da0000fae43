/-! the reference: a proof begins -/
theorem OS_1 {P H : hp} {g : Nat} (h1 : (H.1 1826 77) = 1) (h2 : (H.1 1871) 0 = (g : Int)) (h3 : g < 40) (h4 : (H.1 1872) g = 1) (h5 : ∀ x, x < 40 → x ≠ g → (H.1 1872) x = 0) (h6 : gok P H g) : OS P H 1 := by
  refine ⟨⟨h1, by decide, by decide, by decide⟩, fun k hk => ?_, fun k hk => absurd hk (Nat.not_lt_zero _), fun i j hi hj _ => by omega, fun i j hi => absurd hi (Nat.not_lt_zero _), fun i j _ hj => absurd hj (Nat.not_lt_zero _), fun x hx q => ?_⟩
  · obtain rfl : k = 0 := by omega
    exact ⟨g, h2, h3, h4, h6⟩
  · by_cases e : x = g
    · exact Or.inl ⟨0, by decide, by rw [h2, e]⟩
    · exact absurd (h5 x hx e) q

/-! begin -/
set_option maxRecDepth 100000 in
theorem m_begin_cut {zC : Nat → Option zsh} {d : Nat} (hd : 2 ≤ d) {H : hp} {x fu : Int} (hP : PWc H) (hx : -2147483648 ≤ x ∧ x ≤ 2147483647) (hfu : 0 ≤ fu ∧ fu ≤ 1) : ∀ w : Nat, (∀ (H1 : hp) (l : Nat) (k : Nat), (fr [74, 75, 76, 77, 89] [1871, 1872, 1873, 1874, 1875, 1876, 1877, 1878, 1879, 1882, 1883] H H1) → ((l : Int) < (H.1 1826 19)) → ((H1.1 1826 74) = (l : Int)) → (k ≤ 40) → (∀ x, x < k → (H1.1 1872) x = 0) → 1000000 - k < w → hG (zs zC) d mt_227 32 [(0, .inr (.inr 1826)), (1, .inl (l : Int)), (2, .inl fu), (3, .inl (k : Int))] [] H1 (fun r9 H2 => (r9 = some (.inl (-101)) ∧ H = H2) ∨ (r9 = some (.inl 1) ∧ fr [74, 75, 76, 77, 89] [1871, 1872, 1873, 1874, 1875, 1876, 1877, 1878, 1879, 1882, 1883] H H2 ∧ OS H H2 1 ∧ (0 ≤ (H2.1 1871) 0 ∧ (H2.1 1871) 0 < 40) ∧ (0 ≤ (H2.1 1826 89) ∧ (H2.1 1826 89) ≤ 60) ∧ (0 ≤ (H2.1 1826 74) ∧ (H2.1 1826 74) < (H.1 1826 19))))) ∧ (∀ (H1 : hp) (l : Nat) (g : Nat) (s : Nat), (fr [74, 75, 76, 77, 89] [1871, 1872, 1873, 1874, 1875, 1876, 1877, 1878, 1879, 1882, 1883] H H1) → ((l : Int) < (H.1 1826 19)) → ((H1.1 1826 74) = (l : Int)) → ((H1.1 1872) g = 1 ∧ ∀ x, x < 40 → x ≠ g → (H1.1 1872) x = 0) → ((H1.1 1871) 0 = (g : Int) ∧ g < 40) → ((H1.1 1826 77) = 1) → (s ≤ 2) → (∀ x, x < s → sOK H H1 (2 * g + x)) → 100000 - 1000 * s < w → hG (zs zC) d mt_227 71 [(0, .inr (.inr 1826)), (1, .inl (l : Int)), (2, .inl fu), (3, .inl (g : Int)), (4, .inl (s : Int))] [] H1 (fun r9 H2 => (r9 = some (.inl (-101)) ∧ H = H2) ∨ (r9 = some (.inl 1) ∧ fr [74, 75, 76, 77, 89] [1871, 1872, 1873, 1874, 1875, 1876, 1877, 1878, 1879, 1882, 1883] H H2 ∧ OS H H2 1 ∧ (0 ≤ (H2.1 1871) 0 ∧ (H2.1 1871) 0 < 40) ∧ (0 ≤ (H2.1 1826 89) ∧ (H2.1 1826 89) ≤ 60) ∧ (0 ≤ (H2.1 1826 74) ∧ (H2.1 1826 74) < (H.1 1826 19))))) ∧ (∀ (H1 : hp) (l : Nat) (g : Nat) (s : Nat) (k : Nat) (kk : Nat), (fr [74, 75, 76, 77, 89] [1871, 1872, 1873, 1874, 1875, 1876, 1877, 1878, 1879, 1882, 1883] H H1) → ((l : Int) < (H.1 1826 19)) → ((H1.1 1826 74) = (l : Int)) → ((H1.1 1872) g = 1 ∧ ∀ x, x < 40 → x ≠ g → (H1.1 1872) x = 0) → ((H1.1 1871) 0 = (g : Int) ∧ g < 40) → ((H1.1 1826 77) = 1) → (s < 2) → (∀ x, x < s → sOK H H1 (2 * g + x)) → ((H.1 1843) (2 * l + s) = (kk : Int) ∧ kk ≤ 40) → (∃ vv : Nat, vv ≤ 6 ∧ tm (ma (H.1 1833) (H.1 1830)) (m_sg (H.1 1826 3) (H.1 1826 8) (vv : Nat)) (H.1 1842) kk (48 * (2 * l + s)) 1) → ((H1.1 1874) (2 * g + s) = (kk : Int)) → (k ≤ kk) → (∀ x, x < k → (H1.1 1873) (64 * (2 * g + s) + x) = (H.1 1842) (48 * (2 * l + s) + x)) → 100000 - 1000 * s - 10 - k < w → hG (zs zC) d mt_227 102 [(0, .inr (.inr 1826)), (1, .inl (l : Int)), (2, .inl fu), (3, .inl (g : Int)), (4, .inl (s : Int)), (5, .inl (k : Int))] [] H1 (fun r9 H2 => (r9 = some (.inl (-101)) ∧ H = H2) ∨ (r9 = some (.inl 1) ∧ fr [74, 75, 76, 77, 89] [1871, 1872, 1873, 1874, 1875, 1876, 1877, 1878, 1879, 1882, 1883] H H2 ∧ OS H H2 1 ∧ (0 ≤ (H2.1 1871) 0 ∧ (H2.1 1871) 0 < 40) ∧ (0 ≤ (H2.1 1826 89) ∧ (H2.1 1826 89) ≤ 60) ∧ (0 ≤ (H2.1 1826 74) ∧ (H2.1 1826 74) < (H.1 1826 19))))) ∧ (∀ (H1 : hp) (l : Nat) (g : Nat) (v : Nat), (fr [74, 75, 76, 77, 89] [1871, 1872, 1873, 1874, 1875, 1876, 1877, 1878, 1879, 1882, 1883] H H1) → ((l : Int) < (H.1 1826 19)) → ((H1.1 1826 74) = (l : Int)) → ((H1.1 1872) g = 1 ∧ ∀ x, x < 40 → x ≠ g → (H1.1 1872) x = 0) → ((H1.1 1871) 0 = (g : Int) ∧ g < 40) → ((H1.1 1826 77) = 1) → (gok H H1 g) → (0 ≤ (H1.1 1826 89) ∧ (H1.1 1826 89) ≤ 6) → (v ≤ 60) → 1000 - v < w → hG (zs zC) d mt_227 208 [(0, .inr (.inr 1826)), (1, .inl (l : Int)), (2, .inl fu), (3, .inl (g : Int)), (4, .inl (v : Int))] [] H1 (fun r9 H2 => (r9 = some (.inl (-101)) ∧ H = H2) ∨ (r9 = some (.inl 1) ∧ fr [74, 75, 76, 77, 89] [1871, 1872, 1873, 1874, 1875, 1876, 1877, 1878, 1879, 1882, 1883] H H2 ∧ OS H H2 1 ∧ (0 ≤ (H2.1 1871) 0 ∧ (H2.1 1871) 0 < 40) ∧ (0 ≤ (H2.1 1826 89) ∧ (H2.1 1826 89) ≤ 60) ∧ (0 ≤ (H2.1 1826 74) ∧ (H2.1 1826 74) < (H.1 1826 19))))) := by
  intro w
  induction w with
  | zero => exact ⟨fun _ _ _ _ _ _ _ _ h => absurd h (Nat.not_lt_zero _), fun _ _ _ _ _ _ _ _ _ _ _ _ h => absurd h (Nat.not_lt_zero _), fun _ _ _ _ _ _ _ _ _ _ _ _ _ _ _ _ _ _ _ h => absurd h (Nat.not_lt_zero _), fun _ _ _ _ _ _ _ _ _ _ _ _ _ h => absurd h (Nat.not_lt_zero _)⟩
  | succ w ih =>
    refine ⟨?_, ?_, ?_, ?_⟩
    · intro H1 l k hf hl hpf hk hu hw
      refine h_rng (fun hrg1 => ?_)
      obtain ⟨⟨pb1, pb2, pb3, pb4, pb5⟩, pw1, pw2, pw3, pw4⟩ := (id hP : PW H (H.1 1826 1) (H.1 1826 3) (H.1 1826 8) (H.1 1826 13) (H.1 1826 19))
      obtain ⟨vn, ⟨hv1, hv2⟩, hv3, hv4⟩ := pw4 l (by omega)
      refine h_run 2 (pc' := 35) (l' := [(0, .inr (.inr 1826)), (1, .inl (l : Int)), (2, .inl fu), (3, .inl (k : Int))]) (st' := [.inl 40, .inl (k : Int)]) rfl ?_
      refine h_ige (off := 16) (t := 51) rfl rfl (by omega) (by decide) (fun c2 => ?_) (fun c2 => ?_)
      · refine h_run 1 (pc' := 52) (l' := [(0, .inr (.inr 1826)), (1, .inl (l : Int)), (2, .inl fu), (3, .inl (k : Int))]) (st' := [.inr (.inr 1826)]) rfl ?_
        refine h_cv (i := 538) (j := 224) (b := 1826) (M' := mt_224) (xs := []) (rest := []) rfl rfl rfl rfl rfl rfl (Nat.le_of_ble_eq_true rfl) (Nat.le_of_ble_eq_true rfl) (by omega) (m_free (by omega) (g0 := 0) (show 0 < 40 ∧ (H1.1 1872) 0 = 0 from ⟨by decide, hu 0 (by omega)⟩)) ?_
        rintro _ H4 ⟨g3, rfl, g3l, g3u, rfl⟩
        refine h_run 0 (pc' := 55) (l' := [(0, .inr (.inr 1826)), (1, .inl (l : Int)), (2, .inl fu), (3, .inl (k : Int))]) (st' := [.inl (g3 : Int)]) rfl ?_
        refine h_run 5 (pc' := 62) (l' := [(0, .inr (.inr 1826)), (1, .inl (l : Int)), (2, .inl fu), (3, .inl (g3 : Int))]) (st' := [.inl (g3 : Int), .inl 0, .inr (.inr 1871)]) rfl ?_
        refine h_ist (c := 1871) (j := 0) (i := 0) (x := (g3 : Int)) rfl rfl (by decide) (by decide) rfl (by omega) (by omega) ?_
        refine h_run 2 (pc' := 65) (l' := [(0, .inr (.inr 1826)), (1, .inl (l : Int)), (2, .inl fu), (3, .inl (g3 : Int))]) (st' := [.inl 1, .inr (.inr 1826)]) rfl ?_
        refine h_puti (i := 414) (ci := 13) (k := 77) (a := 1826) (x := 1) rfl rfl rfl rfl rfl rfl (by decide) (by decide) ?_
        refine h_run 2 (pc' := 71) (l' := [(0, .inr (.inr 1826)), (1, .inl (l : Int)), (2, .inl fu), (3, .inl (g3 : Int)), (4, .inl 0)]) (st' := []) rfl ?_
        have g5 : -2147483648 ≤ (H1.1 1826 74) ∧ (H1.1 1826 74) ≤ 2147483647 := hrg1.1 1826 13 74 _ .int rfl rfl
        exact ih.2.1 _ l g3 0 (fr_o (fr_a (fr_a hf (by decide)) (by decide)) (by decide)) (by omega) (by omega : (H1.1 1826 74) = (l : Int)) ⟨(show up (H1.1 1872) g3 1 g3 = 1 from up_eq _ _ _), fun x hx q9 => (show up (H1.1 1872) g3 1 x = 0 by rw [up_ne _ _ q9]; exact hu x (by omega))⟩ ⟨(show up (H1.1 1871) 0 (g3 : Int) 0 = _ from up_eq _ _ _), by omega⟩ rfl (by omega) (fun x hx => absurd hx (Nat.not_lt_zero _)) (by omega : 100000 - 1000 * 0 < w)
      · refine h_run 4 (pc' := 44) (l' := [(0, .inr (.inr 1826)), (1, .inl (l : Int)), (2, .inl fu), (3, .inl (k : Int))]) (st' := [.inl 0, .inl (k : Int), .inr (.inr 1872)]) rfl ?_
        refine h_bst (c := 1872) (j := k) (i := (k : Int)) (x := 0) (Or.inr rfl) rfl rfl (by decide) (by decide) rfl (by omega) (show (0 : Int) ≤ 0 ∧ 0 ≤ 1 by omega) ?_
        refine h_run 2 (pc' := 32) (l' := [(0, .inr (.inr 1826)), (1, .inl (l : Int)), (2, .inl fu), (3, .inl ((k : Int) + 1))]) (st' := []) rfl ?_
        have g6 : -2147483648 ≤ (H1.1 1826 74) ∧ (H1.1 1826 74) ≤ 2147483647 := hrg1.1 1826 13 74 _ .int rfl rfl
        rw [show ((k : Int) + 1) = (((k + 1) : Nat) : Int) by omega]
        exact ih.1 _ l (k + 1) (fr_a hf (by decide)) (by omega) (by omega : (H1.1 1826 74) = (l : Int)) (by omega) (fun x hx => by show up (H1.1 1872) k 0 x = 0; rw [up_if]; by_cases e9 : x = k; { rw [if_pos e9] }; { rw [if_neg e9]; exact hu x (by omega) }) (by omega : 1000000 - (k + 1) < w)
    · intro H1 l g s hf hl hpf hus hor hgo hs hk hw
      refine h_rng (fun hrg7 => ?_)
      obtain ⟨⟨pb1, pb2, pb3, pb4, pb5⟩, pw1, pw2, pw3, pw4⟩ := (id hP : PW H (H.1 1826 1) (H.1 1826 3) (H.1 1826 8) (H.1 1826 13) (H.1 1826 19))
      obtain ⟨vn, ⟨hv1, hv2⟩, hv3, hv4⟩ := pw4 l (by omega)
      refine h_run 2 (pc' := 74) (l' := [(0, .inr (.inr 1826)), (1, .inl (l : Int)), (2, .inl fu), (3, .inl (g : Int)), (4, .inl (s : Int))]) (st' := [.inl 2, .inl (s : Int)]) rfl ?_
      refine h_ige (off := 88) (t := 162) rfl rfl (by omega) (by decide) (fun c8 => ?_) (fun c8 => ?_)
      · refine h_run 6 (pc' := 172) (l' := [(0, .inr (.inr 1826)), (1, .inl (l : Int)), (2, .inl fu), (3, .inl (g : Int)), (4, .inl (s : Int))]) (st' := [.inl (l : Int), .inr (.inr 1844), .inl (g : Int), .inr (.inr 1875)]) rfl ?_
        refine h_ild (c := 1844) (j := l) (i := (l : Int)) rfl rfl (by decide) rfl (by omega) ?_
        have g9 : -2147483648 ≤ (H1.1 1844 l) ∧ (H1.1 1844 l) ≤ 2147483647 := hrg7.2 1844 l 16 .int rfl (by omega)
        have e10 : (H1.1 1844 l) = (H.1 1844 l) := congrFun (hf.2.1 1844 (by decide) (by decide)) l
        refine h_run 0 (pc' := 173) (l' := [(0, .inr (.inr 1826)), (1, .inl (l : Int)), (2, .inl fu), (3, .inl (g : Int)), (4, .inl (s : Int))]) (st' := [.inl (H1.1 1844 l), .inl (g : Int), .inr (.inr 1875)]) rfl ?_
        refine h_ist (c := 1875) (j := g) (i := (g : Int)) (x := (H1.1 1844 l)) rfl rfl (by decide) (by decide) rfl (by omega) (by omega) ?_
        refine h_run 4 (pc' := 180) (l' := [(0, .inr (.inr 1826)), (1, .inl (l : Int)), (2, .inl fu), (3, .inl (g : Int)), (4, .inl (s : Int))]) (st' := [.inr (.inl 0), .inl (g : Int), .inr (.inr 1876)]) rfl ?_
        refine h_lst (c := 1876) (j := g) (i := (g : Int)) (x := 0) rfl rfl (by decide) (by decide) rfl (by omega) (by decide) ?_
        refine h_run 4 (pc' := 187) (l' := [(0, .inr (.inr 1826)), (1, .inl (l : Int)), (2, .inl fu), (3, .inl (g : Int)), (4, .inl (s : Int))]) (st' := [.inl 0, .inl (g : Int), .inr (.inr 1877)]) rfl ?_
        refine h_ist (c := 1877) (j := g) (i := (g : Int)) (x := 0) rfl rfl (by decide) (by decide) rfl (by omega) (by decide) ?_
        refine h_run 4 (pc' := 194) (l' := [(0, .inr (.inr 1826)), (1, .inl (l : Int)), (2, .inl fu), (3, .inl (g : Int)), (4, .inl (s : Int))]) (st' := [.inl 0, .inl (g : Int), .inr (.inr 1879)]) rfl ?_
        refine h_ist (c := 1879) (j := g) (i := (g : Int)) (x := 0) rfl rfl (by decide) (by decide) rfl (by omega) (by decide) ?_
        refine h_run 4 (pc' := 201) (l' := [(0, .inr (.inr 1826)), (1, .inl (l : Int)), (2, .inl fu), (3, .inl (g : Int)), (4, .inl (s : Int))]) (st' := [.inl (l : Int), .inr (.inr 1845), .inr (.inr 1826)]) rfl ?_
        refine h_ild (c := 1845) (j := l) (i := (l : Int)) rfl rfl (by decide) rfl (by omega) ?_
        have g11 : -2147483648 ≤ (H1.1 1845 l) ∧ (H1.1 1845 l) ≤ 2147483647 := hrg7.2 1845 l 16 .int rfl (by omega)
        have e12 : (H1.1 1845 l) = (H.1 1845 l) := congrFun (hf.2.1 1845 (by decide) (by decide)) l
        refine h_run 0 (pc' := 202) (l' := [(0, .inr (.inr 1826)), (1, .inl (l : Int)), (2, .inl fu), (3, .inl (g : Int)), (4, .inl (s : Int))]) (st' := [.inl (H1.1 1845 l), .inr (.inr 1826)]) rfl ?_
        have elv : (H1.1 1845) l = (H.1 1845) l := congrFun (hf.2.1 1845 (by decide) (by decide)) l
        refine h_puti (i := 541) (ci := 13) (k := 89) (a := 1826) (x := (H1.1 1845 l)) rfl rfl rfl rfl rfl rfl (by decide) (by omega) ?_
        refine h_run 2 (pc' := 208) (l' := [(0, .inr (.inr 1826)), (1, .inl (l : Int)), (2, .inl fu), (3, .inl (g : Int)), (4, .inl 0)]) (st' := []) rfl ?_
        have g13 : -2147483648 ≤ (H1.1 1826 74) ∧ (H1.1 1826 74) ≤ 2147483647 := hrg7.1 1826 13 74 _ .int rfl rfl
        have g14 : -2147483648 ≤ (H1.1 1826 77) ∧ (H1.1 1826 77) ≤ 2147483647 := hrg7.1 1826 13 77 _ .int rfl rfl
        exact ih.2.2.2 _ l g 0 (fr_o (fr_a (fr_a (fr_a (fr_a hf (by decide)) (by decide)) (by decide)) (by decide)) (by decide)) (by omega) (by omega : (H1.1 1826 74) = (l : Int)) hus hor hgo ⟨fun x hx => sOK_k (hk x (by omega)) rfl (fun _ _ => rfl), ⟨0, (show up (H1.1 1879) g 0 g = _ from up_eq _ _ _), by decide, fun h9 q9 => absurd q9 (by omega)⟩⟩ (by omega : 0 ≤ (H1.1 1845 l) ∧ (H1.1 1845 l) ≤ 6) (by omega) (by omega : 1000 - 0 < w)
      · obtain ⟨kk, e1, e2⟩ := hv4 s (by omega)
        have elz : (H1.1 1843) = (H.1 1843) := hf.2.1 1843 (by decide) (by decide)
        have els : (H1.1 1842) = (H.1 1842) := hf.2.1 1842 (by decide) (by decide)
        refine h_run 14 (pc' := 97) (l' := [(0, .inr (.inr 1826)), (1, .inl (l : Int)), (2, .inl fu), (3, .inl (g : Int)), (4, .inl (s : Int))]) (st' := [.inl ((2 * (l : Int)) + (s : Int)), .inr (.inr 1843), .inl ((2 * (g : Int)) + (s : Int)), .inr (.inr 1874)]) rfl ?_
        refine h_ild (c := 1843) (j := ((2 * l) + s)) (i := ((2 * (l : Int)) + (s : Int))) rfl rfl (by decide) (by omega) (by omega) ?_
        have g15 : -2147483648 ≤ (H1.1 1843 ((2 * l) + s)) ∧ (H1.1 1843 ((2 * l) + s)) ≤ 2147483647 := hrg7.2 1843 ((2 * l) + s) 32 .int rfl (by omega)
        have e16 : (H1.1 1843 ((2 * l) + s)) = (H.1 1843 ((2 * l) + s)) := congrFun (hf.2.1 1843 (by decide) (by decide)) ((2 * l) + s)
        refine h_run 0 (pc' := 98) (l' := [(0, .inr (.inr 1826)), (1, .inl (l : Int)), (2, .inl fu), (3, .inl (g : Int)), (4, .inl (s : Int))]) (st' := [.inl (H1.1 1843 ((2 * l) + s)), .inl ((2 * (g : Int)) + (s : Int)), .inr (.inr 1874)]) rfl ?_
        refine h_ist (c := 1874) (j := ((2 * g) + s)) (i := ((2 * (g : Int)) + (s : Int))) (x := (H1.1 1843 ((2 * l) + s))) rfl rfl (by decide) (by decide) (by omega) (by omega) (by omega) ?_
        refine h_run 2 (pc' := 102) (l' := [(0, .inr (.inr 1826)), (1, .inl (l : Int)), (2, .inl fu), (3, .inl (g : Int)), (4, .inl (s : Int)), (5, .inl 0)]) (st' := []) rfl ?_
        have g17 : -2147483648 ≤ (H1.1 1826 74) ∧ (H1.1 1826 74) ≤ 2147483647 := hrg7.1 1826 13 74 _ .int rfl rfl
        have g18 : -2147483648 ≤ (H1.1 1826 77) ∧ (H1.1 1826 77) ≤ 2147483647 := hrg7.1 1826 13 77 _ .int rfl rfl
        exact ih.2.2.1 _ l g s 0 (kk) (fr_a hf (by decide)) (by omega) (by omega : (H1.1 1826 74) = (l : Int)) hus hor hgo (by omega) (fun x hx => sOK_k (hk x hx) (show up (H1.1 1874) ((2 * g) + s) (H1.1 1843 ((2 * l) + s)) (2 * g + x) = _ from up_ne _ _ (by omega)) (fun _ _ => rfl)) e1 ⟨vn, hv2, e2⟩ (show up (H1.1 1874) (2 * g + s) ((H1.1 1843) (2 * l + s)) (2 * g + s) = _ by rw [up_eq, elz]; exact e1.1) (by omega) (fun x hx => absurd hx (Nat.not_lt_zero _)) (by omega : 100000 - 1000 * s - 10 - 0 < w)
    · intro H1 l g s k kk hf hl hpf hus hor hgo hs hk hkk htm hsz hk2 hcp hw
      refine h_rng (fun hrg19 => ?_)
      obtain ⟨⟨pb1, pb2, pb3, pb4, pb5⟩, pw1, pw2, pw3, pw4⟩ := (id hP : PW H (H.1 1826 1) (H.1 1826 3) (H.1 1826 8) (H.1 1826 13) (H.1 1826 19))
      obtain ⟨vn, ⟨hv1, hv2⟩, hv3, hv4⟩ := pw4 l (by omega)
      have htm9 := htm
      obtain ⟨vv, hvv6, htm⟩ := htm
      have els : (H1.1 1842) = (H.1 1842) := hf.2.1 1842 (by decide) (by decide)
      have elz : (H1.1 1843) = (H.1 1843) := hf.2.1 1843 (by decide) (by decide)
      refine h_run 8 (pc' := 114) (l' := [(0, .inr (.inr 1826)), (1, .inl (l : Int)), (2, .inl fu), (3, .inl (g : Int)), (4, .inl (s : Int)), (5, .inl (k : Int))]) (st' := [.inl ((2 * (l : Int)) + (s : Int)), .inr (.inr 1843), .inl (k : Int)]) rfl ?_
      refine h_ild (c := 1843) (j := ((2 * l) + s)) (i := ((2 * (l : Int)) + (s : Int))) rfl rfl (by decide) (by omega) (by omega) ?_
      have g20 : -2147483648 ≤ (H1.1 1843 ((2 * l) + s)) ∧ (H1.1 1843 ((2 * l) + s)) ≤ 2147483647 := hrg19.2 1843 ((2 * l) + s) 32 .int rfl (by omega)
      have e21 : (H1.1 1843 ((2 * l) + s)) = (H.1 1843 ((2 * l) + s)) := congrFun (hf.2.1 1843 (by decide) (by decide)) ((2 * l) + s)
      refine h_run 0 (pc' := 115) (l' := [(0, .inr (.inr 1826)), (1, .inl (l : Int)), (2, .inl fu), (3, .inl (g : Int)), (4, .inl (s : Int)), (5, .inl (k : Int))]) (st' := [.inl (H1.1 1843 ((2 * l) + s)), .inl (k : Int)]) rfl ?_
      refine h_ige (off := 41) (t := 156) rfl rfl (by omega) (by omega) (fun c22 => ?_) (fun c22 => ?_)
      · refine h_run 2 (pc' := 71) (l' := [(0, .inr (.inr 1826)), (1, .inl (l : Int)), (2, .inl fu), (3, .inl (g : Int)), (4, .inl ((s : Int) + 1)), (5, .inl (k : Int))]) (st' := []) rfl ?_
        have g23 : -2147483648 ≤ (H1.1 1826 74) ∧ (H1.1 1826 74) ≤ 2147483647 := hrg19.1 1826 13 74 _ .int rfl rfl
        have g24 : -2147483648 ≤ (H1.1 1826 77) ∧ (H1.1 1826 77) ≤ 2147483647 := hrg19.1 1826 13 77 _ .int rfl rfl
        refine h_loc [0, 1, 2, 3, 4] rfl ?_
        rw [show ((s : Int) + 1) = (((s + 1) : Nat) : Int) by omega]
        exact ih.2.1 _ l g (s + 1) hf (by omega) (by omega : (H1.1 1826 74) = (l : Int)) hus hor hgo (by omega) (fun x hx => by by_cases e9 : x = s; { rw [e9]; exact ⟨kk, hsz, by omega, tm_mono (tm_at (b := (H1.1 1873)) htm (fun y hy => hcp y (by omega))) (fun _ _ _ q9 => ⟨rfl, by unfold m_sg at *; omega, rfl⟩)⟩ }; { exact hk x (by omega) }) (by omega : 100000 - 1000 * (s + 1) < w)
      · refine h_run 5 (pc' := 126) (l' := [(0, .inr (.inr 1826)), (1, .inl (l : Int)), (2, .inl fu), (3, .inl (g : Int)), (4, .inl (s : Int)), (5, .inl (k : Int))]) (st' := [.inl (s : Int), .inl (g : Int), .inr (.inr 1826), .inr (.inr 1873)]) rfl ?_
        refine h_cv (i := 528) (j := 221) (b := 1826) (M' := mt_221) (xs := [.inl (s : Int), .inl (g : Int)]) (rest := [.inr (.inr 1873)]) rfl rfl rfl rfl rfl rfl (Nat.le_of_ble_eq_true rfl) (Nat.le_of_ble_eq_true rfl) (by omega) (m_sideAt (by omega)) ?_
        rintro _ _ ⟨rfl, rfl⟩
        refine h_run 0 (pc' := 129) (l' := [(0, .inr (.inr 1826)), (1, .inl (l : Int)), (2, .inl fu), (3, .inl (g : Int)), (4, .inl (s : Int)), (5, .inl (k : Int))]) (st' := [.inl (64 * ((2 * (g : Int)) + (s : Int))), .inr (.inr 1873)]) rfl ?_
        refine h_run 13 (pc' := 148) (l' := [(0, .inr (.inr 1826)), (1, .inl (l : Int)), (2, .inl fu), (3, .inl (g : Int)), (4, .inl (s : Int)), (5, .inl (k : Int))]) (st' := [.inl ((48 * ((2 * (l : Int)) + (s : Int))) + (k : Int)), .inr (.inr 1842), .inl ((64 * ((2 * (g : Int)) + (s : Int))) + (k : Int)), .inr (.inr 1873)]) rfl ?_
        refine h_ild (c := 1842) (j := ((48 * ((2 * l) + s)) + k)) (i := ((48 * ((2 * (l : Int)) + (s : Int))) + (k : Int))) rfl rfl (by decide) (by omega) (by omega) ?_
        have g25 : -2147483648 ≤ (H1.1 1842 ((48 * ((2 * l) + s)) + k)) ∧ (H1.1 1842 ((48 * ((2 * l) + s)) + k)) ≤ 2147483647 := hrg19.2 1842 ((48 * ((2 * l) + s)) + k) 1536 .int rfl (by omega)
        have e26 : (H1.1 1842 ((48 * ((2 * l) + s)) + k)) = (H.1 1842 ((48 * ((2 * l) + s)) + k)) := congrFun (hf.2.1 1842 (by decide) (by decide)) ((48 * ((2 * l) + s)) + k)
        refine h_run 0 (pc' := 149) (l' := [(0, .inr (.inr 1826)), (1, .inl (l : Int)), (2, .inl fu), (3, .inl (g : Int)), (4, .inl (s : Int)), (5, .inl (k : Int))]) (st' := [.inl (H1.1 1842 ((48 * ((2 * l) + s)) + k)), .inl ((64 * ((2 * (g : Int)) + (s : Int))) + (k : Int)), .inr (.inr 1873)]) rfl ?_
        refine h_ist (c := 1873) (j := ((64 * ((2 * g) + s)) + k)) (i := ((64 * ((2 * (g : Int)) + (s : Int))) + (k : Int))) (x := (H1.1 1842 ((48 * ((2 * l) + s)) + k))) rfl rfl (by decide) (by decide) (by omega) (by omega) (by omega) ?_
        refine h_run 2 (pc' := 102) (l' := [(0, .inr (.inr 1826)), (1, .inl (l : Int)), (2, .inl fu), (3, .inl (g : Int)), (4, .inl (s : Int)), (5, .inl ((k : Int) + 1))]) (st' := []) rfl ?_
        have g27 : -2147483648 ≤ (H1.1 1826 74) ∧ (H1.1 1826 74) ≤ 2147483647 := hrg19.1 1826 13 74 _ .int rfl rfl
        have g28 : -2147483648 ≤ (H1.1 1826 77) ∧ (H1.1 1826 77) ≤ 2147483647 := hrg19.1 1826 13 77 _ .int rfl rfl
        rw [show ((k : Int) + 1) = (((k + 1) : Nat) : Int) by omega]
        exact ih.2.2.1 _ l g s (k + 1) (kk) (fr_a hf (by decide)) (by omega) (by omega : (H1.1 1826 74) = (l : Int)) hus hor hgo (by omega) (fun x hx => sOK_k (hk x hx) rfl (fun y hy => (show up (H1.1 1873) ((64 * ((2 * g) + s)) + k) (H1.1 1842 ((48 * ((2 * l) + s)) + k)) (64 * (2 * g + x) + y) = _ from up_ne _ _ (by omega)))) hkk htm9 hsz (by omega) (fun x hx => by show up (H1.1 1873) (64 * (2 * g + s) + k) ((H1.1 1842) (48 * (2 * l + s) + k)) (64 * (2 * g + s) + x) = _; rw [up_if, els]; by_cases e9 : x = k; { rw [if_pos (by omega), e9] }; { rw [if_neg (by omega)]; exact hcp x (by omega) }) (by omega : 100000 - 1000 * s - 10 - (k + 1) < w)
    · intro H1 l g v hf hl hpf hus hor hgo hgk hva hv hw
      refine h_rng (fun hrg29 => ?_)
      obtain ⟨⟨pb1, pb2, pb3, pb4, pb5⟩, pw1, pw2, pw3, pw4⟩ := (id hP : PW H (H.1 1826 1) (H.1 1826 3) (H.1 1826 8) (H.1 1826 13) (H.1 1826 19))
      obtain ⟨vn, ⟨hv1, hv2⟩, hv3, hv4⟩ := pw4 l (by omega)
      refine h_run 3 (pc' := 214) (l' := [(0, .inr (.inr 1826)), (1, .inl (l : Int)), (2, .inl fu), (3, .inl (g : Int)), (4, .inl (v : Int))]) (st' := [.inl (H1.1 1826 89), .inl (v : Int)]) rfl ?_
      have g30 : -2147483648 ≤ (H1.1 1826 89) ∧ (H1.1 1826 89) ≤ 2147483647 := hrg29.1 1826 13 89 _ .int rfl rfl
      refine h_ige (off := 44) (t := 258) rfl rfl (by omega) (by omega) (fun c31 => ?_) (fun c31 => ?_)
      · refine h_run 1 (pc' := 259) (l' := [(0, .inr (.inr 1826)), (1, .inl (l : Int)), (2, .inl fu), (3, .inl (g : Int)), (4, .inl (v : Int))]) (st' := [.inr (.inr 1826)]) rfl ?_
        refine h_cv (i := 544) (j := 223) (b := 1826) (M' := mt_223) (xs := []) (rest := []) rfl rfl rfl rfl rfl rfl (Nat.le_of_ble_eq_true rfl) (Nat.le_of_ble_eq_true rfl) (by omega) (m_tellHyps (by omega) (by rw [hor.1]; omega)) ?_
        rintro _ H32 ⟨rfl, hfH32⟩
        refine h_rng (fun hrg33 => ?_)
        have hf34 : fr [74, 75, 76, 77, 89] [1871, 1872, 1873, 1874, 1875, 1876, 1877, 1878, 1879, 1882, 1883] H H32 := fr_t hf hfH32 (by decide) (by decide)
        refine h_run 0 (pc' := 262) (l' := [(0, .inr (.inr 1826)), (1, .inl (l : Int)), (2, .inl fu), (3, .inl (g : Int)), (4, .inl (v : Int))]) (st' := []) rfl ?_
        refine h_run 1 (pc' := 263) (l' := [(0, .inr (.inr 1826)), (1, .inl (l : Int)), (2, .inl fu), (3, .inl (g : Int)), (4, .inl (v : Int))]) (st' := [.inl 1]) rfl ?_
        refine h_reti (x := 1) rfl rfl ?_
        have g35 : -2147483648 ≤ (H32.1 1826 89) ∧ (H32.1 1826 89) ≤ 2147483647 := hrg33.1 1826 13 89 _ .int rfl rfl
        have e36 : (H32.1 1826 89) = (H1.1 1826 89) := hfH32.2.2 89 (by decide)
        have g37 : -2147483648 ≤ (H32.1 1826 74) ∧ (H32.1 1826 74) ≤ 2147483647 := hrg33.1 1826 13 74 _ .int rfl rfl
        have e38 : (H32.1 1826 74) = (H1.1 1826 74) := hfH32.2.2 74 (by decide)
        refine Or.inr ⟨rfl, hf34, OS_1 ((hfH32.2.2 77 (by decide)).trans hgo) ((congrFun (hfH32.2.1 1871 (by decide) (by decide)) 0).trans hor.1) hor.2 (by rw [show (H32.1 1872) = (H1.1 1872) from hfH32.2.1 1872 (by decide) (by decide)]; exact hus.1) (by rw [show (H32.1 1872) = (H1.1 1872) from hfH32.2.1 1872 (by decide) (by decide)]; exact hus.2) (gok_s hgk (sS_fr hfH32 (by decide) g) (sH_fr hfH32 (by decide) g)), ?_, (show 0 ≤ (H32.1 1826 89) ∧ (H32.1 1826 89) ≤ 60 by omega), (show 0 ≤ (H32.1 1826 74) ∧ (H32.1 1826 74) < (H.1 1826 19) by omega)⟩
        rw [show (H32.1 1871) 0 = (g : Int) from (congrFun (hfH32.2.1 1871 (by decide) (by decide)) 0).trans hor.1]
        omega
      · refine h_run 10 (pc' := 234) (l' := [(0, .inr (.inr 1826)), (1, .inl (l : Int)), (2, .inl fu), (3, .inl (g : Int)), (4, .inl (v : Int))]) (st' := [.inl ((6 * (l : Int)) + (v : Int)), .inr (.inr 1846), .inl (v : Int), .inr (.inr 1882)]) rfl ?_
        refine h_ild (c := 1846) (j := ((6 * l) + v)) (i := ((6 * (l : Int)) + (v : Int))) rfl rfl (by decide) (by omega) (by omega) ?_
        have g39 : -2147483648 ≤ (H1.1 1846 ((6 * l) + v)) ∧ (H1.1 1846 ((6 * l) + v)) ≤ 2147483647 := hrg29.2 1846 ((6 * l) + v) 96 .int rfl (by omega)
        have e40 : (H1.1 1846 ((6 * l) + v)) = (H.1 1846 ((6 * l) + v)) := congrFun (hf.2.1 1846 (by decide) (by decide)) ((6 * l) + v)
        refine h_run 0 (pc' := 235) (l' := [(0, .inr (.inr 1826)), (1, .inl (l : Int)), (2, .inl fu), (3, .inl (g : Int)), (4, .inl (v : Int))]) (st' := [.inl (H1.1 1846 ((6 * l) + v)), .inl (v : Int), .inr (.inr 1882)]) rfl ?_
        refine h_ist (c := 1882) (j := v) (i := (v : Int)) (x := (H1.1 1846 ((6 * l) + v))) rfl rfl (by decide) (by decide) rfl (by omega) (by omega) ?_
        refine h_run 4 (pc' := 243) (l' := [(0, .inr (.inr 1826)), (1, .inl (l : Int)), (2, .inl fu), (3, .inl (g : Int)), (4, .inl (v : Int))]) (st' := [.inl fu, .inl (v : Int), .inr (.inr 1883)]) rfl ?_
        refine h_zne (off := 7) (t := 250) rfl rfl (by omega) (fun c41 => ?_) (fun c41 => ?_)
        · refine h_run 1 (pc' := 251) (l' := [(0, .inr (.inr 1826)), (1, .inl (l : Int)), (2, .inl fu), (3, .inl (g : Int)), (4, .inl (v : Int))]) (st' := [.inl 0, .inl (v : Int), .inr (.inr 1883)]) rfl ?_
          refine h_bst (c := 1883) (j := v) (i := (v : Int)) (x := 0) (Or.inr rfl) rfl rfl (by decide) (by decide) rfl (by omega) (show (0 : Int) ≤ 0 ∧ 0 ≤ 1 by omega) ?_
          refine h_run 2 (pc' := 208) (l' := [(0, .inr (.inr 1826)), (1, .inl (l : Int)), (2, .inl fu), (3, .inl (g : Int)), (4, .inl ((v : Int) + 1))]) (st' := []) rfl ?_
          have g42 : -2147483648 ≤ (H1.1 1826 74) ∧ (H1.1 1826 74) ≤ 2147483647 := hrg29.1 1826 13 74 _ .int rfl rfl
          have g43 : -2147483648 ≤ (H1.1 1826 77) ∧ (H1.1 1826 77) ≤ 2147483647 := hrg29.1 1826 13 77 _ .int rfl rfl
          rw [show ((v : Int) + 1) = (((v + 1) : Nat) : Int) by omega]
          exact ih.2.2.2 _ l g (v + 1) (fr_a (fr_a hf (by decide)) (by decide)) (by omega) (by omega : (H1.1 1826 74) = (l : Int)) hus hor hgo (gok_s hgk ⟨fun _ _ => rfl, fun _ _ => rfl⟩ ⟨rfl, fun _ _ => rfl, fun _ _ => rfl⟩) (by omega : 0 ≤ (H1.1 1826 89) ∧ (H1.1 1826 89) ≤ 6) (by omega) (by omega : 1000 - (v + 1) < w)
        · refine h_run 2 (pc' := 251) (l' := [(0, .inr (.inr 1826)), (1, .inl (l : Int)), (2, .inl fu), (3, .inl (g : Int)), (4, .inl (v : Int))]) (st' := [.inl 1, .inl (v : Int), .inr (.inr 1883)]) rfl ?_
          refine h_bst (c := 1883) (j := v) (i := (v : Int)) (x := 1) (Or.inr rfl) rfl rfl (by decide) (by decide) rfl (by omega) (show (0 : Int) ≤ 1 ∧ 1 ≤ 1 by omega) ?_
          refine h_run 2 (pc' := 208) (l' := [(0, .inr (.inr 1826)), (1, .inl (l : Int)), (2, .inl fu), (3, .inl (g : Int)), (4, .inl ((v : Int) + 1))]) (st' := []) rfl ?_
          have g44 : -2147483648 ≤ (H1.1 1826 74) ∧ (H1.1 1826 74) ≤ 2147483647 := hrg29.1 1826 13 74 _ .int rfl rfl
          have g45 : -2147483648 ≤ (H1.1 1826 77) ∧ (H1.1 1826 77) ≤ 2147483647 := hrg29.1 1826 13 77 _ .int rfl rfl
          rw [show ((v : Int) + 1) = (((v + 1) : Nat) : Int) by omega]
          exact ih.2.2.2 _ l g (v + 1) (fr_a (fr_a hf (by decide)) (by decide)) (by omega) (by omega : (H1.1 1826 74) = (l : Int)) hus hor hgo (gok_s hgk ⟨fun _ _ => rfl, fun _ _ => rfl⟩ ⟨rfl, fun _ _ => rfl, fun _ _ => rfl⟩) (by omega : 0 ≤ (H1.1 1826 89) ∧ (H1.1 1826 89) ≤ 6) (by omega) (by omega : 1000 - (v + 1) < w)
set_option maxRecDepth 100000 in
theorem m_begin {zC : Nat → Option zsh} {d : Nat} (hd : 2 ≤ d) {H : hp} {x fu : Int} (hP : PWc H) (hx : -2147483648 ≤ x ∧ x ≤ 2147483647) (hfu : 0 ≤ fu ∧ fu ≤ 1) : hG (zs zC) d mt_227 0 (zargs 0 [.inr (.inr 1826), .inl x, .inl fu]) [] H (fun r9 H2 => (r9 = some (.inl (-101)) ∧ H = H2) ∨ (r9 = some (.inl 1) ∧ fr [74, 75, 76, 77, 89] [1871, 1872, 1873, 1874, 1875, 1876, 1877, 1878, 1879, 1882, 1883] H H2 ∧ OS H H2 1 ∧ (0 ≤ (H2.1 1871) 0 ∧ (H2.1 1871) 0 < 40) ∧ (0 ≤ (H2.1 1826 89) ∧ (H2.1 1826 89) ≤ 60) ∧ (0 ≤ (H2.1 1826 74) ∧ (H2.1 1826 74) < (H.1 1826 19)))) := by
  refine h_rng (fun hrg0 => ?_)
  refine h_run 0 (pc' := 0) (l' := [(0, .inr (.inr 1826)), (1, .inl x), (2, .inl fu)]) (st' := []) rfl ?_
  obtain ⟨⟨pb1, pb2, pb3, pb4, pb5⟩, pw1, pw2, pw3, pw4⟩ := (id hP : PW H (H.1 1826 1) (H.1 1826 3) (H.1 1826 8) (H.1 1826 13) (H.1 1826 19))
  refine h_run 1 (pc' := 1) (l' := [(0, .inr (.inr 1826)), (1, .inl x), (2, .inl fu)]) (st' := [.inl x]) rfl ?_
  refine h_zlt (off := 11) (t := 12) rfl rfl (by omega) (fun c46 => ?_) (fun c46 => ?_)
  · refine h_run 1 (pc' := 14) (l' := [(0, .inr (.inr 1826)), (1, .inl x), (2, .inl fu)]) (st' := [.inl (-101)]) rfl ?_
    refine h_reti (x := (-101)) rfl rfl ?_
    exact Or.inl ⟨rfl, rfl⟩
  · refine h_run 3 (pc' := 9) (l' := [(0, .inr (.inr 1826)), (1, .inl x), (2, .inl fu)]) (st' := [.inl (H.1 1826 19), .inl x]) rfl ?_
    have g47 : -2147483648 ≤ (H.1 1826 19) ∧ (H.1 1826 19) ≤ 2147483647 := hrg0.1 1826 13 19 _ .int rfl rfl
    refine h_ilt (off := 6) (t := 15) rfl rfl (by omega) (by omega) (fun c48 => ?_) (fun c48 => ?_)
    · obtain ⟨l, hl⟩ : ∃ k9 : Nat, x = (k9 : Int) := ⟨(x).toNat, by omega⟩
      rw [show x = (l : Int) from hl]
      refine h_run 2 (pc' := 17) (l' := [(0, .inr (.inr 1826)), (1, .inl (l : Int)), (2, .inl fu)]) (st' := [.inl (l : Int), .inr (.inr 1826)]) rfl ?_
      refine h_puti (i := 150) (ci := 13) (k := 74) (a := 1826) (x := (l : Int)) rfl rfl rfl rfl rfl rfl (by decide) (by omega) ?_
      refine h_run 2 (pc' := 22) (l' := [(0, .inr (.inr 1826)), (1, .inl (l : Int)), (2, .inl fu)]) (st' := [.inl fu, .inr (.inr 1826)]) rfl ?_
      refine h_putz (i := 534) (ci := 13) (k := 75) (a := 1826) (x := fu) rfl rfl rfl rfl rfl rfl (by decide) (by first | omega | decide) ?_
      refine h_run 2 (pc' := 27) (l' := [(0, .inr (.inr 1826)), (1, .inl (l : Int)), (2, .inl fu)]) (st' := [.inl 0, .inr (.inr 1826)]) rfl ?_
      refine h_puti (i := 417) (ci := 13) (k := 76) (a := 1826) (x := 0) rfl rfl rfl rfl rfl rfl (by decide) (by decide) ?_
      refine h_run 2 (pc' := 32) (l' := [(0, .inr (.inr 1826)), (1, .inl (l : Int)), (2, .inl fu), (3, .inl 0)]) (st' := []) rfl ?_
      exact (m_begin_cut hd hP hx hfu _).1 _ l 0 (fr_o (fr_o (fr_o (fr_rf _ _ _) (by decide)) (by decide)) (by decide)) (by omega) (by omega : (l : Int) = (l : Int)) (by omega) (fun x hx => absurd hx (Nat.not_lt_zero _)) (Nat.lt_succ_self _)
    · refine h_run 1 (pc' := 14) (l' := [(0, .inr (.inr 1826)), (1, .inl x), (2, .inl fu)]) (st' := [.inl (-101)]) rfl ?_
      refine h_reti (x := (-101)) rfl rfl ?_
      exact Or.inl ⟨rfl, rfl⟩
