/-! begin, told exactly -/
/-! begin -/
set_option maxRecDepth 100000 in
theorem n_begin1_cut {zC : Nat → Option zsh} {d : Nat} (hd : 2 ≤ d) {H : hp} {x fu : Int} (hP : PWc H) (hx : -2147483648 ≤ x ∧ x ≤ 2147483647) (hfu : 0 ≤ fu ∧ fu ≤ 1) (hx2 : 0 ≤ x ∧ x < (H.1 1826 19)) : ∀ w : Nat, (∀ (H1 : hp) (l : Nat) (k : Nat), (fr [74, 75, 76, 77, 89] [1871, 1872, 1873, 1874, 1875, 1876, 1877, 1878, 1879, 1882, 1883] H H1) → ((l : Int) < (H.1 1826 19)) → ((H1.1 1826 74) = (l : Int)) → (k ≤ 40) → (∀ x, x < k → (H1.1 1872) x = 0) → 1000000 - k < w → hG (zs zC) d mt_227 32 [(0, .inr (.inr 1826)), (1, .inl (l : Int)), (2, .inl fu), (3, .inl (k : Int))] [] H1 (fun r9 H2 => (r9 = some (.inl 1) ∧ fr [74, 75, 76, 77, 89] [1871, 1872, 1873, 1874, 1875, 1876, 1877, 1878, 1879, 1882, 1883] H H2 ∧ OS H H2 1 ∧ (0 ≤ (H2.1 1871) 0 ∧ (H2.1 1871) 0 < 40) ∧ (0 ≤ (H2.1 1826 89) ∧ (H2.1 1826 89) ≤ 60) ∧ (0 ≤ (H2.1 1826 74) ∧ (H2.1 1826 74) < (H.1 1826 19))))) ∧ (∀ (H1 : hp) (l : Nat) (g : Nat) (s : Nat), (fr [74, 75, 76, 77, 89] [1871, 1872, 1873, 1874, 1875, 1876, 1877, 1878, 1879, 1882, 1883] H H1) → ((l : Int) < (H.1 1826 19)) → ((H1.1 1826 74) = (l : Int)) → ((H1.1 1872) g = 1 ∧ ∀ x, x < 40 → x ≠ g → (H1.1 1872) x = 0) → ((H1.1 1871) 0 = (g : Int) ∧ g < 40) → ((H1.1 1826 77) = 1) → (s ≤ 2) → (∀ x, x < s → sOK H H1 (2 * g + x)) → 100000 - 1000 * s < w → hG (zs zC) d mt_227 71 [(0, .inr (.inr 1826)), (1, .inl (l : Int)), (2, .inl fu), (3, .inl (g : Int)), (4, .inl (s : Int))] [] H1 (fun r9 H2 => (r9 = some (.inl 1) ∧ fr [74, 75, 76, 77, 89] [1871, 1872, 1873, 1874, 1875, 1876, 1877, 1878, 1879, 1882, 1883] H H2 ∧ OS H H2 1 ∧ (0 ≤ (H2.1 1871) 0 ∧ (H2.1 1871) 0 < 40) ∧ (0 ≤ (H2.1 1826 89) ∧ (H2.1 1826 89) ≤ 60) ∧ (0 ≤ (H2.1 1826 74) ∧ (H2.1 1826 74) < (H.1 1826 19))))) ∧ (∀ (H1 : hp) (l : Nat) (g : Nat) (s : Nat) (k : Nat) (kk : Nat), (fr [74, 75, 76, 77, 89] [1871, 1872, 1873, 1874, 1875, 1876, 1877, 1878, 1879, 1882, 1883] H H1) → ((l : Int) < (H.1 1826 19)) → ((H1.1 1826 74) = (l : Int)) → ((H1.1 1872) g = 1 ∧ ∀ x, x < 40 → x ≠ g → (H1.1 1872) x = 0) → ((H1.1 1871) 0 = (g : Int) ∧ g < 40) → ((H1.1 1826 77) = 1) → (s < 2) → (∀ x, x < s → sOK H H1 (2 * g + x)) → ((H.1 1843) (2 * l + s) = (kk : Int) ∧ kk ≤ 40) → (∃ vv : Nat, vv ≤ 6 ∧ tm (ma (H.1 1833) (H.1 1830)) (m_sg (H.1 1826 3) (H.1 1826 8) (vv : Nat)) (H.1 1842) kk (48 * (2 * l + s)) 1) → ((H1.1 1874) (2 * g + s) = (kk : Int)) → (k ≤ kk) → (∀ x, x < k → (H1.1 1873) (64 * (2 * g + s) + x) = (H.1 1842) (48 * (2 * l + s) + x)) → 100000 - 1000 * s - 10 - k < w → hG (zs zC) d mt_227 102 [(0, .inr (.inr 1826)), (1, .inl (l : Int)), (2, .inl fu), (3, .inl (g : Int)), (4, .inl (s : Int)), (5, .inl (k : Int))] [] H1 (fun r9 H2 => (r9 = some (.inl 1) ∧ fr [74, 75, 76, 77, 89] [1871, 1872, 1873, 1874, 1875, 1876, 1877, 1878, 1879, 1882, 1883] H H2 ∧ OS H H2 1 ∧ (0 ≤ (H2.1 1871) 0 ∧ (H2.1 1871) 0 < 40) ∧ (0 ≤ (H2.1 1826 89) ∧ (H2.1 1826 89) ≤ 60) ∧ (0 ≤ (H2.1 1826 74) ∧ (H2.1 1826 74) < (H.1 1826 19))))) ∧ (∀ (H1 : hp) (l : Nat) (g : Nat) (v : Nat), (fr [74, 75, 76, 77, 89] [1871, 1872, 1873, 1874, 1875, 1876, 1877, 1878, 1879, 1882, 1883] H H1) → ((l : Int) < (H.1 1826 19)) → ((H1.1 1826 74) = (l : Int)) → ((H1.1 1872) g = 1 ∧ ∀ x, x < 40 → x ≠ g → (H1.1 1872) x = 0) → ((H1.1 1871) 0 = (g : Int) ∧ g < 40) → ((H1.1 1826 77) = 1) → (gok H H1 g) → (0 ≤ (H1.1 1826 89) ∧ (H1.1 1826 89) ≤ 6) → (v ≤ 60) → 1000 - v < w → hG (zs zC) d mt_227 208 [(0, .inr (.inr 1826)), (1, .inl (l : Int)), (2, .inl fu), (3, .inl (g : Int)), (4, .inl (v : Int))] [] H1 (fun r9 H2 => (r9 = some (.inl 1) ∧ fr [74, 75, 76, 77, 89] [1871, 1872, 1873, 1874, 1875, 1876, 1877, 1878, 1879, 1882, 1883] H H2 ∧ OS H H2 1 ∧ (0 ≤ (H2.1 1871) 0 ∧ (H2.1 1871) 0 < 40) ∧ (0 ≤ (H2.1 1826 89) ∧ (H2.1 1826 89) ≤ 60) ∧ (0 ≤ (H2.1 1826 74) ∧ (H2.1 1826 74) < (H.1 1826 19))))) := by
  intro w
  induction w with
  | zero => exact ⟨fun _ _ _ _ _ _ _ _ h => absurd h (Nat.not_lt_zero _), fun _ _ _ _ _ _ _ _ _ _ _ _ h => absurd h (Nat.not_lt_zero _), fun _ _ _ _ _ _ _ _ _ _ _ _ _ _ _ _ _ _ _ h => absurd h (Nat.not_lt_zero _), fun _ _ _ _ _ _ _ _ _ _ _ _ _ h => absurd h (Nat.not_lt_zero _)⟩
  | succ w ih =>
    refine ⟨?_, ?_, ?_, ?_⟩
    · intro H1 l k hf hl hpf hk hu hw
      refine h_rng (fun hrg1 => ?_)
      obtain ⟨⟨pb1, pb2, pb3, pb4, pb5⟩, pw1, pw2, pw3, pw4⟩ := (id hP : PW H (H.1 1826 1) (H.1 1826 3) (H.1 1826 8) (H.1 1826 13) (H.1 1826 19))
      obtain ⟨vn, ⟨hv1, hv2⟩, hv3, hv4⟩ := pw4 l (by omega)
      refine h_run 2 (pc' := 35) (l' := [(0, .inr (.inr 1826)), (1, .inl (l : Int)), (2, .inl fu), (3, .inl (k : Int))]) (st' := [.inl 40, .inl (k : Int)]) rfl ?_
      refine h_ige (off := 16) (t := 51) rfl rfl (by omega) (by decide) (fun c2 => ?_) (fun c2 => ?_)
      · refine h_run 1 (pc' := 52) (l' := [(0, .inr (.inr 1826)), (1, .inl (l : Int)), (2, .inl fu), (3, .inl (k : Int))]) (st' := [.inr (.inr 1826)]) rfl ?_
        refine h_cv (i := 538) (j := 224) (b := 1826) (M' := mt_224) (xs := []) (rest := []) rfl rfl rfl rfl rfl rfl (Nat.le_of_ble_eq_true rfl) (Nat.le_of_ble_eq_true rfl) (by omega) (m_free (by omega) (g0 := 0) (show 0 < 40 ∧ (H1.1 1872) 0 = 0 from ⟨by decide, hu 0 (by omega)⟩)) ?_
        rintro _ H4 ⟨g3, rfl, g3l, g3u, rfl⟩
        refine h_run 0 (pc' := 55) (l' := [(0, .inr (.inr 1826)), (1, .inl (l : Int)), (2, .inl fu), (3, .inl (k : Int))]) (st' := [.inl (g3 : Int)]) rfl ?_
        refine h_run 5 (pc' := 62) (l' := [(0, .inr (.inr 1826)), (1, .inl (l : Int)), (2, .inl fu), (3, .inl (g3 : Int))]) (st' := [.inl (g3 : Int), .inl 0, .inr (.inr 1871)]) rfl ?_
        refine h_ist (c := 1871) (j := 0) (i := 0) (x := (g3 : Int)) rfl rfl (by decide) (by decide) rfl (by omega) (by omega) ?_
        refine h_run 2 (pc' := 65) (l' := [(0, .inr (.inr 1826)), (1, .inl (l : Int)), (2, .inl fu), (3, .inl (g3 : Int))]) (st' := [.inl 1, .inr (.inr 1826)]) rfl ?_
        refine h_puti (i := 414) (ci := 13) (k := 77) (a := 1826) (x := 1) rfl rfl rfl rfl rfl rfl (by decide) (by decide) ?_
        refine h_run 2 (pc' := 71) (l' := [(0, .inr (.inr 1826)), (1, .inl (l : Int)), (2, .inl fu), (3, .inl (g3 : Int)), (4, .inl 0)]) (st' := []) rfl ?_
        have g5 : -2147483648 ≤ (H1.1 1826 74) ∧ (H1.1 1826 74) ≤ 2147483647 := hrg1.1 1826 13 74 _ .int rfl rfl
        exact ih.2.1 _ l g3 0 (fr_o (fr_a (fr_a hf (by decide)) (by decide)) (by decide)) (by omega) (by omega : (H1.1 1826 74) = (l : Int)) ⟨(show up (H1.1 1872) g3 1 g3 = 1 from up_eq _ _ _), fun x hx q9 => (show up (H1.1 1872) g3 1 x = 0 by rw [up_ne _ _ q9]; exact hu x (by omega))⟩ ⟨(show up (H1.1 1871) 0 (g3 : Int) 0 = _ from up_eq _ _ _), by omega⟩ rfl (by omega) (fun x hx => absurd hx (Nat.not_lt_zero _)) (by omega : 100000 - 1000 * 0 < w)
      · refine h_run 4 (pc' := 44) (l' := [(0, .inr (.inr 1826)), (1, .inl (l : Int)), (2, .inl fu), (3, .inl (k : Int))]) (st' := [.inl 0, .inl (k : Int), .inr (.inr 1872)]) rfl ?_
        refine h_bst (c := 1872) (j := k) (i := (k : Int)) (x := 0) (Or.inr rfl) rfl rfl (by decide) (by decide) rfl (by omega) (show (0 : Int) ≤ 0 ∧ 0 ≤ 1 by omega) ?_
        refine h_run 2 (pc' := 32) (l' := [(0, .inr (.inr 1826)), (1, .inl (l : Int)), (2, .inl fu), (3, .inl ((k : Int) + 1))]) (st' := []) rfl ?_
        have g6 : -2147483648 ≤ (H1.1 1826 74) ∧ (H1.1 1826 74) ≤ 2147483647 := hrg1.1 1826 13 74 _ .int rfl rfl
        rw [show ((k : Int) + 1) = (((k + 1) : Nat) : Int) by omega]
        exact ih.1 _ l (k + 1) (fr_a hf (by decide)) (by omega) (by omega : (H1.1 1826 74) = (l : Int)) (by omega) (fun x hx => by show up (H1.1 1872) k 0 x = 0; rw [up_if]; by_cases e9 : x = k; { rw [if_pos e9] }; { rw [if_neg e9]; exact hu x (by omega) }) (by omega : 1000000 - (k + 1) < w)
    · intro H1 l g s hf hl hpf hus hor hgo hs hk hw
      refine h_rng (fun hrg7 => ?_)
      obtain ⟨⟨pb1, pb2, pb3, pb4, pb5⟩, pw1, pw2, pw3, pw4⟩ := (id hP : PW H (H.1 1826 1) (H.1 1826 3) (H.1 1826 8) (H.1 1826 13) (H.1 1826 19))
      obtain ⟨vn, ⟨hv1, hv2⟩, hv3, hv4⟩ := pw4 l (by omega)
      refine h_run 2 (pc' := 74) (l' := [(0, .inr (.inr 1826)), (1, .inl (l : Int)), (2, .inl fu), (3, .inl (g : Int)), (4, .inl (s : Int))]) (st' := [.inl 2, .inl (s : Int)]) rfl ?_
      refine h_ige (off := 88) (t := 162) rfl rfl (by omega) (by decide) (fun c8 => ?_) (fun c8 => ?_)
      · refine h_run 6 (pc' := 172) (l' := [(0, .inr (.inr 1826)), (1, .inl (l : Int)), (2, .inl fu), (3, .inl (g : Int)), (4, .inl (s : Int))]) (st' := [.inl (l : Int), .inr (.inr 1844), .inl (g : Int), .inr (.inr 1875)]) rfl ?_
        refine h_ild (c := 1844) (j := l) (i := (l : Int)) rfl rfl (by decide) rfl (by omega) ?_
        have g9 : -2147483648 ≤ (H1.1 1844 l) ∧ (H1.1 1844 l) ≤ 2147483647 := hrg7.2 1844 l 16 .int rfl (by omega)
        have e10 : (H1.1 1844 l) = (H.1 1844 l) := congrFun (hf.2.1 1844 (by decide) (by decide)) l
        refine h_run 0 (pc' := 173) (l' := [(0, .inr (.inr 1826)), (1, .inl (l : Int)), (2, .inl fu), (3, .inl (g : Int)), (4, .inl (s : Int))]) (st' := [.inl (H1.1 1844 l), .inl (g : Int), .inr (.inr 1875)]) rfl ?_
        refine h_ist (c := 1875) (j := g) (i := (g : Int)) (x := (H1.1 1844 l)) rfl rfl (by decide) (by decide) rfl (by omega) (by omega) ?_
        refine h_run 4 (pc' := 180) (l' := [(0, .inr (.inr 1826)), (1, .inl (l : Int)), (2, .inl fu), (3, .inl (g : Int)), (4, .inl (s : Int))]) (st' := [.inr (.inl 0), .inl (g : Int), .inr (.inr 1876)]) rfl ?_
        refine h_lst (c := 1876) (j := g) (i := (g : Int)) (x := 0) rfl rfl (by decide) (by decide) rfl (by omega) (by decide) ?_
        refine h_run 4 (pc' := 187) (l' := [(0, .inr (.inr 1826)), (1, .inl (l : Int)), (2, .inl fu), (3, .inl (g : Int)), (4, .inl (s : Int))]) (st' := [.inl 0, .inl (g : Int), .inr (.inr 1877)]) rfl ?_
        refine h_ist (c := 1877) (j := g) (i := (g : Int)) (x := 0) rfl rfl (by decide) (by decide) rfl (by omega) (by decide) ?_
        refine h_run 4 (pc' := 194) (l' := [(0, .inr (.inr 1826)), (1, .inl (l : Int)), (2, .inl fu), (3, .inl (g : Int)), (4, .inl (s : Int))]) (st' := [.inl 0, .inl (g : Int), .inr (.inr 1879)]) rfl ?_
        refine h_ist (c := 1879) (j := g) (i := (g : Int)) (x := 0) rfl rfl (by decide) (by decide) rfl (by omega) (by decide) ?_
        refine h_run 4 (pc' := 201) (l' := [(0, .inr (.inr 1826)), (1, .inl (l : Int)), (2, .inl fu), (3, .inl (g : Int)), (4, .inl (s : Int))]) (st' := [.inl (l : Int), .inr (.inr 1845), .inr (.inr 1826)]) rfl ?_
        refine h_ild (c := 1845) (j := l) (i := (l : Int)) rfl rfl (by decide) rfl (by omega) ?_
        have g11 : -2147483648 ≤ (H1.1 1845 l) ∧ (H1.1 1845 l) ≤ 2147483647 := hrg7.2 1845 l 16 .int rfl (by omega)
        have e12 : (H1.1 1845 l) = (H.1 1845 l) := congrFun (hf.2.1 1845 (by decide) (by decide)) l
        refine h_run 0 (pc' := 202) (l' := [(0, .inr (.inr 1826)), (1, .inl (l : Int)), (2, .inl fu), (3, .inl (g : Int)), (4, .inl (s : Int))]) (st' := [.inl (H1.1 1845 l), .inr (.inr 1826)]) rfl ?_
        have elv : (H1.1 1845) l = (H.1 1845) l := congrFun (hf.2.1 1845 (by decide) (by decide)) l
        refine h_puti (i := 541) (ci := 13) (k := 89) (a := 1826) (x := (H1.1 1845 l)) rfl rfl rfl rfl rfl rfl (by decide) (by omega) ?_
        refine h_run 2 (pc' := 208) (l' := [(0, .inr (.inr 1826)), (1, .inl (l : Int)), (2, .inl fu), (3, .inl (g : Int)), (4, .inl 0)]) (st' := []) rfl ?_
        have g13 : -2147483648 ≤ (H1.1 1826 74) ∧ (H1.1 1826 74) ≤ 2147483647 := hrg7.1 1826 13 74 _ .int rfl rfl
        have g14 : -2147483648 ≤ (H1.1 1826 77) ∧ (H1.1 1826 77) ≤ 2147483647 := hrg7.1 1826 13 77 _ .int rfl rfl
        exact ih.2.2.2 _ l g 0 (fr_o (fr_a (fr_a (fr_a (fr_a hf (by decide)) (by decide)) (by decide)) (by decide)) (by decide)) (by omega) (by omega : (H1.1 1826 74) = (l : Int)) hus hor hgo ⟨fun x hx => sOK_k (hk x (by omega)) rfl (fun _ _ => rfl), ⟨0, (show up (H1.1 1879) g 0 g = _ from up_eq _ _ _), by decide, fun h9 q9 => absurd q9 (by omega)⟩⟩ (by omega : 0 ≤ (H1.1 1845 l) ∧ (H1.1 1845 l) ≤ 6) (by omega) (by omega : 1000 - 0 < w)
      · obtain ⟨kk, e1, e2⟩ := hv4 s (by omega)
        have elz : (H1.1 1843) = (H.1 1843) := hf.2.1 1843 (by decide) (by decide)
        have els : (H1.1 1842) = (H.1 1842) := hf.2.1 1842 (by decide) (by decide)
        refine h_run 14 (pc' := 97) (l' := [(0, .inr (.inr 1826)), (1, .inl (l : Int)), (2, .inl fu), (3, .inl (g : Int)), (4, .inl (s : Int))]) (st' := [.inl ((2 * (l : Int)) + (s : Int)), .inr (.inr 1843), .inl ((2 * (g : Int)) + (s : Int)), .inr (.inr 1874)]) rfl ?_
        refine h_ild (c := 1843) (j := ((2 * l) + s)) (i := ((2 * (l : Int)) + (s : Int))) rfl rfl (by decide) (by omega) (by omega) ?_
        have g15 : -2147483648 ≤ (H1.1 1843 ((2 * l) + s)) ∧ (H1.1 1843 ((2 * l) + s)) ≤ 2147483647 := hrg7.2 1843 ((2 * l) + s) 32 .int rfl (by omega)
        have e16 : (H1.1 1843 ((2 * l) + s)) = (H.1 1843 ((2 * l) + s)) := congrFun (hf.2.1 1843 (by decide) (by decide)) ((2 * l) + s)
        refine h_run 0 (pc' := 98) (l' := [(0, .inr (.inr 1826)), (1, .inl (l : Int)), (2, .inl fu), (3, .inl (g : Int)), (4, .inl (s : Int))]) (st' := [.inl (H1.1 1843 ((2 * l) + s)), .inl ((2 * (g : Int)) + (s : Int)), .inr (.inr 1874)]) rfl ?_
        refine h_ist (c := 1874) (j := ((2 * g) + s)) (i := ((2 * (g : Int)) + (s : Int))) (x := (H1.1 1843 ((2 * l) + s))) rfl rfl (by decide) (by decide) (by omega) (by omega) (by omega) ?_
        refine h_run 2 (pc' := 102) (l' := [(0, .inr (.inr 1826)), (1, .inl (l : Int)), (2, .inl fu), (3, .inl (g : Int)), (4, .inl (s : Int)), (5, .inl 0)]) (st' := []) rfl ?_
        have g17 : -2147483648 ≤ (H1.1 1826 74) ∧ (H1.1 1826 74) ≤ 2147483647 := hrg7.1 1826 13 74 _ .int rfl rfl
        have g18 : -2147483648 ≤ (H1.1 1826 77) ∧ (H1.1 1826 77) ≤ 2147483647 := hrg7.1 1826 13 77 _ .int rfl rfl
        exact ih.2.2.1 _ l g s 0 (kk) (fr_a hf (by decide)) (by omega) (by omega : (H1.1 1826 74) = (l : Int)) hus hor hgo (by omega) (fun x hx => sOK_k (hk x hx) (show up (H1.1 1874) ((2 * g) + s) (H1.1 1843 ((2 * l) + s)) (2 * g + x) = _ from up_ne _ _ (by omega)) (fun _ _ => rfl)) e1 ⟨vn, hv2, e2⟩ (show up (H1.1 1874) (2 * g + s) ((H1.1 1843) (2 * l + s)) (2 * g + s) = _ by rw [up_eq, elz]; exact e1.1) (by omega) (fun x hx => absurd hx (Nat.not_lt_zero _)) (by omega : 100000 - 1000 * s - 10 - 0 < w)
    · intro H1 l g s k kk hf hl hpf hus hor hgo hs hk hkk htm hsz hk2 hcp hw
      refine h_rng (fun hrg19 => ?_)
      obtain ⟨⟨pb1, pb2, pb3, pb4, pb5⟩, pw1, pw2, pw3, pw4⟩ := (id hP : PW H (H.1 1826 1) (H.1 1826 3) (H.1 1826 8) (H.1 1826 13) (H.1 1826 19))
      obtain ⟨vn, ⟨hv1, hv2⟩, hv3, hv4⟩ := pw4 l (by omega)
      have htm9 := htm
      obtain ⟨vv, hvv6, htm⟩ := htm
      have els : (H1.1 1842) = (H.1 1842) := hf.2.1 1842 (by decide) (by decide)
      have elz : (H1.1 1843) = (H.1 1843) := hf.2.1 1843 (by decide) (by decide)
      refine h_run 8 (pc' := 114) (l' := [(0, .inr (.inr 1826)), (1, .inl (l : Int)), (2, .inl fu), (3, .inl (g : Int)), (4, .inl (s : Int)), (5, .inl (k : Int))]) (st' := [.inl ((2 * (l : Int)) + (s : Int)), .inr (.inr 1843), .inl (k : Int)]) rfl ?_
      refine h_ild (c := 1843) (j := ((2 * l) + s)) (i := ((2 * (l : Int)) + (s : Int))) rfl rfl (by decide) (by omega) (by omega) ?_
      have g20 : -2147483648 ≤ (H1.1 1843 ((2 * l) + s)) ∧ (H1.1 1843 ((2 * l) + s)) ≤ 2147483647 := hrg19.2 1843 ((2 * l) + s) 32 .int rfl (by omega)
      have e21 : (H1.1 1843 ((2 * l) + s)) = (H.1 1843 ((2 * l) + s)) := congrFun (hf.2.1 1843 (by decide) (by decide)) ((2 * l) + s)
      refine h_run 0 (pc' := 115) (l' := [(0, .inr (.inr 1826)), (1, .inl (l : Int)), (2, .inl fu), (3, .inl (g : Int)), (4, .inl (s : Int)), (5, .inl (k : Int))]) (st' := [.inl (H1.1 1843 ((2 * l) + s)), .inl (k : Int)]) rfl ?_
      refine h_ige (off := 41) (t := 156) rfl rfl (by omega) (by omega) (fun c22 => ?_) (fun c22 => ?_)
      · refine h_run 2 (pc' := 71) (l' := [(0, .inr (.inr 1826)), (1, .inl (l : Int)), (2, .inl fu), (3, .inl (g : Int)), (4, .inl ((s : Int) + 1)), (5, .inl (k : Int))]) (st' := []) rfl ?_
        have g23 : -2147483648 ≤ (H1.1 1826 74) ∧ (H1.1 1826 74) ≤ 2147483647 := hrg19.1 1826 13 74 _ .int rfl rfl
        have g24 : -2147483648 ≤ (H1.1 1826 77) ∧ (H1.1 1826 77) ≤ 2147483647 := hrg19.1 1826 13 77 _ .int rfl rfl
        refine h_loc [0, 1, 2, 3, 4] rfl ?_
        rw [show ((s : Int) + 1) = (((s + 1) : Nat) : Int) by omega]
        exact ih.2.1 _ l g (s + 1) hf (by omega) (by omega : (H1.1 1826 74) = (l : Int)) hus hor hgo (by omega) (fun x hx => by by_cases e9 : x = s; { rw [e9]; exact ⟨kk, hsz, by omega, tm_mono (tm_at (b := (H1.1 1873)) htm (fun y hy => hcp y (by omega))) (fun _ _ _ q9 => ⟨rfl, by unfold m_sg at *; omega, rfl⟩)⟩ }; { exact hk x (by omega) }) (by omega : 100000 - 1000 * (s + 1) < w)
      · refine h_run 5 (pc' := 126) (l' := [(0, .inr (.inr 1826)), (1, .inl (l : Int)), (2, .inl fu), (3, .inl (g : Int)), (4, .inl (s : Int)), (5, .inl (k : Int))]) (st' := [.inl (s : Int), .inl (g : Int), .inr (.inr 1826), .inr (.inr 1873)]) rfl ?_
        refine h_cv (i := 528) (j := 221) (b := 1826) (M' := mt_221) (xs := [.inl (s : Int), .inl (g : Int)]) (rest := [.inr (.inr 1873)]) rfl rfl rfl rfl rfl rfl (Nat.le_of_ble_eq_true rfl) (Nat.le_of_ble_eq_true rfl) (by omega) (m_sideAt (by omega)) ?_
        rintro _ _ ⟨rfl, rfl⟩
        refine h_run 0 (pc' := 129) (l' := [(0, .inr (.inr 1826)), (1, .inl (l : Int)), (2, .inl fu), (3, .inl (g : Int)), (4, .inl (s : Int)), (5, .inl (k : Int))]) (st' := [.inl (64 * ((2 * (g : Int)) + (s : Int))), .inr (.inr 1873)]) rfl ?_
        refine h_run 13 (pc' := 148) (l' := [(0, .inr (.inr 1826)), (1, .inl (l : Int)), (2, .inl fu), (3, .inl (g : Int)), (4, .inl (s : Int)), (5, .inl (k : Int))]) (st' := [.inl ((48 * ((2 * (l : Int)) + (s : Int))) + (k : Int)), .inr (.inr 1842), .inl ((64 * ((2 * (g : Int)) + (s : Int))) + (k : Int)), .inr (.inr 1873)]) rfl ?_
        refine h_ild (c := 1842) (j := ((48 * ((2 * l) + s)) + k)) (i := ((48 * ((2 * (l : Int)) + (s : Int))) + (k : Int))) rfl rfl (by decide) (by omega) (by omega) ?_
        have g25 : -2147483648 ≤ (H1.1 1842 ((48 * ((2 * l) + s)) + k)) ∧ (H1.1 1842 ((48 * ((2 * l) + s)) + k)) ≤ 2147483647 := hrg19.2 1842 ((48 * ((2 * l) + s)) + k) 1536 .int rfl (by omega)
        have e26 : (H1.1 1842 ((48 * ((2 * l) + s)) + k)) = (H.1 1842 ((48 * ((2 * l) + s)) + k)) := congrFun (hf.2.1 1842 (by decide) (by decide)) ((48 * ((2 * l) + s)) + k)
        refine h_run 0 (pc' := 149) (l' := [(0, .inr (.inr 1826)), (1, .inl (l : Int)), (2, .inl fu), (3, .inl (g : Int)), (4, .inl (s : Int)), (5, .inl (k : Int))]) (st' := [.inl (H1.1 1842 ((48 * ((2 * l) + s)) + k)), .inl ((64 * ((2 * (g : Int)) + (s : Int))) + (k : Int)), .inr (.inr 1873)]) rfl ?_
        refine h_ist (c := 1873) (j := ((64 * ((2 * g) + s)) + k)) (i := ((64 * ((2 * (g : Int)) + (s : Int))) + (k : Int))) (x := (H1.1 1842 ((48 * ((2 * l) + s)) + k))) rfl rfl (by decide) (by decide) (by omega) (by omega) (by omega) ?_
        refine h_run 2 (pc' := 102) (l' := [(0, .inr (.inr 1826)), (1, .inl (l : Int)), (2, .inl fu), (3, .inl (g : Int)), (4, .inl (s : Int)), (5, .inl ((k : Int) + 1))]) (st' := []) rfl ?_
        have g27 : -2147483648 ≤ (H1.1 1826 74) ∧ (H1.1 1826 74) ≤ 2147483647 := hrg19.1 1826 13 74 _ .int rfl rfl
        have g28 : -2147483648 ≤ (H1.1 1826 77) ∧ (H1.1 1826 77) ≤ 2147483647 := hrg19.1 1826 13 77 _ .int rfl rfl
        rw [show ((k : Int) + 1) = (((k + 1) : Nat) : Int) by omega]
        exact ih.2.2.1 _ l g s (k + 1) (kk) (fr_a hf (by decide)) (by omega) (by omega : (H1.1 1826 74) = (l : Int)) hus hor hgo (by omega) (fun x hx => sOK_k (hk x hx) rfl (fun y hy => (show up (H1.1 1873) ((64 * ((2 * g) + s)) + k) (H1.1 1842 ((48 * ((2 * l) + s)) + k)) (64 * (2 * g + x) + y) = _ from up_ne _ _ (by omega)))) hkk htm9 hsz (by omega) (fun x hx => by show up (H1.1 1873) (64 * (2 * g + s) + k) ((H1.1 1842) (48 * (2 * l + s) + k)) (64 * (2 * g + s) + x) = _; rw [up_if, els]; by_cases e9 : x = k; { rw [if_pos (by omega), e9] }; { rw [if_neg (by omega)]; exact hcp x (by omega) }) (by omega : 100000 - 1000 * s - 10 - (k + 1) < w)
    · intro H1 l g v hf hl hpf hus hor hgo hgk hva hv hw
      refine h_rng (fun hrg29 => ?_)
      obtain ⟨⟨pb1, pb2, pb3, pb4, pb5⟩, pw1, pw2, pw3, pw4⟩ := (id hP : PW H (H.1 1826 1) (H.1 1826 3) (H.1 1826 8) (H.1 1826 13) (H.1 1826 19))
      obtain ⟨vn, ⟨hv1, hv2⟩, hv3, hv4⟩ := pw4 l (by omega)
      refine h_run 3 (pc' := 214) (l' := [(0, .inr (.inr 1826)), (1, .inl (l : Int)), (2, .inl fu), (3, .inl (g : Int)), (4, .inl (v : Int))]) (st' := [.inl (H1.1 1826 89), .inl (v : Int)]) rfl ?_
      have g30 : -2147483648 ≤ (H1.1 1826 89) ∧ (H1.1 1826 89) ≤ 2147483647 := hrg29.1 1826 13 89 _ .int rfl rfl
      refine h_ige (off := 44) (t := 258) rfl rfl (by omega) (by omega) (fun c31 => ?_) (fun c31 => ?_)
      · refine h_run 1 (pc' := 259) (l' := [(0, .inr (.inr 1826)), (1, .inl (l : Int)), (2, .inl fu), (3, .inl (g : Int)), (4, .inl (v : Int))]) (st' := [.inr (.inr 1826)]) rfl ?_
        refine h_cv (i := 544) (j := 223) (b := 1826) (M' := mt_223) (xs := []) (rest := []) rfl rfl rfl rfl rfl rfl (Nat.le_of_ble_eq_true rfl) (Nat.le_of_ble_eq_true rfl) (by omega) (m_tellHyps (by omega) (by rw [hor.1]; omega)) ?_
        rintro _ H32 ⟨rfl, hfH32⟩
        refine h_rng (fun hrg33 => ?_)
        have hf34 : fr [74, 75, 76, 77, 89] [1871, 1872, 1873, 1874, 1875, 1876, 1877, 1878, 1879, 1882, 1883] H H32 := fr_t hf hfH32 (by decide) (by decide)
        refine h_run 0 (pc' := 262) (l' := [(0, .inr (.inr 1826)), (1, .inl (l : Int)), (2, .inl fu), (3, .inl (g : Int)), (4, .inl (v : Int))]) (st' := []) rfl ?_
        refine h_run 1 (pc' := 263) (l' := [(0, .inr (.inr 1826)), (1, .inl (l : Int)), (2, .inl fu), (3, .inl (g : Int)), (4, .inl (v : Int))]) (st' := [.inl 1]) rfl ?_
        refine h_reti (x := 1) rfl rfl ?_
        have g35 : -2147483648 ≤ (H32.1 1826 89) ∧ (H32.1 1826 89) ≤ 2147483647 := hrg33.1 1826 13 89 _ .int rfl rfl
        have e36 : (H32.1 1826 89) = (H1.1 1826 89) := hfH32.2.2 89 (by decide)
        have g37 : -2147483648 ≤ (H32.1 1826 74) ∧ (H32.1 1826 74) ≤ 2147483647 := hrg33.1 1826 13 74 _ .int rfl rfl
        have e38 : (H32.1 1826 74) = (H1.1 1826 74) := hfH32.2.2 74 (by decide)
        refine ⟨rfl, hf34, OS_1 ((hfH32.2.2 77 (by decide)).trans hgo) ((congrFun (hfH32.2.1 1871 (by decide) (by decide)) 0).trans hor.1) hor.2 (by rw [show (H32.1 1872) = (H1.1 1872) from hfH32.2.1 1872 (by decide) (by decide)]; exact hus.1) (by rw [show (H32.1 1872) = (H1.1 1872) from hfH32.2.1 1872 (by decide) (by decide)]; exact hus.2) (gok_s hgk (sS_fr hfH32 (by decide) g) (sH_fr hfH32 (by decide) g)), ?_, (show 0 ≤ (H32.1 1826 89) ∧ (H32.1 1826 89) ≤ 60 by omega), (show 0 ≤ (H32.1 1826 74) ∧ (H32.1 1826 74) < (H.1 1826 19) by omega)⟩
        rw [show (H32.1 1871) 0 = (g : Int) from (congrFun (hfH32.2.1 1871 (by decide) (by decide)) 0).trans hor.1]
        omega
      · refine h_run 10 (pc' := 234) (l' := [(0, .inr (.inr 1826)), (1, .inl (l : Int)), (2, .inl fu), (3, .inl (g : Int)), (4, .inl (v : Int))]) (st' := [.inl ((6 * (l : Int)) + (v : Int)), .inr (.inr 1846), .inl (v : Int), .inr (.inr 1882)]) rfl ?_
        refine h_ild (c := 1846) (j := ((6 * l) + v)) (i := ((6 * (l : Int)) + (v : Int))) rfl rfl (by decide) (by omega) (by omega) ?_
        have g39 : -2147483648 ≤ (H1.1 1846 ((6 * l) + v)) ∧ (H1.1 1846 ((6 * l) + v)) ≤ 2147483647 := hrg29.2 1846 ((6 * l) + v) 96 .int rfl (by omega)
        have e40 : (H1.1 1846 ((6 * l) + v)) = (H.1 1846 ((6 * l) + v)) := congrFun (hf.2.1 1846 (by decide) (by decide)) ((6 * l) + v)
        refine h_run 0 (pc' := 235) (l' := [(0, .inr (.inr 1826)), (1, .inl (l : Int)), (2, .inl fu), (3, .inl (g : Int)), (4, .inl (v : Int))]) (st' := [.inl (H1.1 1846 ((6 * l) + v)), .inl (v : Int), .inr (.inr 1882)]) rfl ?_
        refine h_ist (c := 1882) (j := v) (i := (v : Int)) (x := (H1.1 1846 ((6 * l) + v))) rfl rfl (by decide) (by decide) rfl (by omega) (by omega) ?_
        refine h_run 4 (pc' := 243) (l' := [(0, .inr (.inr 1826)), (1, .inl (l : Int)), (2, .inl fu), (3, .inl (g : Int)), (4, .inl (v : Int))]) (st' := [.inl fu, .inl (v : Int), .inr (.inr 1883)]) rfl ?_
        refine h_zne (off := 7) (t := 250) rfl rfl (by omega) (fun c41 => ?_) (fun c41 => ?_)
        · refine h_run 1 (pc' := 251) (l' := [(0, .inr (.inr 1826)), (1, .inl (l : Int)), (2, .inl fu), (3, .inl (g : Int)), (4, .inl (v : Int))]) (st' := [.inl 0, .inl (v : Int), .inr (.inr 1883)]) rfl ?_
          refine h_bst (c := 1883) (j := v) (i := (v : Int)) (x := 0) (Or.inr rfl) rfl rfl (by decide) (by decide) rfl (by omega) (show (0 : Int) ≤ 0 ∧ 0 ≤ 1 by omega) ?_
          refine h_run 2 (pc' := 208) (l' := [(0, .inr (.inr 1826)), (1, .inl (l : Int)), (2, .inl fu), (3, .inl (g : Int)), (4, .inl ((v : Int) + 1))]) (st' := []) rfl ?_
          have g42 : -2147483648 ≤ (H1.1 1826 74) ∧ (H1.1 1826 74) ≤ 2147483647 := hrg29.1 1826 13 74 _ .int rfl rfl
          have g43 : -2147483648 ≤ (H1.1 1826 77) ∧ (H1.1 1826 77) ≤ 2147483647 := hrg29.1 1826 13 77 _ .int rfl rfl
          rw [show ((v : Int) + 1) = (((v + 1) : Nat) : Int) by omega]
          exact ih.2.2.2 _ l g (v + 1) (fr_a (fr_a hf (by decide)) (by decide)) (by omega) (by omega : (H1.1 1826 74) = (l : Int)) hus hor hgo (gok_s hgk ⟨fun _ _ => rfl, fun _ _ => rfl⟩ ⟨rfl, fun _ _ => rfl, fun _ _ => rfl⟩) (by omega : 0 ≤ (H1.1 1826 89) ∧ (H1.1 1826 89) ≤ 6) (by omega) (by omega : 1000 - (v + 1) < w)
        · refine h_run 2 (pc' := 251) (l' := [(0, .inr (.inr 1826)), (1, .inl (l : Int)), (2, .inl fu), (3, .inl (g : Int)), (4, .inl (v : Int))]) (st' := [.inl 1, .inl (v : Int), .inr (.inr 1883)]) rfl ?_
          refine h_bst (c := 1883) (j := v) (i := (v : Int)) (x := 1) (Or.inr rfl) rfl rfl (by decide) (by decide) rfl (by omega) (show (0 : Int) ≤ 1 ∧ 1 ≤ 1 by omega) ?_
          refine h_run 2 (pc' := 208) (l' := [(0, .inr (.inr 1826)), (1, .inl (l : Int)), (2, .inl fu), (3, .inl (g : Int)), (4, .inl ((v : Int) + 1))]) (st' := []) rfl ?_
          have g44 : -2147483648 ≤ (H1.1 1826 74) ∧ (H1.1 1826 74) ≤ 2147483647 := hrg29.1 1826 13 74 _ .int rfl rfl
          have g45 : -2147483648 ≤ (H1.1 1826 77) ∧ (H1.1 1826 77) ≤ 2147483647 := hrg29.1 1826 13 77 _ .int rfl rfl
          rw [show ((v : Int) + 1) = (((v + 1) : Nat) : Int) by omega]
          exact ih.2.2.2 _ l g (v + 1) (fr_a (fr_a hf (by decide)) (by decide)) (by omega) (by omega : (H1.1 1826 74) = (l : Int)) hus hor hgo (gok_s hgk ⟨fun _ _ => rfl, fun _ _ => rfl⟩ ⟨rfl, fun _ _ => rfl, fun _ _ => rfl⟩) (by omega : 0 ≤ (H1.1 1826 89) ∧ (H1.1 1826 89) ≤ 6) (by omega) (by omega : 1000 - (v + 1) < w)
set_option maxRecDepth 100000 in
theorem n_begin1 {zC : Nat → Option zsh} {d : Nat} (hd : 2 ≤ d) {H : hp} {x fu : Int} (hP : PWc H) (hx : -2147483648 ≤ x ∧ x ≤ 2147483647) (hfu : 0 ≤ fu ∧ fu ≤ 1) (hx2 : 0 ≤ x ∧ x < (H.1 1826 19)) : hG (zs zC) d mt_227 0 (zargs 0 [.inr (.inr 1826), .inl x, .inl fu]) [] H (fun r9 H2 => (r9 = some (.inl 1) ∧ fr [74, 75, 76, 77, 89] [1871, 1872, 1873, 1874, 1875, 1876, 1877, 1878, 1879, 1882, 1883] H H2 ∧ OS H H2 1 ∧ (0 ≤ (H2.1 1871) 0 ∧ (H2.1 1871) 0 < 40) ∧ (0 ≤ (H2.1 1826 89) ∧ (H2.1 1826 89) ≤ 60) ∧ (0 ≤ (H2.1 1826 74) ∧ (H2.1 1826 74) < (H.1 1826 19)))) := by
  refine h_rng (fun hrg0 => ?_)
  refine h_run 0 (pc' := 0) (l' := [(0, .inr (.inr 1826)), (1, .inl x), (2, .inl fu)]) (st' := []) rfl ?_
  obtain ⟨⟨pb1, pb2, pb3, pb4, pb5⟩, pw1, pw2, pw3, pw4⟩ := (id hP : PW H (H.1 1826 1) (H.1 1826 3) (H.1 1826 8) (H.1 1826 13) (H.1 1826 19))
  refine h_run 1 (pc' := 1) (l' := [(0, .inr (.inr 1826)), (1, .inl x), (2, .inl fu)]) (st' := [.inl x]) rfl ?_
  refine h_zlt (off := 11) (t := 12) rfl rfl (by omega) (fun c46 => ?_) (fun c46 => ?_)
  · exfalso
    omega
  · refine h_run 3 (pc' := 9) (l' := [(0, .inr (.inr 1826)), (1, .inl x), (2, .inl fu)]) (st' := [.inl (H.1 1826 19), .inl x]) rfl ?_
    have g47 : -2147483648 ≤ (H.1 1826 19) ∧ (H.1 1826 19) ≤ 2147483647 := hrg0.1 1826 13 19 _ .int rfl rfl
    refine h_ilt (off := 6) (t := 15) rfl rfl (by omega) (by omega) (fun c48 => ?_) (fun c48 => ?_)
    · obtain ⟨l, hl⟩ : ∃ k9 : Nat, x = (k9 : Int) := ⟨(x).toNat, by omega⟩
      rw [show x = (l : Int) from hl]
      refine h_run 2 (pc' := 17) (l' := [(0, .inr (.inr 1826)), (1, .inl (l : Int)), (2, .inl fu)]) (st' := [.inl (l : Int), .inr (.inr 1826)]) rfl ?_
      refine h_puti (i := 150) (ci := 13) (k := 74) (a := 1826) (x := (l : Int)) rfl rfl rfl rfl rfl rfl (by decide) (by omega) ?_
      refine h_run 2 (pc' := 22) (l' := [(0, .inr (.inr 1826)), (1, .inl (l : Int)), (2, .inl fu)]) (st' := [.inl fu, .inr (.inr 1826)]) rfl ?_
      refine h_putz (i := 534) (ci := 13) (k := 75) (a := 1826) (x := fu) rfl rfl rfl rfl rfl rfl (by decide) (by first | omega | decide) ?_
      refine h_run 2 (pc' := 27) (l' := [(0, .inr (.inr 1826)), (1, .inl (l : Int)), (2, .inl fu)]) (st' := [.inl 0, .inr (.inr 1826)]) rfl ?_
      refine h_puti (i := 417) (ci := 13) (k := 76) (a := 1826) (x := 0) rfl rfl rfl rfl rfl rfl (by decide) (by decide) ?_
      refine h_run 2 (pc' := 32) (l' := [(0, .inr (.inr 1826)), (1, .inl (l : Int)), (2, .inl fu), (3, .inl 0)]) (st' := []) rfl ?_
      exact (n_begin1_cut hd hP hx hfu hx2 _).1 _ l 0 (fr_o (fr_o (fr_o (fr_rf _ _ _) (by decide)) (by decide)) (by decide)) (by omega) (by omega : (l : Int) = (l : Int)) (by omega) (fun x hx => absurd hx (Nat.not_lt_zero _)) (Nat.lt_succ_self _)
    · exfalso
      omega

/-! begin -/
set_option maxRecDepth 100000 in
theorem n_begin0 {zC : Nat → Option zsh} {d : Nat} (hd : 2 ≤ d) {H : hp} {x fu : Int} (hx : -2147483648 ≤ x ∧ x ≤ 2147483647) (hx2 : x < 0 ∨ (H.1 1826 19) ≤ x) : hG (zs zC) d mt_227 0 (zargs 0 [.inr (.inr 1826), .inl x, .inl fu]) [] H (fun r9 H2 => r9 = some (.inl (-101)) ∧ H = H2) := by
  refine h_rng (fun hrg0 => ?_)
  refine h_run 0 (pc' := 0) (l' := [(0, .inr (.inr 1826)), (1, .inl x), (2, .inl fu)]) (st' := []) rfl ?_
  refine h_run 1 (pc' := 1) (l' := [(0, .inr (.inr 1826)), (1, .inl x), (2, .inl fu)]) (st' := [.inl x]) rfl ?_
  refine h_zlt (off := 11) (t := 12) rfl rfl (by omega) (fun c1 => ?_) (fun c1 => ?_)
  · refine h_run 1 (pc' := 14) (l' := [(0, .inr (.inr 1826)), (1, .inl x), (2, .inl fu)]) (st' := [.inl (-101)]) rfl ?_
    refine h_reti (x := (-101)) rfl rfl ?_
    exact ⟨rfl, rfl⟩
  · refine h_run 3 (pc' := 9) (l' := [(0, .inr (.inr 1826)), (1, .inl x), (2, .inl fu)]) (st' := [.inl (H.1 1826 19), .inl x]) rfl ?_
    have g2 : -2147483648 ≤ (H.1 1826 19) ∧ (H.1 1826 19) ≤ 2147483647 := hrg0.1 1826 13 19 _ .int rfl rfl
    refine h_ilt (off := 6) (t := 15) rfl rfl (by omega) (by omega) (fun c3 => ?_) (fun c3 => ?_)
    · exfalso
      omega
    · refine h_run 1 (pc' := 14) (l' := [(0, .inr (.inr 1826)), (1, .inl x), (2, .inl fu)]) (st' := [.inl (-101)]) rfl ?_
      refine h_reti (x := (-101)) rfl rfl ?_
      exact ⟨rfl, rfl⟩

/-! Program.hasLaw -/
set_option maxRecDepth 100000 in
theorem kb_hasLaw {d : Nat} (hd : 1 ≤ d) {H : hp} (hI : Inv H) {a : Int} (ha : -2147483648 ≤ a ∧ a ≤ 2147483647) : hG (zs zK) d mt_35 0 (zargs 0 [.inr (.inr 7), .inl a]) [] H (fun r9 H9 => ∃ z : Int, r9 = some (.inl z) ∧ ((0 ≤ z ∧ z ≤ 1) ∧ ((z = 1 ∧ 0 ≤ a ∧ a < H.1 7 6 ∧ a < 16) ∨ (z = 0 ∧ (a < 0 ∨ H.1 7 6 ≤ a)))) ∧ H = H9) := by
  refine k_run 0 (pc' := 0) (l' := [(0, .inr (.inr 7)), (1, .inl a)]) (st' := []) rfl ?_
  refine k_run 1 (pc' := 1) (l' := [(0, .inr (.inr 7)), (1, .inl a)]) (st' := [.inl a]) rfl ?_
  refine h_zlt (off := 24) (t := 25) rfl rfl (by omega) (fun c1 => ?_) (fun c1 => ?_)
  · refine k_run 0 (pc' := 25) (l' := [(0, .inr (.inr 7)), (1, .inl a)]) (st' := []) rfl ?_
    refine k_run 1 (pc' := 26) (l' := [(0, .inr (.inr 7)), (1, .inl a)]) (st' := [.inl 0]) rfl ?_
    refine h_retz (x := 0) rfl rfl (by decide) ?_
    have g2 : 0 ≤ (H.1 7 6) ∧ (H.1 7 6) ≤ 16 := kn (x := kx_7) hI rfl 6
    exact ⟨_, rfl, (by omega), rfl⟩
  · refine k_run 0 (pc' := 4) (l' := [(0, .inr (.inr 7)), (1, .inl a)]) (st' := []) rfl ?_
    refine k_run 3 (pc' := 9) (l' := [(0, .inr (.inr 7)), (1, .inl a)]) (st' := [.inl (H.1 7 6), .inl a]) rfl ?_
    have g3 : 0 ≤ (H.1 7 6) ∧ (H.1 7 6) ≤ 16 := kn (x := kx_7) hI rfl 6
    refine h_ige (off := 16) (t := 25) rfl rfl (by omega) (by omega) (fun c4 => ?_) (fun c4 => ?_)
    · refine k_run 0 (pc' := 25) (l' := [(0, .inr (.inr 7)), (1, .inl a)]) (st' := []) rfl ?_
      refine k_run 1 (pc' := 26) (l' := [(0, .inr (.inr 7)), (1, .inl a)]) (st' := [.inl 0]) rfl ?_
      refine h_retz (x := 0) rfl rfl (by decide) ?_
      exact ⟨_, rfl, (by omega), rfl⟩
    · refine k_run 0 (pc' := 12) (l' := [(0, .inr (.inr 7)), (1, .inl a)]) (st' := []) rfl ?_
      refine k_run 3 (pc' := 17) (l' := [(0, .inr (.inr 7)), (1, .inl a)]) (st' := [.inr (.inr 24), .inl a]) rfl ?_
      refine k_alen (c := 24) (x := kx_24) rfl rfl (by decide) rfl ?_
      refine k_run 0 (pc' := 18) (l' := [(0, .inr (.inr 7)), (1, .inl a)]) (st' := [.inl 16, .inl a]) rfl ?_
      refine h_ige (off := 7) (t := 25) rfl rfl (by omega) (by decide) (fun c5 => ?_) (fun c5 => ?_)
      · refine k_run 0 (pc' := 25) (l' := [(0, .inr (.inr 7)), (1, .inl a)]) (st' := []) rfl ?_
        refine k_run 1 (pc' := 26) (l' := [(0, .inr (.inr 7)), (1, .inl a)]) (st' := [.inl 0]) rfl ?_
        refine h_retz (x := 0) rfl rfl (by decide) ?_
        exact ⟨_, rfl, (by omega), rfl⟩
      · refine k_run 0 (pc' := 21) (l' := [(0, .inr (.inr 7)), (1, .inl a)]) (st' := []) rfl ?_
        refine k_run 2 (pc' := 26) (l' := [(0, .inr (.inr 7)), (1, .inl a)]) (st' := [.inl 1]) rfl ?_
        refine h_retz (x := 1) rfl rfl (by decide) ?_
        exact ⟨_, rfl, (by omega), rfl⟩

/-! Proof.start -/
set_option maxRecDepth 100000 in
theorem kb_start_cut {d : Nat} (hd : 2 ≤ d) {H : hp} (hI : Inv H) {e : Nat} {a : Int} {b : Int} (he : isE e) (ha : -2147483648 ≤ a ∧ a ≤ 2147483647) (hb : 0 ≤ b ∧ b ≤ 1) : ∀ w : Nat, (∀ (H1 : hp), Inv H1 → fq [(407, 2), (407, 3), (407, 4), (407, 5), (407, 6), (407, 7), (407, 8)] [409] true H H1 → ∀ (x4 : Int) , (-2147483648 ≤ x4 ∧ x4 ≤ 2147483647) → (0 ≤ x4) → (H1.1 407 2 = 1) → (((100 - x4).toNat) < w) → hG (zs zK) d mt_145 61 [(0, .inr (.inr 407)), (1, .inr (.inr e)), (2, .inl a), (3, .inl b), (4, .inl x4)] [] H1 (fun r9 H9 => r9 = none ∧ (H9.1 407 2 = 1) ∧ Inv H9 ∧ fq [(407, 2), (407, 3), (407, 4), (407, 5), (407, 6), (407, 7), (407, 8)] [409] true H H9)) := by
  intro w
  induction w with
  | zero => exact fun _ _ _ _ _ _ _ h => absurd h (Nat.not_lt_zero _)
  | succ w ih =>
    intro H1 hI1 hf1 x4 hx4 hi0 hi1 hw
    have g64 : 0 ≤ (H1.1 407 2) ∧ (H1.1 407 2) ≤ 12 := kn (x := kx_407) hI1 rfl 2
    refine k_run 3 (pc' := 67) (l' := [(0, .inr (.inr 407)), (1, .inr (.inr e)), (2, .inl a), (3, .inl b), (4, .inl x4)]) (st' := [.inl (H1.1 407 6), .inl x4]) rfl ?_
    have g65 : 0 ≤ (H1.1 407 6) ∧ (H1.1 407 6) ≤ 60 := kn (x := kx_407) hI1 rfl 6
    refine h_ige (off := 33) (t := 100) rfl rfl (by omega) (by omega) (fun c66 => ?_) (fun c66 => ?_)
    · refine k_run 0 (pc' := 100) (l' := [(0, .inr (.inr 407)), (1, .inr (.inr e)), (2, .inl a), (3, .inl b), (4, .inl x4)]) (st' := []) rfl ?_
      refine k_run 3 (pc' := 105) (l' := [(0, .inr (.inr 407)), (1, .inr (.inr e)), (2, .inl a), (3, .inl b), (4, .inl x4)]) (st' := [.inl 0, .inr (.inr 408)]) rfl ?_
      refine k_ald (c := 408) (j := 0) (i := 0) (x := kx_408) rfl rfl (by decide) rfl (by decide) rfl (by decide) hI1 (fun h67 => ?_)
      obtain ⟨t68, et70⟩ : ∃ t9, t9 = H1.2 408 0 := ⟨_, rfl⟩
      rw [← et70] at h67 ⊢
      have k69 : isG t68 := h67
      refine k_run 0 (pc' := 106) (l' := [(0, .inr (.inr 407)), (1, .inr (.inr e)), (2, .inl a), (3, .inl b), (4, .inl x4)]) (st' := [.inr (.inr t68)]) rfl ?_
      refine k_run 2 (pc' := 110) (l' := [(0, .inr (.inr 407)), (1, .inr (.inr e)), (2, .inl a), (3, .inl b), (4, .inr (.inr t68))]) (st' := [.inr (.inr t68)]) rfl ?_
      refine k_get (a := t68) (x := (kGo t68)) (v := .inr (.inr (t68 + 1))) rfl rfl k69.1 (iG0 k69) rfl rfl rfl ?_
      refine k_run 0 (pc' := 113) (l' := [(0, .inr (.inr 407)), (1, .inr (.inr e)), (2, .inl a), (3, .inl b), (4, .inr (.inr t68))]) (st' := [.inr (.inr (t68 + 1))]) rfl ?_
      refine k_run 1 (pc' := 114) (l' := [(0, .inr (.inr 407)), (1, .inr (.inr e)), (2, .inl a), (3, .inl b), (4, .inr (.inr t68))]) (st' := [.inl 0, .inr (.inr (t68 + 1))]) rfl ?_
      refine k_ald (c := (t68 + 1)) (j := 0) (i := 0) (x := kGt) rfl k69.2.1 (iG1 k69) rfl (by decide) rfl (by decide) hI1 (fun h71 => ?_)
      obtain ⟨t72, et74⟩ : ∃ t9, t9 = H1.2 (t68 + 1) 0 := ⟨_, rfl⟩
      rw [← et74] at h71 ⊢
      obtain ⟨n75, k73⟩ := (show ∃ n, isT t72 n from h71)
      have k73b := k73.2.2.2.2
      refine k_run 0 (pc' := 115) (l' := [(0, .inr (.inr 407)), (1, .inr (.inr e)), (2, .inl a), (3, .inl b), (4, .inr (.inr t68))]) (st' := [.inr (.inr t72)]) rfl ?_
      refine k_run 1 (pc' := 116) (l' := [(0, .inr (.inr 407)), (1, .inr (.inr e)), (2, .inl a), (3, .inl b), (4, .inr (.inr t68))]) (st' := [.inr (.inr e), .inr (.inr t72)]) rfl ?_
      refine k_get (a := e) (x := (kEo e)) (v := .inr (.inr (e + 1))) rfl rfl he.1 (iE0 he) rfl rfl rfl ?_
      refine k_run 0 (pc' := 119) (l' := [(0, .inr (.inr 407)), (1, .inr (.inr e)), (2, .inl a), (3, .inl b), (4, .inr (.inr t68))]) (st' := [.inr (.inr (e + 1)), .inr (.inr t72)]) rfl ?_
      refine h_cv (i := 64) (j := 55) (b := t72) (M' := mt_55) (xs := [.inr (.inr (e + 1))]) (rest := []) rfl rfl rfl rfl (by rw [zs_K k73.1 (iT0 k73)]; rfl) rfl (Nat.le_of_ble_eq_true rfl) (Nat.le_of_ble_eq_true rfl) (by omega) (k_Term_copy (by omega) hI1 k73 (iEl he)) ?_
      rintro _ H77 ⟨rfl, hI78, hq79⟩
      have hf80 : fq [(407, 2), (407, 3), (407, 4), (407, 5), (407, 6), (407, 7), (407, 8)] [409] true H H77 := fq_t hf1 hq79 rfl rfl rfl
      refine k_run 0 (pc' := 122) (l' := [(0, .inr (.inr 407)), (1, .inr (.inr e)), (2, .inl a), (3, .inl b), (4, .inr (.inr t68))]) (st' := []) rfl ?_
      refine k_run 1 (pc' := 124) (l' := [(0, .inr (.inr 407)), (1, .inr (.inr e)), (2, .inl a), (3, .inl b), (4, .inr (.inr t68))]) (st' := [.inr (.inr t68)]) rfl ?_
      refine k_get (a := t68) (x := (kGo t68)) (v := .inr (.inr (t68 + 1))) rfl rfl k69.1 (iG0 k69) rfl rfl rfl ?_
      refine k_run 0 (pc' := 127) (l' := [(0, .inr (.inr 407)), (1, .inr (.inr e)), (2, .inl a), (3, .inl b), (4, .inr (.inr t68))]) (st' := [.inr (.inr (t68 + 1))]) rfl ?_
      refine k_run 1 (pc' := 128) (l' := [(0, .inr (.inr 407)), (1, .inr (.inr e)), (2, .inl a), (3, .inl b), (4, .inr (.inr t68))]) (st' := [.inl 1, .inr (.inr (t68 + 1))]) rfl ?_
      refine k_ald (c := (t68 + 1)) (j := 1) (i := 1) (x := kGt) rfl k69.2.1 (iG1 k69) rfl (by decide) rfl (by decide) hI78 (fun h81 => ?_)
      obtain ⟨t82, et84⟩ : ∃ t9, t9 = H77.2 (t68 + 1) 1 := ⟨_, rfl⟩
      rw [← et84] at h81 ⊢
      obtain ⟨n85, k83⟩ := (show ∃ n, isT t82 n from h81)
      have k83b := k83.2.2.2.2
      refine k_run 0 (pc' := 129) (l' := [(0, .inr (.inr 407)), (1, .inr (.inr e)), (2, .inl a), (3, .inl b), (4, .inr (.inr t68))]) (st' := [.inr (.inr t82)]) rfl ?_
      refine k_run 1 (pc' := 130) (l' := [(0, .inr (.inr 407)), (1, .inr (.inr e)), (2, .inl a), (3, .inl b), (4, .inr (.inr t68))]) (st' := [.inr (.inr e), .inr (.inr t82)]) rfl ?_
      refine k_get (a := e) (x := (kEo e)) (v := .inr (.inr (e + 3))) rfl rfl he.1 (iE0 he) rfl rfl rfl ?_
      refine k_run 0 (pc' := 133) (l' := [(0, .inr (.inr 407)), (1, .inr (.inr e)), (2, .inl a), (3, .inl b), (4, .inr (.inr t68))]) (st' := [.inr (.inr (e + 3)), .inr (.inr t82)]) rfl ?_
      refine h_cv (i := 64) (j := 55) (b := t82) (M' := mt_55) (xs := [.inr (.inr (e + 3))]) (rest := []) rfl rfl rfl rfl (by rw [zs_K k83.1 (iT0 k83)]; rfl) rfl (Nat.le_of_ble_eq_true rfl) (Nat.le_of_ble_eq_true rfl) (by omega) (k_Term_copy (by omega) hI78 k83 (iEr he)) ?_
      rintro _ H87 ⟨rfl, hI88, hq89⟩
      have hf90 : fq [(407, 2), (407, 3), (407, 4), (407, 5), (407, 6), (407, 7), (407, 8)] [409] true H H87 := fq_t hf80 hq89 rfl rfl rfl
      refine k_run 0 (pc' := 136) (l' := [(0, .inr (.inr 407)), (1, .inr (.inr e)), (2, .inl a), (3, .inl b), (4, .inr (.inr t68))]) (st' := []) rfl ?_
      refine k_run 2 (pc' := 139) (l' := [(0, .inr (.inr 407)), (1, .inr (.inr e)), (2, .inl a), (3, .inl b), (4, .inr (.inr t68))]) (st' := [.inl 0, .inr (.inr t68)]) rfl ?_
      refine k_puti (z := 0) (a := t68) (x := (kGo t68)) rfl rfl k69.1 (iG0 k69) k69.2.2.2.1 rfl rfl rfl rfl hI88 (by decide) (show 0 ≤ (0 : Int) ∧ (0 : Int) ≤ 8 by omega) (fun H91 hI92 hw93 hv94 => ?_)
      have hf95 : fq [(407, 2), (407, 3), (407, 4), (407, 5), (407, 6), (407, 7), (407, 8)] [409] true H H91 := fq_w hf90 hw93 (fpg (iGf k69))
      refine k_run 0 (pc' := 142) (l' := [(0, .inr (.inr 407)), (1, .inr (.inr e)), (2, .inl a), (3, .inl b), (4, .inr (.inr t68))]) (st' := []) rfl ?_
      refine k_run 2 (pc' := 145) (l' := [(0, .inr (.inr 407)), (1, .inr (.inr e)), (2, .inl a), (3, .inl b), (4, .inr (.inr t68))]) (st' := [.inl 0, .inr (.inr t68)]) rfl ?_
      refine k_putw (a := t68) (x := (kGo t68)) rfl rfl k69.1 (iG0 k69) k69.2.2.2.1 rfl rfl rfl rfl hI92 rfl (fun H96 hI97 hw98 => ?_)
      have hf100 : fq [(407, 2), (407, 3), (407, 4), (407, 5), (407, 6), (407, 7), (407, 8)] [409] true H H96 := fq_w hf95 hw98 (fpg (iGf k69))
      refine k_run 0 (pc' := 148) (l' := [(0, .inr (.inr 407)), (1, .inr (.inr e)), (2, .inl a), (3, .inl b), (4, .inr (.inr t68))]) (st' := []) rfl ?_
      refine h_ret rfl rfl ?_
      have g101 : 0 ≤ (H96.1 407 2) ∧ (H96.1 407 2) ≤ 12 := kn (x := kx_407) hI97 rfl 2
      have e102 : (H96.1 407 2) = (H91.1 407 2) := hw98.2 _ _ (fun q => by have h9 := (iGf k69); rw [← q.1] at h9; exact absurd h9 (by decide))
      have e103 : (H91.1 407 2) = (H87.1 407 2) := hw93.2 _ _ (fun q => by have h9 := (iGf k69); rw [← q.1] at h9; exact absurd h9 (by decide))
      have e104 : (H87.1 407 2) = (H77.1 407 2) := (hq89.1 407 2 rfl (by decide) (by decide)).1
      have e105 : (H77.1 407 2) = (H1.1 407 2) := (hq79.1 407 2 rfl (by decide) (by decide)).1
      exact ⟨rfl, (by omega), hI97, hf100⟩
    · refine k_run 0 (pc' := 70) (l' := [(0, .inr (.inr 407)), (1, .inr (.inr e)), (2, .inl a), (3, .inl b), (4, .inl x4)]) (st' := []) rfl ?_
      refine k_run 2 (pc' := 73) (l' := [(0, .inr (.inr 407)), (1, .inr (.inr e)), (2, .inl a), (3, .inl b), (4, .inl x4)]) (st' := [.inr (.inr e), .inl x4]) rfl ?_
      refine k_get (a := e) (x := (kEo e)) (v := .inr (.inr (e + 5))) rfl rfl he.1 (iE0 he) rfl rfl rfl ?_
      refine k_run 0 (pc' := 76) (l' := [(0, .inr (.inr 407)), (1, .inr (.inr e)), (2, .inl a), (3, .inl b), (4, .inl x4)]) (st' := [.inr (.inr (e + 5)), .inl x4]) rfl ?_
      refine k_alen (c := (e + 5)) (x := kEt) rfl he.2.1 (iE5 he) rfl ?_
      refine k_run 0 (pc' := 77) (l' := [(0, .inr (.inr 407)), (1, .inr (.inr e)), (2, .inl a), (3, .inl b), (4, .inl x4)]) (st' := [.inl 40, .inl x4]) rfl ?_
      refine h_ige (off := 23) (t := 100) rfl rfl (by omega) (by decide) (fun c106 => ?_) (fun c106 => ?_)
      · refine k_run 0 (pc' := 100) (l' := [(0, .inr (.inr 407)), (1, .inr (.inr e)), (2, .inl a), (3, .inl b), (4, .inl x4)]) (st' := []) rfl ?_
        refine k_run 3 (pc' := 105) (l' := [(0, .inr (.inr 407)), (1, .inr (.inr e)), (2, .inl a), (3, .inl b), (4, .inl x4)]) (st' := [.inl 0, .inr (.inr 408)]) rfl ?_
        refine k_ald (c := 408) (j := 0) (i := 0) (x := kx_408) rfl rfl (by decide) rfl (by decide) rfl (by decide) hI1 (fun h107 => ?_)
        obtain ⟨t108, et110⟩ : ∃ t9, t9 = H1.2 408 0 := ⟨_, rfl⟩
        rw [← et110] at h107 ⊢
        have k109 : isG t108 := h107
        refine k_run 0 (pc' := 106) (l' := [(0, .inr (.inr 407)), (1, .inr (.inr e)), (2, .inl a), (3, .inl b), (4, .inl x4)]) (st' := [.inr (.inr t108)]) rfl ?_
        refine k_run 2 (pc' := 110) (l' := [(0, .inr (.inr 407)), (1, .inr (.inr e)), (2, .inl a), (3, .inl b), (4, .inr (.inr t108))]) (st' := [.inr (.inr t108)]) rfl ?_
        refine k_get (a := t108) (x := (kGo t108)) (v := .inr (.inr (t108 + 1))) rfl rfl k109.1 (iG0 k109) rfl rfl rfl ?_
        refine k_run 0 (pc' := 113) (l' := [(0, .inr (.inr 407)), (1, .inr (.inr e)), (2, .inl a), (3, .inl b), (4, .inr (.inr t108))]) (st' := [.inr (.inr (t108 + 1))]) rfl ?_
        refine k_run 1 (pc' := 114) (l' := [(0, .inr (.inr 407)), (1, .inr (.inr e)), (2, .inl a), (3, .inl b), (4, .inr (.inr t108))]) (st' := [.inl 0, .inr (.inr (t108 + 1))]) rfl ?_
        refine k_ald (c := (t108 + 1)) (j := 0) (i := 0) (x := kGt) rfl k109.2.1 (iG1 k109) rfl (by decide) rfl (by decide) hI1 (fun h111 => ?_)
        obtain ⟨t112, et114⟩ : ∃ t9, t9 = H1.2 (t108 + 1) 0 := ⟨_, rfl⟩
        rw [← et114] at h111 ⊢
        obtain ⟨n115, k113⟩ := (show ∃ n, isT t112 n from h111)
        have k113b := k113.2.2.2.2
        refine k_run 0 (pc' := 115) (l' := [(0, .inr (.inr 407)), (1, .inr (.inr e)), (2, .inl a), (3, .inl b), (4, .inr (.inr t108))]) (st' := [.inr (.inr t112)]) rfl ?_
        refine k_run 1 (pc' := 116) (l' := [(0, .inr (.inr 407)), (1, .inr (.inr e)), (2, .inl a), (3, .inl b), (4, .inr (.inr t108))]) (st' := [.inr (.inr e), .inr (.inr t112)]) rfl ?_
        refine k_get (a := e) (x := (kEo e)) (v := .inr (.inr (e + 1))) rfl rfl he.1 (iE0 he) rfl rfl rfl ?_
        refine k_run 0 (pc' := 119) (l' := [(0, .inr (.inr 407)), (1, .inr (.inr e)), (2, .inl a), (3, .inl b), (4, .inr (.inr t108))]) (st' := [.inr (.inr (e + 1)), .inr (.inr t112)]) rfl ?_
        refine h_cv (i := 64) (j := 55) (b := t112) (M' := mt_55) (xs := [.inr (.inr (e + 1))]) (rest := []) rfl rfl rfl rfl (by rw [zs_K k113.1 (iT0 k113)]; rfl) rfl (Nat.le_of_ble_eq_true rfl) (Nat.le_of_ble_eq_true rfl) (by omega) (k_Term_copy (by omega) hI1 k113 (iEl he)) ?_
        rintro _ H117 ⟨rfl, hI118, hq119⟩
        have hf120 : fq [(407, 2), (407, 3), (407, 4), (407, 5), (407, 6), (407, 7), (407, 8)] [409] true H H117 := fq_t hf1 hq119 rfl rfl rfl
        refine k_run 0 (pc' := 122) (l' := [(0, .inr (.inr 407)), (1, .inr (.inr e)), (2, .inl a), (3, .inl b), (4, .inr (.inr t108))]) (st' := []) rfl ?_
        refine k_run 1 (pc' := 124) (l' := [(0, .inr (.inr 407)), (1, .inr (.inr e)), (2, .inl a), (3, .inl b), (4, .inr (.inr t108))]) (st' := [.inr (.inr t108)]) rfl ?_
        refine k_get (a := t108) (x := (kGo t108)) (v := .inr (.inr (t108 + 1))) rfl rfl k109.1 (iG0 k109) rfl rfl rfl ?_
        refine k_run 0 (pc' := 127) (l' := [(0, .inr (.inr 407)), (1, .inr (.inr e)), (2, .inl a), (3, .inl b), (4, .inr (.inr t108))]) (st' := [.inr (.inr (t108 + 1))]) rfl ?_
        refine k_run 1 (pc' := 128) (l' := [(0, .inr (.inr 407)), (1, .inr (.inr e)), (2, .inl a), (3, .inl b), (4, .inr (.inr t108))]) (st' := [.inl 1, .inr (.inr (t108 + 1))]) rfl ?_
        refine k_ald (c := (t108 + 1)) (j := 1) (i := 1) (x := kGt) rfl k109.2.1 (iG1 k109) rfl (by decide) rfl (by decide) hI118 (fun h121 => ?_)
        obtain ⟨t122, et124⟩ : ∃ t9, t9 = H117.2 (t108 + 1) 1 := ⟨_, rfl⟩
        rw [← et124] at h121 ⊢
        obtain ⟨n125, k123⟩ := (show ∃ n, isT t122 n from h121)
        have k123b := k123.2.2.2.2
        refine k_run 0 (pc' := 129) (l' := [(0, .inr (.inr 407)), (1, .inr (.inr e)), (2, .inl a), (3, .inl b), (4, .inr (.inr t108))]) (st' := [.inr (.inr t122)]) rfl ?_
        refine k_run 1 (pc' := 130) (l' := [(0, .inr (.inr 407)), (1, .inr (.inr e)), (2, .inl a), (3, .inl b), (4, .inr (.inr t108))]) (st' := [.inr (.inr e), .inr (.inr t122)]) rfl ?_
        refine k_get (a := e) (x := (kEo e)) (v := .inr (.inr (e + 3))) rfl rfl he.1 (iE0 he) rfl rfl rfl ?_
        refine k_run 0 (pc' := 133) (l' := [(0, .inr (.inr 407)), (1, .inr (.inr e)), (2, .inl a), (3, .inl b), (4, .inr (.inr t108))]) (st' := [.inr (.inr (e + 3)), .inr (.inr t122)]) rfl ?_
        refine h_cv (i := 64) (j := 55) (b := t122) (M' := mt_55) (xs := [.inr (.inr (e + 3))]) (rest := []) rfl rfl rfl rfl (by rw [zs_K k123.1 (iT0 k123)]; rfl) rfl (Nat.le_of_ble_eq_true rfl) (Nat.le_of_ble_eq_true rfl) (by omega) (k_Term_copy (by omega) hI118 k123 (iEr he)) ?_
        rintro _ H127 ⟨rfl, hI128, hq129⟩
        have hf130 : fq [(407, 2), (407, 3), (407, 4), (407, 5), (407, 6), (407, 7), (407, 8)] [409] true H H127 := fq_t hf120 hq129 rfl rfl rfl
        refine k_run 0 (pc' := 136) (l' := [(0, .inr (.inr 407)), (1, .inr (.inr e)), (2, .inl a), (3, .inl b), (4, .inr (.inr t108))]) (st' := []) rfl ?_
        refine k_run 2 (pc' := 139) (l' := [(0, .inr (.inr 407)), (1, .inr (.inr e)), (2, .inl a), (3, .inl b), (4, .inr (.inr t108))]) (st' := [.inl 0, .inr (.inr t108)]) rfl ?_
        refine k_puti (z := 0) (a := t108) (x := (kGo t108)) rfl rfl k109.1 (iG0 k109) k109.2.2.2.1 rfl rfl rfl rfl hI128 (by decide) (show 0 ≤ (0 : Int) ∧ (0 : Int) ≤ 8 by omega) (fun H131 hI132 hw133 hv134 => ?_)
        have hf135 : fq [(407, 2), (407, 3), (407, 4), (407, 5), (407, 6), (407, 7), (407, 8)] [409] true H H131 := fq_w hf130 hw133 (fpg (iGf k109))
        refine k_run 0 (pc' := 142) (l' := [(0, .inr (.inr 407)), (1, .inr (.inr e)), (2, .inl a), (3, .inl b), (4, .inr (.inr t108))]) (st' := []) rfl ?_
        refine k_run 2 (pc' := 145) (l' := [(0, .inr (.inr 407)), (1, .inr (.inr e)), (2, .inl a), (3, .inl b), (4, .inr (.inr t108))]) (st' := [.inl 0, .inr (.inr t108)]) rfl ?_
        refine k_putw (a := t108) (x := (kGo t108)) rfl rfl k109.1 (iG0 k109) k109.2.2.2.1 rfl rfl rfl rfl hI132 rfl (fun H136 hI137 hw138 => ?_)
        have hf140 : fq [(407, 2), (407, 3), (407, 4), (407, 5), (407, 6), (407, 7), (407, 8)] [409] true H H136 := fq_w hf135 hw138 (fpg (iGf k109))
        refine k_run 0 (pc' := 148) (l' := [(0, .inr (.inr 407)), (1, .inr (.inr e)), (2, .inl a), (3, .inl b), (4, .inr (.inr t108))]) (st' := []) rfl ?_
        refine h_ret rfl rfl ?_
        have g141 : 0 ≤ (H136.1 407 2) ∧ (H136.1 407 2) ≤ 12 := kn (x := kx_407) hI137 rfl 2
        have e142 : (H136.1 407 2) = (H131.1 407 2) := hw138.2 _ _ (fun q => by have h9 := (iGf k109); rw [← q.1] at h9; exact absurd h9 (by decide))
        have e143 : (H131.1 407 2) = (H127.1 407 2) := hw133.2 _ _ (fun q => by have h9 := (iGf k109); rw [← q.1] at h9; exact absurd h9 (by decide))
        have e144 : (H127.1 407 2) = (H117.1 407 2) := (hq129.1 407 2 rfl (by decide) (by decide)).1
        have e145 : (H117.1 407 2) = (H1.1 407 2) := (hq119.1 407 2 rfl (by decide) (by decide)).1
        exact ⟨rfl, (by omega), hI137, hf140⟩
      · refine k_run 0 (pc' := 80) (l' := [(0, .inr (.inr 407)), (1, .inr (.inr e)), (2, .inl a), (3, .inl b), (4, .inl x4)]) (st' := []) rfl ?_
        refine k_run 4 (pc' := 87) (l' := [(0, .inr (.inr 407)), (1, .inr (.inr e)), (2, .inl a), (3, .inl b), (4, .inl x4)]) (st' := [.inr (.inr e), .inl x4, .inr (.inr 409)]) rfl ?_
        refine k_get (a := e) (x := (kEo e)) (v := .inr (.inr (e + 5))) rfl rfl he.1 (iE0 he) rfl rfl rfl ?_
        refine k_run 0 (pc' := 90) (l' := [(0, .inr (.inr 407)), (1, .inr (.inr e)), (2, .inl a), (3, .inl b), (4, .inl x4)]) (st' := [.inr (.inr (e + 5)), .inl x4, .inr (.inr 409)]) rfl ?_
        refine k_run 1 (pc' := 92) (l' := [(0, .inr (.inr 407)), (1, .inr (.inr e)), (2, .inl a), (3, .inl b), (4, .inl x4)]) (st' := [.inl x4, .inr (.inr (e + 5)), .inl x4, .inr (.inr 409)]) rfl ?_
        refine k_ild (c := (e + 5)) (j := (x4).toNat) (i := x4) (x := kEt) rfl he.2.1 (iE5 he) rfl (by decide) (by omega) (by omega) ?_
        have g146 : -2 ≤ (H1.1 (e + 5) (x4).toNat) ∧ (H1.1 (e + 5) (x4).toNat) ≤ 100 := kn hI1 he.2.1 (x4).toNat
        refine k_run 0 (pc' := 93) (l' := [(0, .inr (.inr 407)), (1, .inr (.inr e)), (2, .inl a), (3, .inl b), (4, .inl x4)]) (st' := [.inl (H1.1 (e + 5) (x4).toNat), .inl x4, .inr (.inr 409)]) rfl ?_
        refine k_ist (z := (H1.1 (e + 5) (x4).toNat)) (c := 409) (j := (x4).toNat) (i := x4) (x := kx_409) rfl rfl (by decide) (by decide) rfl (by decide) (by omega) (by omega) hI1 (by omega) (show -2 ≤ (H1.1 (e + 5) (x4).toNat) ∧ (H1.1 (e + 5) (x4).toNat) ≤ 100 by omega) (fun H147 hI148 hw149 hv150 => ?_)
        have hf151 : fq [(407, 2), (407, 3), (407, 4), (407, 5), (407, 6), (407, 7), (407, 8)] [409] true H H147 := fq_w hf1 hw149 (fpa (by decide) rfl)
        refine k_run 0 (pc' := 94) (l' := [(0, .inr (.inr 407)), (1, .inr (.inr e)), (2, .inl a), (3, .inl b), (4, .inl x4)]) (st' := []) rfl ?_
        refine k_run 2 (pc' := 61) (l' := [(0, .inr (.inr 407)), (1, .inr (.inr e)), (2, .inl a), (3, .inl b), (4, .inl (x4 + 1))]) (st' := []) rfl ?_
        have g152 : 0 ≤ (H147.1 407 2) ∧ (H147.1 407 2) ≤ 12 := kn (x := kx_407) hI148 rfl 2
        have e153 : (H147.1 407 2) = (H1.1 407 2) := hw149.2 _ _ (fun q => absurd q.1 (by decide))
        exact ih H147 hI148 hf151 (x4 + 1) (by omega) (by omega) (by omega) (by omega)
set_option maxRecDepth 100000 in
theorem kb_start {d : Nat} (hd : 2 ≤ d) {H : hp} (hI : Inv H) {e : Nat} {a : Int} {b : Int} (he : isE e) (ha : -2147483648 ≤ a ∧ a ≤ 2147483647) (hb : 0 ≤ b ∧ b ≤ 1) : hG (zs zK) d mt_145 0 (zargs 0 [.inr (.inr 407), .inr (.inr e), .inl a, .inl b]) [] H (fun r9 H9 => r9 = none ∧ (H9.1 407 2 = 1) ∧ Inv H9 ∧ fq [(407, 2), (407, 3), (407, 4), (407, 5), (407, 6), (407, 7), (407, 8)] [409] true H H9) := by
  refine k_run 0 (pc' := 0) (l' := [(0, .inr (.inr 407)), (1, .inr (.inr e)), (2, .inl a), (3, .inl b)]) (st' := []) rfl ?_
  refine k_run 2 (pc' := 2) (l' := [(0, .inr (.inr 407)), (1, .inr (.inr e)), (2, .inl a), (3, .inl b)]) (st' := [.inl a, .inr (.inr 407)]) rfl ?_
  refine k_putw (a := 407) (x := kx_407) rfl rfl rfl (by decide) (by decide) rfl rfl rfl rfl hI rfl (fun H1 hI2 hw3 => ?_)
  have hf5 : fq [(407, 2), (407, 3), (407, 4), (407, 5), (407, 6), (407, 7), (407, 8)] [409] true H H1 := fq_w (fq_rf _ _ _ _) hw3 (fpo (by decide) rfl)
  refine k_run 0 (pc' := 5) (l' := [(0, .inr (.inr 407)), (1, .inr (.inr e)), (2, .inl a), (3, .inl b)]) (st' := []) rfl ?_
  refine k_run 2 (pc' := 7) (l' := [(0, .inr (.inr 407)), (1, .inr (.inr e)), (2, .inl a), (3, .inl b)]) (st' := [.inl b, .inr (.inr 407)]) rfl ?_
  refine k_putz (z := b) (a := 407) (x := kx_407) rfl rfl rfl (by decide) (by decide) rfl rfl rfl rfl hI2 (by omega) rfl (fun H6 hI7 hw8 hv9 => ?_)
  have hf10 : fq [(407, 2), (407, 3), (407, 4), (407, 5), (407, 6), (407, 7), (407, 8)] [409] true H H6 := fq_w hf5 hw8 (fpo (by decide) rfl)
  refine k_run 0 (pc' := 10) (l' := [(0, .inr (.inr 407)), (1, .inr (.inr e)), (2, .inl a), (3, .inl b)]) (st' := []) rfl ?_
  refine k_run 2 (pc' := 12) (l' := [(0, .inr (.inr 407)), (1, .inr (.inr e)), (2, .inl a), (3, .inl b)]) (st' := [.inl 0, .inr (.inr 407)]) rfl ?_
  refine k_putw (a := 407) (x := kx_407) rfl rfl rfl (by decide) (by decide) rfl rfl rfl rfl hI7 rfl (fun H11 hI12 hw13 => ?_)
  have hf15 : fq [(407, 2), (407, 3), (407, 4), (407, 5), (407, 6), (407, 7), (407, 8)] [409] true H H11 := fq_w hf10 hw13 (fpo (by decide) rfl)
  refine k_run 0 (pc' := 15) (l' := [(0, .inr (.inr 407)), (1, .inr (.inr e)), (2, .inl a), (3, .inl b)]) (st' := []) rfl ?_
  refine k_run 2 (pc' := 17) (l' := [(0, .inr (.inr 407)), (1, .inr (.inr e)), (2, .inl a), (3, .inl b)]) (st' := [.inl 1, .inr (.inr 407)]) rfl ?_
  refine k_puti (z := 1) (a := 407) (x := kx_407) rfl rfl rfl (by decide) (by decide) rfl rfl rfl rfl hI12 (by decide) (show 0 ≤ (1 : Int) ∧ (1 : Int) ≤ 12 by omega) (fun H16 hI17 hw18 hv19 => ?_)
  have hf20 : fq [(407, 2), (407, 3), (407, 4), (407, 5), (407, 6), (407, 7), (407, 8)] [409] true H H16 := fq_w hf15 hw18 (fpo (by decide) rfl)
  refine k_run 0 (pc' := 20) (l' := [(0, .inr (.inr 407)), (1, .inr (.inr e)), (2, .inl a), (3, .inl b)]) (st' := []) rfl ?_
  refine k_run 2 (pc' := 22) (l' := [(0, .inr (.inr 407)), (1, .inr (.inr e)), (2, .inl a), (3, .inl b)]) (st' := [.inr (.inr e), .inr (.inr 407)]) rfl ?_
  refine k_get (a := e) (x := (kEo e)) (v := .inl (H16.1 e 3)) rfl rfl he.1 (iE0 he) rfl rfl rfl ?_
  have g21 : 0 ≤ (H16.1 e 3) ∧ (H16.1 e 3) ≤ 40 := kn hI17 he.1 3
  have e22 : (H16.1 e 3) = (H11.1 e 3) := hw18.2 _ _ (fun q => by have h9 := (iEf he); rw [q.1] at h9; exact absurd h9 (by decide))
  have e23 : (H11.1 e 3) = (H6.1 e 3) := hw13.2 _ _ (fun q => by have h9 := (iEf he); rw [q.1] at h9; exact absurd h9 (by decide))
  have e24 : (H6.1 e 3) = (H1.1 e 3) := hw8.2 _ _ (fun q => by have h9 := (iEf he); rw [q.1] at h9; exact absurd h9 (by decide))
  have e25 : (H1.1 e 3) = (H.1 e 3) := hw3.2 _ _ (fun q => by have h9 := (iEf he); rw [q.1] at h9; exact absurd h9 (by decide))
  refine k_run 0 (pc' := 25) (l' := [(0, .inr (.inr 407)), (1, .inr (.inr e)), (2, .inl a), (3, .inl b)]) (st' := [.inl (H16.1 e 3), .inr (.inr 407)]) rfl ?_
  refine k_run 1 (pc' := 27) (l' := [(0, .inr (.inr 407)), (1, .inr (.inr e)), (2, .inl a), (3, .inl b)]) (st' := [.inl 60, .inl (H16.1 e 3), .inr (.inr 407)]) rfl ?_
  refine k_min (i := 41) (x := (H16.1 e 3)) (y := 60) rfl rfl (Nat.le_of_ble_eq_true rfl) (by omega) (by omega) (by decide) (fun z26 hz26 => ?_)
  refine k_run 0 (pc' := 30) (l' := [(0, .inr (.inr 407)), (1, .inr (.inr e)), (2, .inl a), (3, .inl b)]) (st' := [.inl z26, .inr (.inr 407)]) rfl ?_
  refine k_puti (z := z26) (a := 407) (x := kx_407) rfl rfl rfl (by decide) (by decide) rfl rfl rfl rfl hI17 (by omega) (show 0 ≤ z26 ∧ z26 ≤ 60 by omega) (fun H27 hI28 hw29 hv30 => ?_)
  have hf31 : fq [(407, 2), (407, 3), (407, 4), (407, 5), (407, 6), (407, 7), (407, 8)] [409] true H H27 := fq_w hf20 hw29 (fpo (by decide) rfl)
  refine k_run 0 (pc' := 33) (l' := [(0, .inr (.inr 407)), (1, .inr (.inr e)), (2, .inl a), (3, .inl b)]) (st' := []) rfl ?_
  refine k_run 2 (pc' := 35) (l' := [(0, .inr (.inr 407)), (1, .inr (.inr e)), (2, .inl a), (3, .inl b)]) (st' := [.inl b, .inr (.inr 407)]) rfl ?_
  refine h_zeq (off := 7) (t := 42) rfl rfl (by omega) (fun c32 => ?_) (fun c32 => ?_)
  · refine k_run 0 (pc' := 42) (l' := [(0, .inr (.inr 407)), (1, .inr (.inr e)), (2, .inl a), (3, .inl b)]) (st' := [.inr (.inr 407)]) rfl ?_
    refine k_run 3 (pc' := 47) (l' := [(0, .inr (.inr 407)), (1, .inr (.inr e)), (2, .inl a), (3, .inl b)]) (st' := [.inl (H27.1 407 6), .inr (.inl 1), .inr (.inr 407)]) rfl ?_
    have g33 : 0 ≤ (H27.1 407 6) ∧ (H27.1 407 6) ≤ 60 := kn (x := kx_407) hI28 rfl 6
    refine k_run 1 (pc' := 48) (l' := [(0, .inr (.inr 407)), (1, .inr (.inr e)), (2, .inl a), (3, .inl b)]) (st' := [.inr (.inl (z_lshl 1 (H27.1 407 6))), .inr (.inr 407)]) rfl ?_
    refine k_nrmj (fun y34 hy34 => ?_)
    refine k_run 2 (pc' := 50) (l' := [(0, .inr (.inr 407)), (1, .inr (.inr e)), (2, .inl a), (3, .inl b)]) (st' := [.inr (.inl (y34 - 1)), .inr (.inr 407)]) rfl ?_
    refine k_nrmj (fun y35 hy35 => ?_)
    refine k_putl (a := 407) (x := kx_407) rfl rfl rfl (by decide) (by decide) rfl rfl rfl rfl hI28 rfl (fun H36 hI37 hw38 => ?_)
    have hf40 : fq [(407, 2), (407, 3), (407, 4), (407, 5), (407, 6), (407, 7), (407, 8)] [409] true H H36 := fq_w hf31 hw38 (fpo (by decide) rfl)
    refine k_run 0 (pc' := 53) (l' := [(0, .inr (.inr 407)), (1, .inr (.inr e)), (2, .inl a), (3, .inl b)]) (st' := []) rfl ?_
    refine k_run 2 (pc' := 55) (l' := [(0, .inr (.inr 407)), (1, .inr (.inr e)), (2, .inl a), (3, .inl b)]) (st' := [.inr (.inl 0), .inr (.inr 407)]) rfl ?_
    refine k_putl (a := 407) (x := kx_407) rfl rfl rfl (by decide) (by decide) rfl rfl rfl rfl hI37 rfl (fun H41 hI42 hw43 => ?_)
    have hf45 : fq [(407, 2), (407, 3), (407, 4), (407, 5), (407, 6), (407, 7), (407, 8)] [409] true H H41 := fq_w hf40 hw43 (fpo (by decide) rfl)
    refine k_run 0 (pc' := 58) (l' := [(0, .inr (.inr 407)), (1, .inr (.inr e)), (2, .inl a), (3, .inl b)]) (st' := []) rfl ?_
    refine k_run 2 (pc' := 61) (l' := [(0, .inr (.inr 407)), (1, .inr (.inr e)), (2, .inl a), (3, .inl b), (4, .inl 0)]) (st' := []) rfl ?_
    have g46 : 0 ≤ (H41.1 407 2) ∧ (H41.1 407 2) ≤ 12 := kn (x := kx_407) hI42 rfl 2
    have e47 : (H41.1 407 2) = (H36.1 407 2) := hw43.2 _ _ (fun q => absurd q.2 (by decide))
    have e48 : (H36.1 407 2) = (H27.1 407 2) := hw38.2 _ _ (fun q => absurd q.2 (by decide))
    have e49 : (H27.1 407 2) = (H16.1 407 2) := hw29.2 _ _ (fun q => absurd q.2 (by decide))
    exact (kb_start_cut hd hI he ha hb _) H41 hI42 hf45 (0 : Int) (by decide) (by omega) (by omega) (Nat.lt_succ_self _)
  · refine k_run 0 (pc' := 38) (l' := [(0, .inr (.inr 407)), (1, .inr (.inr e)), (2, .inl a), (3, .inl b)]) (st' := [.inr (.inr 407)]) rfl ?_
    refine k_run 2 (pc' := 50) (l' := [(0, .inr (.inr 407)), (1, .inr (.inr e)), (2, .inl a), (3, .inl b)]) (st' := [.inr (.inl 0), .inr (.inr 407)]) rfl ?_
    refine k_putl (a := 407) (x := kx_407) rfl rfl rfl (by decide) (by decide) rfl rfl rfl rfl hI28 rfl (fun H50 hI51 hw52 => ?_)
    have hf54 : fq [(407, 2), (407, 3), (407, 4), (407, 5), (407, 6), (407, 7), (407, 8)] [409] true H H50 := fq_w hf31 hw52 (fpo (by decide) rfl)
    refine k_run 0 (pc' := 53) (l' := [(0, .inr (.inr 407)), (1, .inr (.inr e)), (2, .inl a), (3, .inl b)]) (st' := []) rfl ?_
    refine k_run 2 (pc' := 55) (l' := [(0, .inr (.inr 407)), (1, .inr (.inr e)), (2, .inl a), (3, .inl b)]) (st' := [.inr (.inl 0), .inr (.inr 407)]) rfl ?_
    refine k_putl (a := 407) (x := kx_407) rfl rfl rfl (by decide) (by decide) rfl rfl rfl rfl hI51 rfl (fun H55 hI56 hw57 => ?_)
    have hf59 : fq [(407, 2), (407, 3), (407, 4), (407, 5), (407, 6), (407, 7), (407, 8)] [409] true H H55 := fq_w hf54 hw57 (fpo (by decide) rfl)
    refine k_run 0 (pc' := 58) (l' := [(0, .inr (.inr 407)), (1, .inr (.inr e)), (2, .inl a), (3, .inl b)]) (st' := []) rfl ?_
    refine k_run 2 (pc' := 61) (l' := [(0, .inr (.inr 407)), (1, .inr (.inr e)), (2, .inl a), (3, .inl b), (4, .inl 0)]) (st' := []) rfl ?_
    have g60 : 0 ≤ (H55.1 407 2) ∧ (H55.1 407 2) ≤ 12 := kn (x := kx_407) hI56 rfl 2
    have e61 : (H55.1 407 2) = (H50.1 407 2) := hw57.2 _ _ (fun q => absurd q.2 (by decide))
    have e62 : (H50.1 407 2) = (H27.1 407 2) := hw52.2 _ _ (fun q => absurd q.2 (by decide))
    have e63 : (H27.1 407 2) = (H16.1 407 2) := hw29.2 _ _ (fun q => absurd q.2 (by decide))
    exact (kb_start_cut hd hI he ha hb _) H55 hI56 hf59 (0 : Int) (by decide) (by omega) (by omega) (Nat.lt_succ_self _)

/-! begin -/
set_option maxRecDepth 100000 in
theorem kb_begin {d : Nat} (hd : 3 ≤ d) {H : hp} (hI : Inv H) {a : Int} {b : Int} (ha : -2147483648 ≤ a ∧ a ≤ 2147483647) (hb : 0 ≤ b ∧ b ≤ 1) : hG (zs zK) d mt_11 0 (zargs 0 [.inr (.inr 1), .inl a, .inl b]) [] H (fun r9 H9 => ∃ z : Int, r9 = some (.inl z) ∧ ((-2147483648 ≤ z ∧ z ≤ 2147483647) ∧ ((z = 1 ∧ 0 ≤ a ∧ a < H.1 7 6) ∨ (z = -101 ∧ (a < 0 ∨ H.1 7 6 ≤ a)))) ∧ Inv H9 ∧ fq [(407, 2), (407, 3), (407, 4), (407, 5), (407, 6), (407, 7), (407, 8)] [409] true H H9) := by
  refine k_run 0 (pc' := 0) (l' := [(0, .inr (.inr 1)), (1, .inl a), (2, .inl b)]) (st' := []) rfl ?_
  refine k_run 3 (pc' := 5) (l' := [(0, .inr (.inr 1)), (1, .inl a), (2, .inl b)]) (st' := [.inl a, .inr (.inr 7)]) rfl ?_
  refine h_cv (i := 144) (j := 35) (b := 7) (M' := mt_35) (xs := [.inl a]) (rest := []) rfl rfl rfl rfl (zs_K (x := kx_7) rfl (by decide)) rfl (Nat.le_of_ble_eq_true rfl) (Nat.le_of_ble_eq_true rfl) (by omega) (kb_hasLaw (by omega) hI (by omega)) ?_
  rintro _ _ ⟨z5, rfl, g1, rfl⟩
  refine k_run 0 (pc' := 8) (l' := [(0, .inr (.inr 1)), (1, .inl a), (2, .inl b)]) (st' := [.inl z5]) rfl ?_
  refine h_zne (off := 6) (t := 14) rfl rfl (by omega) (fun c6 => ?_) (fun c6 => ?_)
  · refine k_run 0 (pc' := 14) (l' := [(0, .inr (.inr 1)), (1, .inl a), (2, .inl b)]) (st' := []) rfl ?_
    refine k_run 7 (pc' := 29) (l' := [(0, .inr (.inr 1)), (1, .inl a), (2, .inl b)]) (st' := [.inl a, .inr (.inr 24), .inr (.inr 407)]) rfl ?_
    refine k_ald (c := 24) (j := (a).toNat) (i := a) (x := kx_24) rfl rfl (by decide) rfl (by decide) (by omega) (by omega) hI (fun h7 => ?_)
    obtain ⟨t8, et10⟩ : ∃ t9, t9 = H.2 24 (a).toNat := ⟨_, rfl⟩
    rw [← et10] at h7 ⊢
    have k9 : isE t8 := h7
    refine k_run 0 (pc' := 30) (l' := [(0, .inr (.inr 1)), (1, .inl a), (2, .inl b)]) (st' := [.inr (.inr t8), .inr (.inr 407)]) rfl ?_
    refine k_run 2 (pc' := 32) (l' := [(0, .inr (.inr 1)), (1, .inl a), (2, .inl b)]) (st' := [.inl b, .inl a, .inr (.inr t8), .inr (.inr 407)]) rfl ?_
    refine h_cv (i := 198) (j := 145) (b := 407) (M' := mt_145) (xs := [.inl b, .inl a, .inr (.inr t8)]) (rest := []) rfl rfl rfl rfl (zs_K (x := kx_407) rfl (by decide)) rfl (Nat.le_of_ble_eq_true rfl) (Nat.le_of_ble_eq_true rfl) (by omega) (kb_start (by omega) hI k9 (by omega) (by omega)) ?_
    rintro _ H12 ⟨rfl, g11, hI13, hq14⟩
    have hf15 : fq [(407, 2), (407, 3), (407, 4), (407, 5), (407, 6), (407, 7), (407, 8)] [409] true H H12 := fq_t (fq_rf _ _ _ _) hq14 rfl rfl rfl
    refine k_run 0 (pc' := 35) (l' := [(0, .inr (.inr 1)), (1, .inl a), (2, .inl b)]) (st' := []) rfl ?_
    refine k_run 4 (pc' := 45) (l' := [(0, .inr (.inr 1)), (1, .inl a), (2, .inl b)]) (st' := [.inl (H12.1 407 2)]) rfl ?_
    have g16 : 0 ≤ (H12.1 407 2) ∧ (H12.1 407 2) ≤ 12 := kn (x := kx_407) hI13 rfl 2
    refine h_reti (x := (H12.1 407 2)) rfl rfl ?_
    have g17 : 0 ≤ (H12.1 7 6) ∧ (H12.1 7 6) ≤ 16 := kn (x := kx_7) hI13 rfl 6
    have e18 : (H12.1 7 6) = (H.1 7 6) := (hq14.1 7 6 rfl (by decide) (by decide)).1
    exact ⟨_, rfl, (by omega), hI13, hf15⟩
  · refine k_run 0 (pc' := 11) (l' := [(0, .inr (.inr 1)), (1, .inl a), (2, .inl b)]) (st' := []) rfl ?_
    refine k_run 1 (pc' := 13) (l' := [(0, .inr (.inr 1)), (1, .inl a), (2, .inl b)]) (st' := [.inl (-101)]) rfl ?_
    refine h_reti (x := (-101)) rfl rfl ?_
    have g19 : 0 ≤ (H.1 7 6) ∧ (H.1 7 6) ≤ 16 := kn (x := kx_7) hI rfl 6
    have g20 : 0 ≤ (H.1 407 2) ∧ (H.1 407 2) ≤ 12 := kn (x := kx_407) hI rfl 2
    exact ⟨_, rfl, (by omega), hI, (fq_rf _ _ _ _)⟩

/-! begin, both answer the same -/
theorem LX_laws {H : hp} (h : LX H) : H.1 7 6 = H.1 1826 19 := by
  obtain ⟨-, ⟨X, b, -, e⟩, -⟩ := h
  exact b.1.2.2.2.2.trans e.2.2.2.1.1.2.symm
theorem w_c_begin {d : Nat} (hd : 50 ≤ d) {H : hp} (hI : Inv H) (hG9 : GX H) {a b : Int} (ha : -2147483648 ≤ a ∧ a ≤ 2147483647) (hb : 0 ≤ b ∧ b ≤ 1) : hG (zs zK) d mt_11 0 (zargs 0 [.inr (.inr 1), .inl a, .inl b]) [] H (fun r K => BX (H.1 2 1) (H.1 1826 28) r K ∧ r = some (.inl (if 0 ≤ a ∧ a < H.1 1826 19 then 1 else -101)) ∧ K.1 1826 19 = H.1 1826 19) := by
  refine h_mono (h_names (by decide +kernel : gM gG mt_11 = true) (kb_begin (by omega) hI ha hb)) (fun r K h9 => ?_)
  obtain ⟨h, hn⟩ := h9
  obtain ⟨z, h1, ⟨-, h2⟩, h3, f⟩ := h
  rw [LX_laws hG9.2] at h2
  refine ⟨fq_BX hG9 hn h1 h3 f ((f.1 2 1 rfl (by decide) (by decide)).1) (Or.inr rfl) rfl rfl (by decide) (by decide), ?_, by rw [fq_up f rfl rfl 1826 (by decide)]⟩
  rw [h1]
  rcases h2 with ⟨e, q⟩ | ⟨e, q⟩
  · rw [if_pos q, e]
  · rw [if_neg (by omega), e]
theorem w_r_begin {d : Nat} (hd : 50 ≤ d) {H : hp} (hK : Inv H) (hI : GX H) {x b : Int} (hx : -2147483648 ≤ x ∧ x ≤ 2147483647) (hb : 0 ≤ b ∧ b ≤ 1) : hG (zs zK) d mt_227 0 (zargs 0 [.inr (.inr 1826), .inl x, .inl b]) [] H (fun r K => BX (H.1 2 1) (H.1 1826 28) r K ∧ r = some (.inl (if 0 ≤ x ∧ x < H.1 1826 19 then 1 else -101))) := by
  obtain ⟨hP, ht, hst, hou, hG9, hT⟩ := id hI.1
  obtain ⟨⟨b1, b2, b3, b4, b5⟩, -⟩ := (id hP : PW H (H.1 1826 1) (H.1 1826 3) (H.1 1826 8) (H.1 1826 13) (H.1 1826 19))
  by_cases q : 0 ≤ x ∧ x < H.1 1826 19
  · refine h_mono (n_begin1 (by omega) hP hx hb q) (fun r K h => ?_)
    obtain ⟨h1, f, hO, hor, hvv, hpr⟩ := h
    have hG8 : GP K := ⟨hor, hvv, by rw [f.2.2 97 (by decide)]; exact hG9.2.2.1, 1, hO.1.1, Or.inr ⟨OS_P (sP_fr2 f (by decide) (by decide)) hO, hpr.1, by omega⟩⟩
    refine ⟨GZ9_BX hK hI ⟨⟨_, h1⟩, GI_k hI.1 f (by decide) (by decide) (by decide) (by rw [f.2.2 59 (by decide)]; exact hou) hG8 (TV_fr hT f (by decide) (by decide) (by decide)), cl_fr f rfl, f.2.2 28 (by decide), ft_fr f (by decide) (by decide)⟩, ?_⟩
    rw [if_pos q]
    exact h1
  · refine h_mono (n_begin0 (by omega) hx (by omega)) (fun r K h => ?_)
    obtain ⟨h1, rfl⟩ := h
    refine ⟨GZ9_BX hK hI (GZ9_rf hI.1 ⟨_, h1⟩), ?_⟩
    rw [if_neg q]
    exact h1
