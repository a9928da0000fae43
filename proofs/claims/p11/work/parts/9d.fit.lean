/-! the reference: may a term stand for a variable? -/
theorem h_any {zC : Nat → Option zsh} {d : Nat} {M : am_M} {pc : Nat} {l : zl} {st : List zv} {H : hp} {Q : Option zv → hp → Prop} {x : Int} (k : ∀ y : Int, -2147483648 ≤ y ∧ y ≤ 2147483647 → hG (zs zC) d M pc l (.inl y :: st) H Q) : hG (zs zC) d M pc l (.inl x :: st) H Q := by
  have k := k (Int32.ofInt x).toInt (z_int _)
  intro S lc hS hl
  have e : zc (.inl x) = zc (.inl (Int32.ofInt x).toInt) := by
    show Value.int (Int32.ofInt x) = Value.int (Int32.ofInt (Int32.ofInt x).toInt)
    rw [Int32.ofInt_toInt]
  have k := k S lc hS hl
  rw [List.map_cons, ← e] at k
  exact k

/-! isFit -/
set_option maxRecDepth 100000 in
theorem m_isFit_cut {zC : Nat → Option zsh} {d : Nat} (hd : 3 ≤ d) {H : hp} {a e v N : Nat} {root su : Int} (hP : PWc H) (hT : tm (ma (H.1 1833) (H.1 1830)) (m_sg (H.1 1826 3) (H.1 1826 8) 60) (H.1 1884) N 0 1) (hN : N ≤ 60 ∧ a < e ∧ e ≤ N) (hv : ((H.1 1826 97) = -1 ∧ v < 60) ∨ (0 ≤ (H.1 1826 97) ∧ (H.1 1826 97) ≤ 15 ∧ v < 6)) (hsu : 0 ≤ su ∧ su ≤ 2) : ∀ w : Nat, (∀ (H1 : hp) (b : Nat) (i : Nat), (fr [] [1852, 1853] H H1) → (b ≤ 1) → (a ≤ i ∧ i ≤ e) → e - i < w → hG (zs zC) d mt_240 78 [(0, .inr (.inr 1826)), (2, .inl (e : Int)), (7, .inl (b : Int)), (8, .inl (i : Int))] [] H1 (fun r9 H2 => (r9 = some (.inl 0) ∨ r9 = some (.inl 1)) ∧ fr [] [1852, 1853] H H2)) := by
  intro w
  induction w with
  | zero => exact fun _ _ _ _ _ _ h => absurd h (Nat.not_lt_zero _)
  | succ w ih =>
    intro H1 b i hf hb hi hw
    refine h_rng (fun hrg1 => ?_)
    obtain ⟨⟨pb1, pb2, pb3, pb4, pb5⟩, pw1, pw2, pw3, pw4⟩ := (id hP : PW H (H.1 1826 1) (H.1 1826 3) (H.1 1826 8) (H.1 1826 13) (H.1 1826 19))
    have e_now : (H1.1 1884) = (H.1 1884) := hf.2.1 1884 (by decide) (by decide)
    refine h_run 2 (pc' := 81) (l' := [(0, .inr (.inr 1826)), (2, .inl (e : Int)), (7, .inl (b : Int)), (8, .inl (i : Int))]) (st' := [.inl (e : Int), .inl (i : Int)]) rfl ?_
    refine h_ige (off := 74) (t := 155) rfl rfl (by omega) (by omega) (fun c2 => ?_) (fun c2 => ?_)
    · refine h_run 1 (pc' := 156) (l' := [(0, .inr (.inr 1826)), (2, .inl (e : Int)), (7, .inl (b : Int)), (8, .inl (i : Int))]) (st' := [.inl 1]) rfl ?_
      refine h_retz (x := 1) rfl rfl (by decide) ?_
      exact ⟨Or.inr rfl, hf⟩
    · refine h_run 1 (pc' := 86) (l' := [(0, .inr (.inr 1826)), (2, .inl (e : Int)), (7, .inl (b : Int)), (8, .inl (i : Int))]) (st' := [.inl (b : Int)]) rfl ?_
      refine h_zeq (off := 69) (t := 155) rfl rfl (by omega) (fun c3 => ?_) (fun c3 => ?_)
      · refine h_run 1 (pc' := 156) (l' := [(0, .inr (.inr 1826)), (2, .inl (e : Int)), (7, .inl (b : Int)), (8, .inl (i : Int))]) (st' := [.inl 1]) rfl ?_
        refine h_retz (x := 1) rfl rfl (by decide) ?_
        exact ⟨Or.inr rfl, hf⟩
      · have hsx := tm_ok hT i (by omega)
        rw [Nat.zero_add, ← e_now] at hsx
        unfold m_sg at hsx
        refine h_run 3 (pc' := 95) (l' := [(0, .inr (.inr 1826)), (2, .inl (e : Int)), (7, .inl (b : Int)), (8, .inl (i : Int))]) (st' := [.inl (i : Int), .inr (.inr 1884)]) rfl ?_
        refine h_ild (c := 1884) (j := i) (i := (i : Int)) rfl rfl (by decide) rfl (by omega) ?_
        have g4 : -2147483648 ≤ (H1.1 1884 i) ∧ (H1.1 1884 i) ≤ 2147483647 := hrg1.2 1884 i 128 .int rfl (by omega)
        have e5 : (H1.1 1884 i) = (H.1 1884 i) := congrFun (hf.2.1 1884 (by decide) (by decide)) i
        refine h_run 0 (pc' := 96) (l' := [(0, .inr (.inr 1826)), (2, .inl (e : Int)), (7, .inl (b : Int)), (8, .inl (i : Int))]) (st' := [.inl (H1.1 1884 i)]) rfl ?_
        refine h_cs (i := 431) (j := 157) (M' := mt_157) (xs := [.inl (H1.1 1884 i)]) (rest := []) rfl rfl rfl rfl rfl (Nat.le_of_ble_eq_true rfl) (Nat.le_of_ble_eq_true rfl) (by omega) (m_isCon (by omega) (by omega)) ?_
        rintro _ _ ⟨⟨rfl, b6⟩ | ⟨rfl, b6⟩, rfl⟩
        · refine h_run 0 (pc' := 99) (l' := [(0, .inr (.inr 1826)), (2, .inl (e : Int)), (7, .inl (b : Int)), (8, .inl (i : Int))]) (st' := [.inl 1]) rfl ?_
          refine h_zne (off := 50) (t := 149) rfl rfl (by decide) (fun _ => ?_) (fun c => absurd c (by decide))
          refine h_run 2 (pc' := 78) (l' := [(0, .inr (.inr 1826)), (2, .inl (e : Int)), (7, .inl (b : Int)), (8, .inl ((i : Int) + 1))]) (st' := []) rfl ?_
          rw [show ((i : Int) + 1) = (((i + 1) : Nat) : Int) by omega]
          exact ih _ b (i + 1) hf (by omega) (by omega) (by omega : e - (i + 1) < w)
        · refine h_run 0 (pc' := 99) (l' := [(0, .inr (.inr 1826)), (2, .inl (e : Int)), (7, .inl (b : Int)), (8, .inl (i : Int))]) (st' := [.inl 0]) rfl ?_
          refine h_zne (off := 50) (t := 149) rfl rfl (by decide) (fun c => absurd c (by decide)) (fun _ => ?_)
          refine h_run 3 (pc' := 108) (l' := [(0, .inr (.inr 1826)), (2, .inl (e : Int)), (7, .inl (b : Int)), (8, .inl (i : Int))]) (st' := [.inl (i : Int), .inr (.inr 1884)]) rfl ?_
          refine h_ild (c := 1884) (j := i) (i := (i : Int)) rfl rfl (by decide) rfl (by omega) ?_
          refine h_run 0 (pc' := 109) (l' := [(0, .inr (.inr 1826)), (2, .inl (e : Int)), (7, .inl (b : Int)), (8, .inl (i : Int))]) (st' := [.inl (H1.1 1884 i)]) rfl ?_
          refine h_run 1 (pc' := 112) (l' := [(0, .inr (.inr 1826)), (2, .inl (e : Int)), (7, .inl (b : Int)), (8, .inl (i : Int))]) (st' := [.inl 1000, .inl (H1.1 1884 i)]) rfl ?_
          refine h_ilt (off := 35) (t := 147) rfl rfl (by omega) (by decide) (fun c7 => ?_) (fun c7 => ?_)
          · refine h_run 1 (pc' := 148) (l' := [(0, .inr (.inr 1826)), (2, .inl (e : Int)), (7, .inl (b : Int)), (8, .inl (i : Int))]) (st' := [.inl 0]) rfl ?_
            refine h_retz (x := 0) rfl rfl (by decide) ?_
            exact ⟨Or.inl rfl, hf⟩
          · refine h_run 3 (pc' := 121) (l' := [(0, .inr (.inr 1826)), (2, .inl (e : Int)), (7, .inl (b : Int)), (8, .inl (i : Int))]) (st' := [.inl (i : Int), .inr (.inr 1884)]) rfl ?_
            refine h_ild (c := 1884) (j := i) (i := (i : Int)) rfl rfl (by decide) rfl (by omega) ?_
            refine h_run 0 (pc' := 122) (l' := [(0, .inr (.inr 1826)), (2, .inl (e : Int)), (7, .inl (b : Int)), (8, .inl (i : Int))]) (st' := [.inl (H1.1 1884 i)]) rfl ?_
            refine h_run 1 (pc' := 125) (l' := [(0, .inr (.inr 1826)), (2, .inl (e : Int)), (7, .inl (b : Int)), (8, .inl (i : Int))]) (st' := [.inl 2000, .inl (H1.1 1884 i)]) rfl ?_
            refine h_ige (off := 22) (t := 147) rfl rfl (by omega) (by decide) (fun c8 => ?_) (fun c8 => ?_)
            · refine h_run 1 (pc' := 148) (l' := [(0, .inr (.inr 1826)), (2, .inl (e : Int)), (7, .inl (b : Int)), (8, .inl (i : Int))]) (st' := [.inl 0]) rfl ?_
              refine h_retz (x := 0) rfl rfl (by decide) ?_
              exact ⟨Or.inl rfl, hf⟩
            · refine h_run 5 (pc' := 138) (l' := [(0, .inr (.inr 1826)), (2, .inl (e : Int)), (7, .inl (b : Int)), (8, .inl (i : Int))]) (st' := [.inl (i : Int), .inr (.inr 1884), .inr (.inr 1883)]) rfl ?_
              refine h_ild (c := 1884) (j := i) (i := (i : Int)) rfl rfl (by decide) rfl (by omega) ?_
              refine h_run 0 (pc' := 139) (l' := [(0, .inr (.inr 1826)), (2, .inl (e : Int)), (7, .inl (b : Int)), (8, .inl (i : Int))]) (st' := [.inl (H1.1 1884 i), .inr (.inr 1883)]) rfl ?_
              refine h_run 2 (pc' := 143) (l' := [(0, .inr (.inr 1826)), (2, .inl (e : Int)), (7, .inl (b : Int)), (8, .inl (i : Int))]) (st' := [.inl ((H1.1 1884 i) - 1000), .inr (.inr 1883)]) rfl ?_
              refine h_bld (c := 1883) (j := (((H1.1 1884 i) - 1000)).toNat) (i := ((H1.1 1884 i) - 1000)) (Or.inr rfl) rfl rfl (by decide) (by omega) (by omega) ?_
              have g9 : 0 ≤ (H1.1 1883 (((H1.1 1884 i) - 1000)).toNat) ∧ (H1.1 1883 (((H1.1 1884 i) - 1000)).toNat) ≤ 1 := hrg1.2 1883 (((H1.1 1884 i) - 1000)).toNat 60 .boolean rfl (by omega)
              have e10 : (H1.1 1883 (((H1.1 1884 i) - 1000)).toNat) = (H.1 1883 (((H1.1 1884 i) - 1000)).toNat) := congrFun (hf.2.1 1883 (by decide) (by decide)) (((H1.1 1884 i) - 1000)).toNat
              refine h_run 0 (pc' := 144) (l' := [(0, .inr (.inr 1826)), (2, .inl (e : Int)), (7, .inl (b : Int)), (8, .inl (i : Int))]) (st' := [.inl (H1.1 1883 (((H1.1 1884 i) - 1000)).toNat)]) rfl ?_
              refine h_zne (off := 5) (t := 149) rfl rfl (by omega) (fun c11 => ?_) (fun c11 => ?_)
              · refine h_run 2 (pc' := 78) (l' := [(0, .inr (.inr 1826)), (2, .inl (e : Int)), (7, .inl (b : Int)), (8, .inl ((i : Int) + 1))]) (st' := []) rfl ?_
                rw [show ((i : Int) + 1) = (((i + 1) : Nat) : Int) by omega]
                exact ih _ b (i + 1) hf (by omega) (by omega) (by omega : e - (i + 1) < w)
              · refine h_run 1 (pc' := 148) (l' := [(0, .inr (.inr 1826)), (2, .inl (e : Int)), (7, .inl (b : Int)), (8, .inl (i : Int))]) (st' := [.inl 0]) rfl ?_
                refine h_retz (x := 0) rfl rfl (by decide) ?_
                exact ⟨Or.inl rfl, hf⟩
set_option maxRecDepth 100000 in
theorem m_isFit {zC : Nat → Option zsh} {d : Nat} (hd : 3 ≤ d) {H : hp} {a e v N : Nat} {root su : Int} (hP : PWc H) (hT : tm (ma (H.1 1833) (H.1 1830)) (m_sg (H.1 1826 3) (H.1 1826 8) 60) (H.1 1884) N 0 1) (hN : N ≤ 60 ∧ a < e ∧ e ≤ N) (hv : ((H.1 1826 97) = -1 ∧ v < 60) ∨ (0 ≤ (H.1 1826 97) ∧ (H.1 1826 97) ≤ 15 ∧ v < 6)) (hsu : 0 ≤ su ∧ su ≤ 2) : hG (zs zC) d mt_240 0 (zargs 0 [.inr (.inr 1826), .inl (a : Int), .inl (e : Int), .inl (v : Int), .inl root, .inl su]) [] H (fun r9 H2 => (r9 = some (.inl 0) ∨ r9 = some (.inl 1)) ∧ fr [] [1852, 1853] H H2) := by
  refine h_rng (fun hrg0 => ?_)
  refine h_run 0 (pc' := 0) (l' := [(0, .inr (.inr 1826)), (1, .inl (a : Int)), (2, .inl (e : Int)), (3, .inl (v : Int)), (4, .inl root), (5, .inl su)]) (st' := []) rfl ?_
  obtain ⟨⟨pb1, pb2, pb3, pb4, pb5⟩, pw1, pw2, pw3, pw4⟩ := (id hP : PW H (H.1 1826 1) (H.1 1826 3) (H.1 1826 8) (H.1 1826 13) (H.1 1826 19))
  refine h_run 2 (pc' := 4) (l' := [(0, .inr (.inr 1826)), (1, .inl (a : Int)), (2, .inl (e : Int)), (3, .inl (v : Int)), (4, .inl root), (5, .inl su)]) (st' := [.inl (H.1 1826 97)]) rfl ?_
  have g12 : -2147483648 ≤ (H.1 1826 97) ∧ (H.1 1826 97) ≤ 2147483647 := hrg0.1 1826 13 97 _ .int rfl rfl
  refine h_run 1 (pc' := 5) (l' := [(0, .inr (.inr 1826)), (1, .inl (a : Int)), (2, .inl (e : Int)), (3, .inl (v : Int)), (4, .inl root), (5, .inl su)]) (st' := [.inl (-1), .inl (H.1 1826 97)]) rfl ?_
  refine h_ieq (off := 20) (t := 25) rfl rfl (by omega) (by decide) (fun c13 => ?_) (fun c13 => ?_)
  · refine h_run 3 (pc' := 30) (l' := [(0, .inr (.inr 1826)), (1, .inl (a : Int)), (2, .inl (e : Int)), (3, .inl (v : Int)), (4, .inl root), (5, .inl su)]) (st' := [.inl (v : Int), .inr (.inr 1882)]) rfl ?_
    refine h_ild (c := 1882) (j := v) (i := (v : Int)) rfl rfl (by decide) rfl (by omega) ?_
    have g14 : -2147483648 ≤ (H.1 1882 v) ∧ (H.1 1882 v) ≤ 2147483647 := hrg0.2 1882 v 60 .int rfl (by omega)
    refine h_run 0 (pc' := 31) (l' := [(0, .inr (.inr 1826)), (1, .inl (a : Int)), (2, .inl (e : Int)), (3, .inl (v : Int)), (4, .inl root), (5, .inl su)]) (st' := [.inl (H.1 1882 v)]) rfl ?_
    refine h_run 4 (pc' := 37) (l' := [(0, .inr (.inr 1826)), (1, .inl (a : Int)), (2, .inl (e : Int)), (3, .inl (v : Int)), (4, .inl root), (5, .inl su), (6, .inl (H.1 1882 v))]) (st' := [.inl (a : Int), .inl root, .inr (.inr 1826)]) rfl ?_
    refine h_cv (i := 586) (j := 231) (b := 1826) (M' := mt_231) (xs := [.inl (a : Int), .inl root]) (rest := []) rfl rfl rfl rfl rfl rfl (Nat.le_of_ble_eq_true rfl) (Nat.le_of_ble_eq_true rfl) (by omega) (m_typeAt (by omega) (N := N) hP hT (by omega)) ?_
    rintro _ H15 ⟨⟨hx15r, rfl⟩, hx15f⟩
    refine h_rng (fun hrg16 => ?_)
    have hf17 : fr [] [1852, 1853] H H15 := fr_t (fr_rf _ _ _) hx15f (by decide) (by decide)
    refine h_run 0 (st' := (.inl hx15r :: [])) rfl ?_
    refine h_any (fun hx15y hx15b => ?_)
    refine h_run 0 (pc' := 40) (l' := [(0, .inr (.inr 1826)), (1, .inl (a : Int)), (2, .inl (e : Int)), (3, .inl (v : Int)), (4, .inl root), (5, .inl su), (6, .inl (H.1 1882 v))]) (st' := [.inl hx15y]) rfl ?_
    refine h_run 1 (pc' := 42) (l' := [(0, .inr (.inr 1826)), (1, .inl (a : Int)), (2, .inl (e : Int)), (3, .inl (v : Int)), (4, .inl root), (5, .inl su), (6, .inl (H.1 1882 v))]) (st' := [.inl (H.1 1882 v), .inl hx15y]) rfl ?_
    refine h_ieq (off := 5) (t := 47) rfl rfl (by omega) (by omega) (fun c18 => ?_) (fun c18 => ?_)
    · refine h_run 2 (pc' := 50) (l' := [(0, .inr (.inr 1826)), (1, .inl (a : Int)), (2, .inl (e : Int)), (3, .inl (v : Int)), (4, .inl root), (5, .inl su), (6, .inl (H.1 1882 v))]) (st' := [.inl 1, .inl su]) rfl ?_
      refine h_ieq (off := 18) (t := 68) rfl rfl (by omega) (by decide) (fun c19 => ?_) (fun c19 => ?_)
      · refine h_run 5 (pc' := 78) (l' := [(0, .inr (.inr 1826)), (1, .inl (a : Int)), (2, .inl (e : Int)), (3, .inl (v : Int)), (4, .inl root), (5, .inl su), (6, .inl (H.1 1882 v)), (7, .inl 1), (8, .inl (a : Int))]) (st' := []) rfl ?_
        refine h_loc [0, 2, 7, 8] rfl ?_
        exact (m_isFit_cut (root := root) hd hP hT hN hv hsu _) _ 1 a hf17 (by omega) (by omega) (Nat.lt_succ_self _)
      · refine h_run 2 (pc' := 56) (l' := [(0, .inr (.inr 1826)), (1, .inl (a : Int)), (2, .inl (e : Int)), (3, .inl (v : Int)), (4, .inl root), (5, .inl su), (6, .inl (H.1 1882 v))]) (st' := [.inl 2, .inl su]) rfl ?_
        refine h_ine (off := 16) (t := 72) rfl rfl (by omega) (by decide) (fun c20 => ?_) (fun c20 => ?_)
        · refine h_run 4 (pc' := 78) (l' := [(0, .inr (.inr 1826)), (1, .inl (a : Int)), (2, .inl (e : Int)), (3, .inl (v : Int)), (4, .inl root), (5, .inl su), (6, .inl (H.1 1882 v)), (7, .inl 0), (8, .inl (a : Int))]) (st' := []) rfl ?_
          refine h_loc [0, 2, 7, 8] rfl ?_
          exact (m_isFit_cut (root := root) hd hP hT hN hv hsu _) _ 0 a hf17 (by omega) (by omega) (Nat.lt_succ_self _)
        · refine h_run 3 (pc' := 64) (l' := [(0, .inr (.inr 1826)), (1, .inl (a : Int)), (2, .inl (e : Int)), (3, .inl (v : Int)), (4, .inl root), (5, .inl su), (6, .inl (H.1 1882 v))]) (st' := [.inl (v : Int), .inr (.inr 1883)]) rfl ?_
          refine h_bld (c := 1883) (j := v) (i := (v : Int)) (Or.inr rfl) rfl rfl (by decide) rfl (by omega) ?_
          have g21 : 0 ≤ (H15.1 1883 v) ∧ (H15.1 1883 v) ≤ 1 := hrg16.2 1883 v 60 .boolean rfl (by omega)
          have e22 : (H15.1 1883 v) = (H.1 1883 v) := congrFun (hx15f.2.1 1883 (by decide) (by decide)) v
          refine h_run 0 (pc' := 65) (l' := [(0, .inr (.inr 1826)), (1, .inl (a : Int)), (2, .inl (e : Int)), (3, .inl (v : Int)), (4, .inl root), (5, .inl su), (6, .inl (H.1 1882 v))]) (st' := [.inl (H15.1 1883 v)]) rfl ?_
          refine h_zeq (off := 7) (t := 72) rfl rfl (by omega) (fun c23 => ?_) (fun c23 => ?_)
          · refine h_run 4 (pc' := 78) (l' := [(0, .inr (.inr 1826)), (1, .inl (a : Int)), (2, .inl (e : Int)), (3, .inl (v : Int)), (4, .inl root), (5, .inl su), (6, .inl (H.1 1882 v)), (7, .inl 0), (8, .inl (a : Int))]) (st' := []) rfl ?_
            refine h_loc [0, 2, 7, 8] rfl ?_
            exact (m_isFit_cut (root := root) hd hP hT hN hv hsu _) _ 0 a hf17 (by omega) (by omega) (Nat.lt_succ_self _)
          · refine h_run 5 (pc' := 78) (l' := [(0, .inr (.inr 1826)), (1, .inl (a : Int)), (2, .inl (e : Int)), (3, .inl (v : Int)), (4, .inl root), (5, .inl su), (6, .inl (H.1 1882 v)), (7, .inl 1), (8, .inl (a : Int))]) (st' := []) rfl ?_
            refine h_loc [0, 2, 7, 8] rfl ?_
            exact (m_isFit_cut (root := root) hd hP hT hN hv hsu _) _ 1 a hf17 (by omega) (by omega) (Nat.lt_succ_self _)
    · refine h_run 1 (pc' := 46) (l' := [(0, .inr (.inr 1826)), (1, .inl (a : Int)), (2, .inl (e : Int)), (3, .inl (v : Int)), (4, .inl root), (5, .inl su), (6, .inl (H.1 1882 v))]) (st' := [.inl 0]) rfl ?_
      refine h_retz (x := 0) rfl rfl (by decide) ?_
      exact ⟨Or.inl rfl, hf17⟩
  · refine h_run 5 (pc' := 18) (l' := [(0, .inr (.inr 1826)), (1, .inl (a : Int)), (2, .inl (e : Int)), (3, .inl (v : Int)), (4, .inl root), (5, .inl su)]) (st' := [.inl (H.1 1826 97), .inl 6, .inr (.inr 1846)]) rfl ?_
    refine h_run 3 (pc' := 21) (l' := [(0, .inr (.inr 1826)), (1, .inl (a : Int)), (2, .inl (e : Int)), (3, .inl (v : Int)), (4, .inl root), (5, .inl su)]) (st' := [.inl ((6 * (H.1 1826 97)) + (v : Int)), .inr (.inr 1846)]) rfl ?_
    refine h_ild (c := 1846) (j := (((6 * (H.1 1826 97)) + (v : Int))).toNat) (i := ((6 * (H.1 1826 97)) + (v : Int))) rfl rfl (by decide) (by omega) (by omega) ?_
    have g24 : -2147483648 ≤ (H.1 1846 (((6 * (H.1 1826 97)) + (v : Int))).toNat) ∧ (H.1 1846 (((6 * (H.1 1826 97)) + (v : Int))).toNat) ≤ 2147483647 := hrg0.2 1846 (((6 * (H.1 1826 97)) + (v : Int))).toNat 96 .int rfl (by omega)
    refine h_run 0 (pc' := 22) (l' := [(0, .inr (.inr 1826)), (1, .inl (a : Int)), (2, .inl (e : Int)), (3, .inl (v : Int)), (4, .inl root), (5, .inl su)]) (st' := [.inl (H.1 1846 (((6 * (H.1 1826 97)) + (v : Int))).toNat)]) rfl ?_
    refine h_run 5 (pc' := 37) (l' := [(0, .inr (.inr 1826)), (1, .inl (a : Int)), (2, .inl (e : Int)), (3, .inl (v : Int)), (4, .inl root), (5, .inl su), (6, .inl (H.1 1846 (((6 * (H.1 1826 97)) + (v : Int))).toNat))]) (st' := [.inl (a : Int), .inl root, .inr (.inr 1826)]) rfl ?_
    refine h_cv (i := 586) (j := 231) (b := 1826) (M' := mt_231) (xs := [.inl (a : Int), .inl root]) (rest := []) rfl rfl rfl rfl rfl rfl (Nat.le_of_ble_eq_true rfl) (Nat.le_of_ble_eq_true rfl) (by omega) (m_typeAt (by omega) (N := N) hP hT (by omega)) ?_
    rintro _ H25 ⟨⟨hx25r, rfl⟩, hx25f⟩
    refine h_rng (fun hrg26 => ?_)
    have hf27 : fr [] [1852, 1853] H H25 := fr_t (fr_rf _ _ _) hx25f (by decide) (by decide)
    refine h_run 0 (st' := (.inl hx25r :: [])) rfl ?_
    refine h_any (fun hx25y hx25b => ?_)
    refine h_run 0 (pc' := 40) (l' := [(0, .inr (.inr 1826)), (1, .inl (a : Int)), (2, .inl (e : Int)), (3, .inl (v : Int)), (4, .inl root), (5, .inl su), (6, .inl (H.1 1846 (((6 * (H.1 1826 97)) + (v : Int))).toNat))]) (st' := [.inl hx25y]) rfl ?_
    refine h_run 1 (pc' := 42) (l' := [(0, .inr (.inr 1826)), (1, .inl (a : Int)), (2, .inl (e : Int)), (3, .inl (v : Int)), (4, .inl root), (5, .inl su), (6, .inl (H.1 1846 (((6 * (H.1 1826 97)) + (v : Int))).toNat))]) (st' := [.inl (H.1 1846 (((6 * (H.1 1826 97)) + (v : Int))).toNat), .inl hx25y]) rfl ?_
    refine h_ieq (off := 5) (t := 47) rfl rfl (by omega) (by omega) (fun c28 => ?_) (fun c28 => ?_)
    · refine h_run 2 (pc' := 50) (l' := [(0, .inr (.inr 1826)), (1, .inl (a : Int)), (2, .inl (e : Int)), (3, .inl (v : Int)), (4, .inl root), (5, .inl su), (6, .inl (H.1 1846 (((6 * (H.1 1826 97)) + (v : Int))).toNat))]) (st' := [.inl 1, .inl su]) rfl ?_
      refine h_ieq (off := 18) (t := 68) rfl rfl (by omega) (by decide) (fun c29 => ?_) (fun c29 => ?_)
      · refine h_run 5 (pc' := 78) (l' := [(0, .inr (.inr 1826)), (1, .inl (a : Int)), (2, .inl (e : Int)), (3, .inl (v : Int)), (4, .inl root), (5, .inl su), (6, .inl (H.1 1846 (((6 * (H.1 1826 97)) + (v : Int))).toNat)), (7, .inl 1), (8, .inl (a : Int))]) (st' := []) rfl ?_
        refine h_loc [0, 2, 7, 8] rfl ?_
        exact (m_isFit_cut (root := root) hd hP hT hN hv hsu _) _ 1 a hf27 (by omega) (by omega) (Nat.lt_succ_self _)
      · refine h_run 2 (pc' := 56) (l' := [(0, .inr (.inr 1826)), (1, .inl (a : Int)), (2, .inl (e : Int)), (3, .inl (v : Int)), (4, .inl root), (5, .inl su), (6, .inl (H.1 1846 (((6 * (H.1 1826 97)) + (v : Int))).toNat))]) (st' := [.inl 2, .inl su]) rfl ?_
        refine h_ine (off := 16) (t := 72) rfl rfl (by omega) (by decide) (fun c30 => ?_) (fun c30 => ?_)
        · refine h_run 4 (pc' := 78) (l' := [(0, .inr (.inr 1826)), (1, .inl (a : Int)), (2, .inl (e : Int)), (3, .inl (v : Int)), (4, .inl root), (5, .inl su), (6, .inl (H.1 1846 (((6 * (H.1 1826 97)) + (v : Int))).toNat)), (7, .inl 0), (8, .inl (a : Int))]) (st' := []) rfl ?_
          refine h_loc [0, 2, 7, 8] rfl ?_
          exact (m_isFit_cut (root := root) hd hP hT hN hv hsu _) _ 0 a hf27 (by omega) (by omega) (Nat.lt_succ_self _)
        · refine h_run 3 (pc' := 64) (l' := [(0, .inr (.inr 1826)), (1, .inl (a : Int)), (2, .inl (e : Int)), (3, .inl (v : Int)), (4, .inl root), (5, .inl su), (6, .inl (H.1 1846 (((6 * (H.1 1826 97)) + (v : Int))).toNat))]) (st' := [.inl (v : Int), .inr (.inr 1883)]) rfl ?_
          refine h_bld (c := 1883) (j := v) (i := (v : Int)) (Or.inr rfl) rfl rfl (by decide) rfl (by omega) ?_
          have g31 : 0 ≤ (H25.1 1883 v) ∧ (H25.1 1883 v) ≤ 1 := hrg26.2 1883 v 60 .boolean rfl (by omega)
          have e32 : (H25.1 1883 v) = (H.1 1883 v) := congrFun (hx25f.2.1 1883 (by decide) (by decide)) v
          refine h_run 0 (pc' := 65) (l' := [(0, .inr (.inr 1826)), (1, .inl (a : Int)), (2, .inl (e : Int)), (3, .inl (v : Int)), (4, .inl root), (5, .inl su), (6, .inl (H.1 1846 (((6 * (H.1 1826 97)) + (v : Int))).toNat))]) (st' := [.inl (H25.1 1883 v)]) rfl ?_
          refine h_zeq (off := 7) (t := 72) rfl rfl (by omega) (fun c33 => ?_) (fun c33 => ?_)
          · refine h_run 4 (pc' := 78) (l' := [(0, .inr (.inr 1826)), (1, .inl (a : Int)), (2, .inl (e : Int)), (3, .inl (v : Int)), (4, .inl root), (5, .inl su), (6, .inl (H.1 1846 (((6 * (H.1 1826 97)) + (v : Int))).toNat)), (7, .inl 0), (8, .inl (a : Int))]) (st' := []) rfl ?_
            refine h_loc [0, 2, 7, 8] rfl ?_
            exact (m_isFit_cut (root := root) hd hP hT hN hv hsu _) _ 0 a hf27 (by omega) (by omega) (Nat.lt_succ_self _)
          · refine h_run 5 (pc' := 78) (l' := [(0, .inr (.inr 1826)), (1, .inl (a : Int)), (2, .inl (e : Int)), (3, .inl (v : Int)), (4, .inl root), (5, .inl su), (6, .inl (H.1 1846 (((6 * (H.1 1826 97)) + (v : Int))).toNat)), (7, .inl 1), (8, .inl (a : Int))]) (st' := []) rfl ?_
            refine h_loc [0, 2, 7, 8] rfl ?_
            exact (m_isFit_cut (root := root) hd hP hT hN hv hsu _) _ 1 a hf27 (by omega) (by omega) (Nat.lt_succ_self _)
    · refine h_run 1 (pc' := 46) (l' := [(0, .inr (.inr 1826)), (1, .inl (a : Int)), (2, .inl (e : Int)), (3, .inl (v : Int)), (4, .inl root), (5, .inl su), (6, .inl (H.1 1846 (((6 * (H.1 1826 97)) + (v : Int))).toNat))]) (st' := [.inl 0]) rfl ?_
      refine h_retz (x := 0) rfl rfl (by decide) ?_
      exact ⟨Or.inl rfl, hf27⟩
