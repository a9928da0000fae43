/-! the reference makes what a call becomes, told exactly -/
theorem mid_v {ar : Int → Int} {X : rx} {a : Nat → Int} {c r y b kb : Nat} {l : List Int} (h : 1000 ≤ X (4 * r + 101) (y + 1)) (hb : bF ar (LL X r) a (c + 1) (kL X r) (X (4 * r + 101) (y + 1) - 1000).toNat = b) (h2 : bh ar a b = b + kb) : l ++ midL ar X a c r (y + 1) = (l ++ midL ar X a c r y) ++ sl a b (b + kb) := by
  show l ++ (midL ar X a c r y ++ (if 1000 ≤ X (4 * r + 101) (y + 1) then _ else _)) = _
  rw [if_pos h, hb, h2, List.append_assoc]
theorem mid_c {ar : Int → Int} {X : rx} {a : Nat → Int} {c r y : Nat} {l : List Int} (h : ¬ 1000 ≤ X (4 * r + 101) (y + 1)) : l ++ midL ar X a c r (y + 1) = (l ++ midL ar X a c r y) ++ [X (4 * r + 101) (y + 1)] := by
  show l ++ (midL ar X a c r y ++ (if 1000 ≤ X (4 * r + 101) (y + 1) then _ else _)) = _
  rw [if_neg h, List.append_assoc]
theorem mkL_0 {ar : Int → Int} {X : rx} {a : Nat → Int} {n c r e kr : Nat} {how : Int} (h : how = 0) (hb : bh ar a c = e) (hk : (X (4 * r + 101) 0).toNat = kr) : mkL ar X a n c how r = (sl a 0 c ++ midL ar X a c r kr) ++ sl a e n := by
  unfold mkL
  rw [if_neg (by omega), hb, hk]
theorem mkL_1 {ar : Int → Int} {X : rx} {a : Nat → Int} {n c r e : Nat} {how : Int} (h : how = 1) (hb : bh ar a c = e) : mkL ar X a n c how r = (sl a 0 c ++ [0]) ++ sl a e n := by
  unfold mkL
  rw [if_pos h, hb]

/-! makeDone -/
set_option maxRecDepth 100000 in
theorem n_makeDone_cut {zC : Nat → Option zsh} {d : Nat} (hd : 3 ≤ d) {H : hp} {c n N p k r : Nat} {h : Int} {X : rx} {g : Nat → Int} (hc : zs zC c = some (.inr (.int, n))) (hn : n ≤ 100000) (hcm : c ≠ 1826 ∧ c ∉ [1856]) (hP : PWc H) (hX : RZ9 H X) (hT : tm (ma (H.1 1833) (H.1 1830)) (m_sg (H.1 1826 3) (H.1 1826 8) 0) g N 0 1) (hTp : tm (ma (H.1 1833) (H.1 1830)) (m_sg (H.1 1826 3) (H.1 1826 8) 0) g k p 1) (hN : p + k ≤ N ∧ N ≤ n ∧ N ≤ 240) (hA : ∀ x, x < N → H.1 c x = g x) (hh : h = 0 ∨ h = 1) (hhw : hid (HW (ma (H.1 1833) (H.1 1830)) X g p ((H.1 1826 13)).toNat h r)) (hfi : hid (h = 0 → (H.1 1826 51) = (r : Int) ∧ BV (ma (H.1 1833) (H.1 1830)) (LL X r) g (p + 1) (kL X r) (H.1 1855))) : ∀ w : Nat, (∀ (H1 : hp) (y : Nat) (cur : Nat) (kr : Nat), (fr [53] [1856] H H1) → ((r : Int) < (H.1 1826 13) ∧ (H.1 1826 51) = r) → ((H.1 1840) r = kr) → (y ≤ kr ∧ kr ≤ 40) → ((H1.1 1826 53) = ((cur : Nat) : Int) ∧ cur ≤ 240 + 240 * y) → (MK (H1.1 1856) cur (sl g 0 p ++ midL (ma (H.1 1833) (H.1 1830)) X g p r y)) → (h = 0) → kr - y < w → hG (zs zC) d mt_199 50 [(0, .inr (.inr 1826)), (1, .inr (.inr c)), (2, .inl (N : Int)), (3, .inl (p : Int)), (5, .inl (r : Int)), (6, .inl (y : Int))] [] H1 (fun r9 H2 => r9 = none ∧ fr [53] [1856] H H2 ∧ ∃ M : Nat, (H2.1 1826 53) = M ∧ M ≤ 12000 ∧ MK (H2.1 1856) M (mkL (ma (H.1 1833) (H.1 1830)) X g N p h r))) := by
  intro w
  induction w with
  | zero => exact fun _ _ _ _ _ _ _ _ _ _ _ h => absurd h (Nat.not_lt_zero _)
  | succ w ih =>
    intro H1 y cur kr hf hr hrs hy hz hmk hh0 hw
    refine h_rng (fun hrg1 => ?_)
    obtain ⟨⟨pb1, pb2, pb3, pb4, pb5⟩, pw1, pw2, pw3, pw4⟩ := (id hP : PW H (H.1 1826 1) (H.1 1826 3) (H.1 1826 8) (H.1 1826 13) (H.1 1826 19))
    have eC : H1.1 c = H.1 c := hf.2.1 c hcm.1 hcm.2
    have eFA : (H1.1 1833) = (H.1 1833) := hf.2.1 1833 (by decide) (by decide)
    have eCA : (H1.1 1830) = (H.1 1830) := hf.2.1 1830 (by decide) (by decide)
    have eRR : (H1.1 1839) = (H.1 1839) := hf.2.1 1839 (by decide) (by decide)
    have eRS : (H1.1 1840) = (H.1 1840) := hf.2.1 1840 (by decide) (by decide)
    have eBA : (H1.1 1855) = (H.1 1855) := hf.2.1 1855 (by decide) (by decide)
    have eRS1 : (H1.1 1840) r = kr := by rw [eRS]; exact hrs
    have hx5 := (hX.2 r (by rw [hX.1]; omega)).2
    have hx50 := hx5.1
    refine h_run 4 (pc' := 58) (l' := [(0, .inr (.inr 1826)), (1, .inr (.inr c)), (2, .inl (N : Int)), (3, .inl (p : Int)), (5, .inl (r : Int)), (6, .inl (y : Int))]) (st' := [.inl (r : Int), .inr (.inr 1840), .inl (y : Int)]) rfl ?_
    refine h_ild (c := 1840) (j := r) (i := (r : Int)) rfl rfl (by decide) rfl (by omega) ?_
    have g2 : -2147483648 ≤ (H1.1 1840 r) ∧ (H1.1 1840 r) ≤ 2147483647 := hrg1.2 1840 r 40 .int rfl (by omega)
    have e3 : (H1.1 1840 r) = (H.1 1840 r) := congrFun (hf.2.1 1840 (by decide) (by decide)) r
    refine h_run 0 (pc' := 59) (l' := [(0, .inr (.inr 1826)), (1, .inr (.inr c)), (2, .inl (N : Int)), (3, .inl (p : Int)), (5, .inl (r : Int)), (6, .inl (y : Int))]) (st' := [.inl (H1.1 1840 r), .inl (y : Int)]) rfl ?_
    refine h_ige (off := 83) (t := 142) rfl rfl (by omega) (by omega) (fun c4 => ?_) (fun c4 => ?_)
    · refine h_run 5 (pc' := 147) (l' := [(0, .inr (.inr 1826)), (1, .inr (.inr c)), (2, .inl (N : Int)), (3, .inl (p : Int)), (5, .inl (r : Int)), (6, .inl (y : Int))]) (st' := [.inl (p : Int), .inr (.inr c), .inr (.inr 1826), .inr (.inr c), .inr (.inr 1826)]) rfl ?_
      refine h_cv (i := 427) (j := 155) (b := 1826) (M' := mt_155) (xs := [.inl (p : Int), .inr (.inr c)]) (rest := [.inr (.inr c), .inr (.inr 1826)]) rfl rfl rfl rfl rfl rfl (Nat.le_of_ble_eq_true rfl) (Nat.le_of_ble_eq_true rfl) (by omega) (m_behind (by omega) (n := n) (a := p) (k := k) hc hn (by rw [eC, eFA, eCA]; exact tm_at (tm_sg0 hTp (fun s9 h9 => by unfold m_sg at h9; unfold sg0; omega)) (fun x hx => hA _ (by omega))) (by omega)) ?_
      rintro _ _ ⟨rfl, rfl⟩
      refine h_run 0 (pc' := 150) (l' := [(0, .inr (.inr 1826)), (1, .inr (.inr c)), (2, .inl (N : Int)), (3, .inl (p : Int)), (5, .inl (r : Int)), (6, .inl (y : Int))]) (st' := [.inl ((p + k : Nat) : Int), .inr (.inr c), .inr (.inr 1826)]) rfl ?_
      refine h_run 1 (pc' := 151) (l' := [(0, .inr (.inr 1826)), (1, .inr (.inr c)), (2, .inl (N : Int)), (3, .inl (p : Int)), (5, .inl (r : Int)), (6, .inl (y : Int))]) (st' := [.inl (N : Int), .inl ((p + k : Nat) : Int), .inr (.inr c), .inr (.inr 1826)]) rfl ?_
      have g5 : -2147483648 ≤ (H1.1 1826 53) ∧ (H1.1 1826 53) ≤ 2147483647 := hrg1.1 1826 13 53 _ .int rfl rfl
      refine h_cv (i := 440) (j := 198) (b := 1826) (M' := mt_198) (xs := [.inl (N : Int), .inl ((p + k : Nat) : Int), .inr (.inr c)]) (rest := []) rfl rfl rfl rfl rfl rfl (Nat.le_of_ble_eq_true rfl) (Nat.le_of_ble_eq_true rfl) (by omega) (m_copy (by omega) (n := n) (a := (p + k)) (e := N) (ms := cur) hc hn hcm (by omega) (by omega : (H1.1 1826 53) = ((cur : Nat) : Int) ∧ cur + (N - (p + k)) ≤ 12000)) ?_
      rintro _ H6 ⟨rfl, hx6f, hx6z, hx6k, hx6c⟩
      refine h_rng (fun hrg7 => ?_)
      have hf8 : fr [53] [1856] H H6 := fr_t hf hx6f (by decide) (by decide)
      refine h_run 0 (pc' := 154) (l' := [(0, .inr (.inr 1826)), (1, .inr (.inr c)), (2, .inl (N : Int)), (3, .inl (p : Int)), (5, .inl (r : Int)), (6, .inl (y : Int))]) (st' := []) rfl ?_
      refine h_ret rfl rfl ?_
      have g9 : -2147483648 ≤ (H6.1 1826 53) ∧ (H6.1 1826 53) ≤ 2147483647 := hrg7.1 1826 13 53 _ .int rfl rfl
      refine ⟨rfl, hf8, cur + (N - (p + k)), (by omega : (H6.1 1826 53) = ((cur + (N - (p + k)) : Nat) : Int)), by omega, ?_⟩
      rw [mkL_0 (e := p + k) (kr := kr) hh0 (bh_tm hTp (by omega)) (by omega)]
      rw [show kr = y by omega]
      exact MK_app hmk (fun x hx => hx6k x hx) (fun x hx => by rw [hx6c x (by omega), eC]; exact hA _ (by omega))
    · have hxr := hx5.2 y (by omega)
      have hyr : y < kr := by omega
      refine h_run 7 (pc' := 74) (l' := [(0, .inr (.inr 1826)), (1, .inr (.inr c)), (2, .inl (N : Int)), (3, .inl (p : Int)), (5, .inl (r : Int)), (6, .inl (y : Int))]) (st' := [.inl ((48 * (r : Int)) + (y : Int)), .inr (.inr 1839)]) rfl ?_
      refine h_ild (c := 1839) (j := ((48 * r) + y)) (i := ((48 * (r : Int)) + (y : Int))) rfl rfl (by decide) (by omega) (by omega) ?_
      have g10 : -2147483648 ≤ (H1.1 1839 ((48 * r) + y)) ∧ (H1.1 1839 ((48 * r) + y)) ≤ 2147483647 := hrg1.2 1839 ((48 * r) + y) 1920 .int rfl (by omega)
      have e11 : (H1.1 1839 ((48 * r) + y)) = (H.1 1839 ((48 * r) + y)) := congrFun (hf.2.1 1839 (by decide) (by decide)) ((48 * r) + y)
      refine h_run 0 (pc' := 75) (l' := [(0, .inr (.inr 1826)), (1, .inr (.inr c)), (2, .inl (N : Int)), (3, .inl (p : Int)), (5, .inl (r : Int)), (6, .inl (y : Int))]) (st' := [.inl (H1.1 1839 ((48 * r) + y))]) rfl ?_
      refine h_run 1 (pc' := 77) (l' := [(0, .inr (.inr 1826)), (1, .inr (.inr c)), (2, .inl (N : Int)), (3, .inl (p : Int)), (5, .inl (r : Int)), (6, .inl (y : Int)), (7, .inl (H1.1 1839 ((48 * r) + y)))]) (st' := []) rfl ?_
      have ep : (H1.1 1839) (48 * r + y) = (H.1 1839) (48 * r + y) := by rw [eRR]
      have hsg9 : (H.1 1839) (48 * r + y) = 0 ∨ (1 ≤ (H.1 1839) (48 * r + y) ∧ (H.1 1839) (48 * r + y) ≤ (H.1 1826 3)) ∨ (100 ≤ (H.1 1839) (48 * r + y) ∧ (H.1 1839) (48 * r + y) < 100 + (H.1 1826 8)) ∨ (1000 ≤ (H.1 1839) (48 * r + y) ∧ (H.1 1839) (48 * r + y) < 1000 + 40) := by obtain ⟨f, kl9, kr9, q, -, -, ⟨hrs9, hkr9⟩, -, -, h9, -⟩ := pw3 r (by omega); exact tm_ok h9 y (by omega)
      refine h_run 2 (pc' := 82) (l' := [(0, .inr (.inr 1826)), (1, .inr (.inr c)), (2, .inl (N : Int)), (3, .inl (p : Int)), (5, .inl (r : Int)), (6, .inl (y : Int)), (7, .inl (H1.1 1839 ((48 * r) + y)))]) (st' := [.inl 1000, .inl (H1.1 1839 ((48 * r) + y))]) rfl ?_
      refine h_ilt (off := 33) (t := 115) rfl rfl (by omega) (by decide) (fun c12 => ?_) (fun c12 => ?_)
      · refine h_run 4 (pc' := 123) (l' := [(0, .inr (.inr 1826)), (1, .inr (.inr c)), (2, .inl (N : Int)), (3, .inl (p : Int)), (5, .inl (r : Int)), (6, .inl (y : Int)), (7, .inl (H1.1 1839 ((48 * r) + y)))]) (st' := [.inl (H1.1 1826 53), .inr (.inr 1856)]) rfl ?_
        have g13 : -2147483648 ≤ (H1.1 1826 53) ∧ (H1.1 1826 53) ≤ 2147483647 := hrg1.1 1826 13 53 _ .int rfl rfl
        refine h_run 1 (pc' := 125) (l' := [(0, .inr (.inr 1826)), (1, .inr (.inr c)), (2, .inl (N : Int)), (3, .inl (p : Int)), (5, .inl (r : Int)), (6, .inl (y : Int)), (7, .inl (H1.1 1839 ((48 * r) + y)))]) (st' := [.inl (H1.1 1839 ((48 * r) + y)), .inl (H1.1 1826 53), .inr (.inr 1856)]) rfl ?_
        refine h_ist (c := 1856) (j := ((H1.1 1826 53)).toNat) (i := (H1.1 1826 53)) (x := (H1.1 1839 ((48 * r) + y))) rfl rfl (by decide) (by decide) (by omega) (by omega) (by omega) ?_
        refine h_run 3 (pc' := 131) (l' := [(0, .inr (.inr 1826)), (1, .inr (.inr c)), (2, .inl (N : Int)), (3, .inl (p : Int)), (5, .inl (r : Int)), (6, .inl (y : Int)), (7, .inl (H1.1 1839 ((48 * r) + y)))]) (st' := [.inl (H1.1 1826 53), .inr (.inr 1826)]) rfl ?_
        refine h_run 2 (pc' := 133) (l' := [(0, .inr (.inr 1826)), (1, .inr (.inr c)), (2, .inl (N : Int)), (3, .inl (p : Int)), (5, .inl (r : Int)), (6, .inl (y : Int)), (7, .inl (H1.1 1839 ((48 * r) + y)))]) (st' := [.inl ((H1.1 1826 53) + 1), .inr (.inr 1826)]) rfl ?_
        refine h_puti (i := 437) (ci := 13) (k := 53) (a := 1826) (x := ((H1.1 1826 53) + 1)) rfl rfl rfl rfl rfl rfl (by decide) (by omega) ?_
        refine h_run 2 (pc' := 50) (l' := [(0, .inr (.inr 1826)), (1, .inr (.inr c)), (2, .inl (N : Int)), (3, .inl (p : Int)), (5, .inl (r : Int)), (6, .inl ((y : Int) + 1)), (7, .inl (H1.1 1839 ((48 * r) + y)))]) (st' := []) rfl ?_
        refine h_loc [0, 1, 2, 3, 5, 6] rfl ?_
        rw [show ((y : Int) + 1) = (((y + 1) : Nat) : Int) by omega]
        exact ih _ (y + 1) (cur + 1) (kr) (fr_o (fr_a hf (by decide)) (by decide)) (by omega) hrs (by omega) (by omega : ((H1.1 1826 53) + 1) = (((cur + 1) : Nat) : Int) ∧ (cur + 1) ≤ 240 + 240 * (y + 1)) (by show MK (up (H1.1 1856) ((H1.1 1826 53)).toNat ((H1.1 1839) (48 * r + y))) (cur + 1) _; rw [show ((H1.1 1826 53)).toNat = cur by omega, mid_c (by omega)]; exact MK_one hmk (fun x hx => up_ne _ _ (by omega)) (by rw [up_eq]; omega)) (by omega) (by omega : (kr) - (y + 1) < w)
      · refine h_run 5 (pc' := 95) (l' := [(0, .inr (.inr 1826)), (1, .inr (.inr c)), (2, .inl (N : Int)), (3, .inl (p : Int)), (5, .inl (r : Int)), (6, .inl (y : Int)), (7, .inl (H1.1 1839 ((48 * r) + y)))]) (st' := [.inl ((H1.1 1839 ((48 * r) + y)) - 1000), .inr (.inr 1855)]) rfl ?_
        refine h_ild (c := 1855) (j := (((H1.1 1839 ((48 * r) + y)) - 1000)).toNat) (i := ((H1.1 1839 ((48 * r) + y)) - 1000)) rfl rfl (by decide) (by omega) (by omega) ?_
        have g14 : -2147483648 ≤ (H1.1 1855 (((H1.1 1839 ((48 * r) + y)) - 1000)).toNat) ∧ (H1.1 1855 (((H1.1 1839 ((48 * r) + y)) - 1000)).toNat) ≤ 2147483647 := hrg1.2 1855 (((H1.1 1839 ((48 * r) + y)) - 1000)).toNat 48 .int rfl (by omega)
        have e15 : (H1.1 1855 (((H1.1 1839 ((48 * r) + y)) - 1000)).toNat) = (H.1 1855 (((H1.1 1839 ((48 * r) + y)) - 1000)).toNat) := congrFun (hf.2.1 1855 (by decide) (by decide)) (((H1.1 1839 ((48 * r) + y)) - 1000)).toNat
        refine h_run 0 (pc' := 96) (l' := [(0, .inr (.inr 1826)), (1, .inr (.inr c)), (2, .inl (N : Int)), (3, .inl (p : Int)), (5, .inl (r : Int)), (6, .inl (y : Int)), (7, .inl (H1.1 1839 ((48 * r) + y)))]) (st' := [.inl (H1.1 1855 (((H1.1 1839 ((48 * r) + y)) - 1000)).toNat)]) rfl ?_
        refine h_run 1 (pc' := 98) (l' := [(0, .inr (.inr 1826)), (1, .inr (.inr c)), (2, .inl (N : Int)), (3, .inl (p : Int)), (5, .inl (r : Int)), (6, .inl (y : Int)), (7, .inl (H1.1 1839 ((48 * r) + y))), (8, .inl (H1.1 1855 (((H1.1 1839 ((48 * r) + y)) - 1000)).toNat))]) (st' := []) rfl ?_
        obtain ⟨hb1, hb2⟩ := (id hfi : _ → _) hh0
        obtain ⟨-, hr0, hr1, hr2⟩ : h = 0 ∧ r < ((H.1 1826 13)).toNat ∧ X (4 * r + 100) 1 = g p ∧ MU (ma (H.1 1833) (H.1 1830)) (LL X r) g (p + 1) (kL X r) := (id hhw : _ ∨ _).resolve_right (by omega)
        have hRW := RW9r_of hX hP (r := r) (by omega)
        have hv9 : ∃ j, j < kL X r ∧ LL X r j = 1000 + ((X (4 * r + 101) (y + 1) - 1000).toNat : Int) := by obtain ⟨f, kl, kr9, q9, -, ⟨f1, -⟩, ⟨f3, -⟩, -, -, -, f7⟩ := id hRW; have e1 : kL X r = kl := (by unfold kL; rw [f1]; omega); obtain ⟨j, j1, j2⟩ := f7 y (by omega) (by omega); exact ⟨j, by omega, by rw [j2]; omega⟩
        obtain ⟨kb, b4, b3, hkb⟩ := bF_tm hRW hr1 hTp (by omega) (fun s9 h9 => ma_0 (Or.inl h9)) hr2 hv9
        have hbe := hb2 _ hv9
        obtain ⟨b, ebF⟩ : ∃ b : Nat, bF (ma (H.1 1833) (H.1 1830)) (LL X r) g (p + 1) (kL X r) (X (4 * r + 101) (y + 1) - 1000).toNat = b := ⟨_, rfl⟩
        rw [ebF] at b4 b3 hbe
        have eb : (H1.1 1855) ((H1.1 1839) (48 * r + y) - 1000).toNat = b := by rw [eBA, ep, hxr]; exact hbe
        rw [show (H1.1 1855 (((H1.1 1839 ((48 * r) + y)) - 1000)).toNat) = (b : Int) by omega]
        refine h_run 6 (pc' := 106) (l' := [(0, .inr (.inr 1826)), (1, .inr (.inr c)), (2, .inl (N : Int)), (3, .inl (p : Int)), (5, .inl (r : Int)), (6, .inl (y : Int)), (7, .inl (H1.1 1839 ((48 * r) + y))), (8, .inl (b : Int))]) (st' := [.inl (b : Int), .inr (.inr c), .inr (.inr 1826), .inl (b : Int), .inr (.inr c), .inr (.inr 1826)]) rfl ?_
        refine h_cv (i := 427) (j := 155) (b := 1826) (M' := mt_155) (xs := [.inl (b : Int), .inr (.inr c)]) (rest := [.inl (b : Int), .inr (.inr c), .inr (.inr 1826)]) rfl rfl rfl rfl rfl rfl (Nat.le_of_ble_eq_true rfl) (Nat.le_of_ble_eq_true rfl) (by omega) (m_behind (by omega) (n := n) (a := b) (k := kb) hc hn (by rw [eC, eFA, eCA]; exact tm_at (tm_sg0 b4 (fun s9 h9 => by unfold m_sg at h9; unfold sg0; omega)) (fun x hx => hA _ (by omega))) (by omega)) ?_
        rintro _ _ ⟨rfl, rfl⟩
        refine h_run 0 (pc' := 109) (l' := [(0, .inr (.inr 1826)), (1, .inr (.inr c)), (2, .inl (N : Int)), (3, .inl (p : Int)), (5, .inl (r : Int)), (6, .inl (y : Int)), (7, .inl (H1.1 1839 ((48 * r) + y))), (8, .inl (b : Int))]) (st' := [.inl ((b + kb : Nat) : Int), .inl (b : Int), .inr (.inr c), .inr (.inr 1826)]) rfl ?_
        have g16 : -2147483648 ≤ (H1.1 1826 53) ∧ (H1.1 1826 53) ≤ 2147483647 := hrg1.1 1826 13 53 _ .int rfl rfl
        refine h_cv (i := 440) (j := 198) (b := 1826) (M' := mt_198) (xs := [.inl ((b + kb : Nat) : Int), .inl (b : Int), .inr (.inr c)]) (rest := []) rfl rfl rfl rfl rfl rfl (Nat.le_of_ble_eq_true rfl) (Nat.le_of_ble_eq_true rfl) (by omega) (m_copy (by omega) (n := n) (a := b) (e := (b + kb)) (ms := cur) hc hn hcm (by omega) (by omega : (H1.1 1826 53) = ((cur : Nat) : Int) ∧ cur + ((b + kb) - b) ≤ 12000)) ?_
        rintro _ H17 ⟨rfl, hx17f, hx17z, hx17k, hx17c⟩
        refine h_rng (fun hrg18 => ?_)
        have hf19 : fr [53] [1856] H H17 := fr_t hf hx17f (by decide) (by decide)
        refine h_run 0 (pc' := 112) (l' := [(0, .inr (.inr 1826)), (1, .inr (.inr c)), (2, .inl (N : Int)), (3, .inl (p : Int)), (5, .inl (r : Int)), (6, .inl (y : Int)), (7, .inl (H1.1 1839 ((48 * r) + y))), (8, .inl (b : Int))]) (st' := []) rfl ?_
        refine h_run 3 (pc' := 50) (l' := [(0, .inr (.inr 1826)), (1, .inr (.inr c)), (2, .inl (N : Int)), (3, .inl (p : Int)), (5, .inl (r : Int)), (6, .inl ((y : Int) + 1)), (7, .inl (H1.1 1839 ((48 * r) + y))), (8, .inl (b : Int))]) (st' := []) rfl ?_
        have g20 : -2147483648 ≤ (H17.1 1826 53) ∧ (H17.1 1826 53) ≤ 2147483647 := hrg18.1 1826 13 53 _ .int rfl rfl
        refine h_loc [0, 1, 2, 3, 5, 6] rfl ?_
        rw [show ((y : Int) + 1) = (((y + 1) : Nat) : Int) by omega]
        exact ih _ (y + 1) (cur + (b + kb - b)) (kr) hf19 (by omega) hrs (by omega) (by omega : (H17.1 1826 53) = (((cur + (b + kb - b)) : Nat) : Int) ∧ (cur + (b + kb - b)) ≤ 240 + 240 * (y + 1)) (by rw [mid_v (b := b) (kb := kb) (by omega) ebF (bh_tm b4 (by omega))]; exact MK_app hmk (fun x hx => hx17k x hx) (fun x hx => by rw [hx17c x (by omega), eC]; exact hA _ (by omega))) (by omega) (by omega : (kr) - (y + 1) < w)
set_option maxRecDepth 100000 in
theorem n_makeDone {zC : Nat → Option zsh} {d : Nat} (hd : 3 ≤ d) {H : hp} {c n N p k r : Nat} {h : Int} {X : rx} {g : Nat → Int} (hc : zs zC c = some (.inr (.int, n))) (hn : n ≤ 100000) (hcm : c ≠ 1826 ∧ c ∉ [1856]) (hP : PWc H) (hX : RZ9 H X) (hT : tm (ma (H.1 1833) (H.1 1830)) (m_sg (H.1 1826 3) (H.1 1826 8) 0) g N 0 1) (hTp : tm (ma (H.1 1833) (H.1 1830)) (m_sg (H.1 1826 3) (H.1 1826 8) 0) g k p 1) (hN : p + k ≤ N ∧ N ≤ n ∧ N ≤ 240) (hA : ∀ x, x < N → H.1 c x = g x) (hh : h = 0 ∨ h = 1) (hhw : hid (HW (ma (H.1 1833) (H.1 1830)) X g p ((H.1 1826 13)).toNat h r)) (hfi : hid (h = 0 → (H.1 1826 51) = (r : Int) ∧ BV (ma (H.1 1833) (H.1 1830)) (LL X r) g (p + 1) (kL X r) (H.1 1855))) : hG (zs zC) d mt_199 0 (zargs 0 [.inr (.inr 1826), .inr (.inr c), .inl (N : Int), .inl (p : Int), .inl h]) [] H (fun r9 H2 => r9 = none ∧ fr [53] [1856] H H2 ∧ ∃ M : Nat, (H2.1 1826 53) = M ∧ M ≤ 12000 ∧ MK (H2.1 1856) M (mkL (ma (H.1 1833) (H.1 1830)) X g N p h r)) := by
  refine h_rng (fun hrg0 => ?_)
  refine h_run 0 (pc' := 0) (l' := [(0, .inr (.inr 1826)), (1, .inr (.inr c)), (2, .inl (N : Int)), (3, .inl (p : Int)), (4, .inl h)]) (st' := []) rfl ?_
  obtain ⟨⟨pb1, pb2, pb3, pb4, pb5⟩, pw1, pw2, pw3, pw4⟩ := (id hP : PW H (H.1 1826 1) (H.1 1826 3) (H.1 1826 8) (H.1 1826 13) (H.1 1826 19))
  have hkp : 1 ≤ k := tm_le hTp
  refine h_run 2 (pc' := 2) (l' := [(0, .inr (.inr 1826)), (1, .inr (.inr c)), (2, .inl (N : Int)), (3, .inl (p : Int)), (4, .inl h)]) (st' := [.inl 0, .inr (.inr 1826)]) rfl ?_
  refine h_puti (i := 437) (ci := 13) (k := 53) (a := 1826) (x := 0) rfl rfl rfl rfl rfl rfl (by decide) (by decide) ?_
  refine h_run 4 (pc' := 9) (l' := [(0, .inr (.inr 1826)), (1, .inr (.inr c)), (2, .inl (N : Int)), (3, .inl (p : Int)), (4, .inl h)]) (st' := [.inl (p : Int), .inl 0, .inr (.inr c), .inr (.inr 1826)]) rfl ?_
  refine h_cv (i := 440) (j := 198) (b := 1826) (M' := mt_198) (xs := [.inl (p : Int), .inl 0, .inr (.inr c)]) (rest := []) rfl rfl rfl rfl rfl rfl (Nat.le_of_ble_eq_true rfl) (Nat.le_of_ble_eq_true rfl) (by omega) (m_copy (by omega) (n := n) (a := 0) (e := p) (ms := 0) hc hn hcm (by omega) (by omega : (0 : Int) = ((0 : Nat) : Int) ∧ 0 + (p - 0) ≤ 12000)) ?_
  rintro _ H21 ⟨rfl, hx21f, hx21z, hx21k, hx21c⟩
  refine h_rng (fun hrg22 => ?_)
  have hf23 : fr [53] [1856] H H21 := fr_t (fr_o (fr_rf _ _ _) (by decide)) hx21f (by decide) (by decide)
  refine h_run 0 (pc' := 12) (l' := [(0, .inr (.inr 1826)), (1, .inr (.inr c)), (2, .inl (N : Int)), (3, .inl (p : Int)), (4, .inl h)]) (st' := []) rfl ?_
  refine h_run 2 (pc' := 15) (l' := [(0, .inr (.inr 1826)), (1, .inr (.inr c)), (2, .inl (N : Int)), (3, .inl (p : Int)), (4, .inl h)]) (st' := [.inl 1, .inl h]) rfl ?_
  refine h_ine (off := 26) (t := 41) rfl rfl (by omega) (by decide) (fun c24 => ?_) (fun c24 => ?_)
  · refine h_run 2 (pc' := 45) (l' := [(0, .inr (.inr 1826)), (1, .inr (.inr c)), (2, .inl (N : Int)), (3, .inl (p : Int)), (4, .inl h)]) (st' := [.inl (H21.1 1826 51)]) rfl ?_
    have g25 : -2147483648 ≤ (H21.1 1826 51) ∧ (H21.1 1826 51) ≤ 2147483647 := hrg22.1 1826 13 51 _ .int rfl rfl
    have e26 : (H21.1 1826 51) = (H.1 1826 51) := hx21f.2.2 51 (by decide)
    refine h_run 1 (pc' := 47) (l' := [(0, .inr (.inr 1826)), (1, .inr (.inr c)), (2, .inl (N : Int)), (3, .inl (p : Int)), (4, .inl h), (5, .inl (H21.1 1826 51))]) (st' := []) rfl ?_
    obtain ⟨hb1, hb2⟩ := (id hfi : _ → _) (by omega)
    obtain ⟨-, hr0, hr1, hr2⟩ : h = 0 ∧ r < ((H.1 1826 13)).toNat ∧ X (4 * r + 100) 1 = g p ∧ MU (ma (H.1 1833) (H.1 1830)) (LL X r) g (p + 1) (kL X r) := (id hhw : _ ∨ _).resolve_right (by omega)
    have e51 : (H21.1 1826 51) = (H.1 1826 51) := hx21f.2.2 51 (by decide)
    rw [show (H21.1 1826 51) = (r : Int) by omega]
    obtain ⟨f, kl9, kr, q, -, -, ⟨hrs, hkr⟩, -, -, -, -⟩ := pw3 r (by omega)
    have hmk0 : MK (H21.1 1856) p (sl g 0 p ++ midL (ma (H.1 1833) (H.1 1830)) X g p r 0) := by have h9 := MK_app (g := g) (e := p) (a := 0) (m' := (H21.1 1856)) (MK_0 (m := (H.1 1856))) (fun x hx => absurd hx (Nat.not_lt_zero _)) (fun x hx => by rw [hx21c x (by omega), zu_ne (k := c) _ _ hcm.1]; exact hA _ (by omega)); rw [Nat.zero_add, Nat.sub_zero, List.nil_append] at h9; exact (List.append_nil (sl g 0 p)).symm ▸ h9
    refine h_run 2 (pc' := 50) (l' := [(0, .inr (.inr 1826)), (1, .inr (.inr c)), (2, .inl (N : Int)), (3, .inl (p : Int)), (4, .inl h), (5, .inl (r : Int)), (6, .inl 0)]) (st' := []) rfl ?_
    have g27 : -2147483648 ≤ (H21.1 1826 53) ∧ (H21.1 1826 53) ≤ 2147483647 := hrg22.1 1826 13 53 _ .int rfl rfl
    refine h_loc [0, 1, 2, 3, 5, 6] rfl ?_
    exact (n_makeDone_cut hd hc hn hcm hP hX hT hTp hN hA hh hhw hfi _) _ 0 (p) (kr) hf23 (by omega) hrs (by omega) (by omega : (H21.1 1826 53) = (((p) : Nat) : Int) ∧ (p) ≤ 240 + 240 * 0) hmk0 (by omega) (Nat.lt_succ_self _)
  · refine h_run 4 (pc' := 26) (l' := [(0, .inr (.inr 1826)), (1, .inr (.inr c)), (2, .inl (N : Int)), (3, .inl (p : Int)), (4, .inl h)]) (st' := [.inl (H21.1 1826 53), .inr (.inr 1856)]) rfl ?_
    have g28 : -2147483648 ≤ (H21.1 1826 53) ∧ (H21.1 1826 53) ≤ 2147483647 := hrg22.1 1826 13 53 _ .int rfl rfl
    refine h_run 1 (pc' := 27) (l' := [(0, .inr (.inr 1826)), (1, .inr (.inr c)), (2, .inl (N : Int)), (3, .inl (p : Int)), (4, .inl h)]) (st' := [.inl 0, .inl (H21.1 1826 53), .inr (.inr 1856)]) rfl ?_
    refine h_ist (c := 1856) (j := ((H21.1 1826 53)).toNat) (i := (H21.1 1826 53)) (x := 0) rfl rfl (by decide) (by decide) (by omega) (by omega) (by decide) ?_
    refine h_run 3 (pc' := 33) (l' := [(0, .inr (.inr 1826)), (1, .inr (.inr c)), (2, .inl (N : Int)), (3, .inl (p : Int)), (4, .inl h)]) (st' := [.inl (H21.1 1826 53), .inr (.inr 1826)]) rfl ?_
    refine h_run 2 (pc' := 35) (l' := [(0, .inr (.inr 1826)), (1, .inr (.inr c)), (2, .inl (N : Int)), (3, .inl (p : Int)), (4, .inl h)]) (st' := [.inl ((H21.1 1826 53) + 1), .inr (.inr 1826)]) rfl ?_
    refine h_puti (i := 437) (ci := 13) (k := 53) (a := 1826) (x := ((H21.1 1826 53) + 1)) rfl rfl rfl rfl rfl rfl (by decide) (by omega) ?_
    refine h_run 6 (pc' := 147) (l' := [(0, .inr (.inr 1826)), (1, .inr (.inr c)), (2, .inl (N : Int)), (3, .inl (p : Int)), (4, .inl h)]) (st' := [.inl (p : Int), .inr (.inr c), .inr (.inr 1826), .inr (.inr c), .inr (.inr 1826)]) rfl ?_
    refine h_cv (i := 427) (j := 155) (b := 1826) (M' := mt_155) (xs := [.inl (p : Int), .inr (.inr c)]) (rest := [.inr (.inr c), .inr (.inr 1826)]) rfl rfl rfl rfl rfl rfl (Nat.le_of_ble_eq_true rfl) (Nat.le_of_ble_eq_true rfl) (by omega) (m_behind (by omega) (n := n) (a := p) (k := k) hc hn (by show tm (ma (H21.1 1833) (H21.1 1830)) sg0 ((zu (zu H21 1856 _) 1826 _).1 c) k p 1; rw [zu_ne (k := c) _ _ hcm.1, zu_ne (k := c) _ _ (fun e9 => hcm.2 (by rw [e9]; decide)), show H21.1 c = H.1 c from hf23.2.1 c hcm.1 hcm.2, show (H21.1 1833) = (H.1 1833) from hf23.2.1 1833 (by decide) (by decide), show (H21.1 1830) = (H.1 1830) from hf23.2.1 1830 (by decide) (by decide)]; exact tm_at (tm_sg0 hTp (fun s9 h9 => by unfold m_sg at h9; unfold sg0; omega)) (fun x hx => hA _ (by omega))) (by omega)) ?_
    rintro _ _ ⟨rfl, rfl⟩
    refine h_run 0 (pc' := 150) (l' := [(0, .inr (.inr 1826)), (1, .inr (.inr c)), (2, .inl (N : Int)), (3, .inl (p : Int)), (4, .inl h)]) (st' := [.inl ((p + k : Nat) : Int), .inr (.inr c), .inr (.inr 1826)]) rfl ?_
    refine h_run 1 (pc' := 151) (l' := [(0, .inr (.inr 1826)), (1, .inr (.inr c)), (2, .inl (N : Int)), (3, .inl (p : Int)), (4, .inl h)]) (st' := [.inl (N : Int), .inl ((p + k : Nat) : Int), .inr (.inr c), .inr (.inr 1826)]) rfl ?_
    refine h_cv (i := 440) (j := 198) (b := 1826) (M' := mt_198) (xs := [.inl (N : Int), .inl ((p + k : Nat) : Int), .inr (.inr c)]) (rest := []) rfl rfl rfl rfl rfl rfl (Nat.le_of_ble_eq_true rfl) (Nat.le_of_ble_eq_true rfl) (by omega) (m_copy (by omega) (n := n) (a := (p + k)) (e := N) (ms := (p + 1)) hc hn hcm (by omega) (by omega : ((H21.1 1826 53) + 1) = (((p + 1) : Nat) : Int) ∧ (p + 1) + (N - (p + k)) ≤ 12000)) ?_
    rintro _ H29 ⟨rfl, hx29f, hx29z, hx29k, hx29c⟩
    refine h_rng (fun hrg30 => ?_)
    have hf31 : fr [53] [1856] H H29 := fr_t (fr_o (fr_a hf23 (by decide)) (by decide)) hx29f (by decide) (by decide)
    refine h_run 0 (pc' := 154) (l' := [(0, .inr (.inr 1826)), (1, .inr (.inr c)), (2, .inl (N : Int)), (3, .inl (p : Int)), (4, .inl h)]) (st' := []) rfl ?_
    refine h_ret rfl rfl ?_
    have g32 : -2147483648 ≤ (H29.1 1826 53) ∧ (H29.1 1826 53) ≤ 2147483647 := hrg30.1 1826 13 53 _ .int rfl rfl
    refine ⟨rfl, hf31, p + 1 + (N - (p + k)), (by omega : (H29.1 1826 53) = ((p + 1 + (N - (p + k)) : Nat) : Int)), by omega, ?_⟩
    rw [mkL_1 (e := p + k) (by omega) (bh_tm hTp (by omega))]
    have hq1 : MK (H21.1 1856) p (sl g 0 p) := by have h9 := MK_app (g := g) (e := p) (a := 0) (m' := (H21.1 1856)) (MK_0 (m := (H.1 1856))) (fun x hx => absurd hx (Nat.not_lt_zero _)) (fun x hx => by rw [hx21c x (by omega), zu_ne (k := c) _ _ hcm.1]; exact hA _ (by omega)); rw [Nat.zero_add, Nat.sub_zero, List.nil_append] at h9; exact h9
    have hme : ((H21.1 1826 53)).toNat = p := by omega
    have hq2 : MK (up (H21.1 1856) p 0) (p + 1) (sl g 0 p ++ [0]) := MK_one hq1 (fun x hx => up_ne _ _ (by omega)) (up_eq _ _ _)
    exact MK_app hq2 (fun x hx => (hx29k x hx).trans (by show up (H21.1 1856) ((H21.1 1826 53)).toNat 0 x = _; rw [hme])) (fun x hx => by rw [hx29c x (by omega)]; show (zu (zu H21 1856 _) 1826 _).1 c (p + k + x) = _; rw [zu_ne (k := c) _ _ hcm.1, zu_ne (k := c) _ _ (fun e9 => hcm.2 (by rw [e9]; decide)), show H21.1 c = H.1 c from (hx21f.2.1 c hcm.1 hcm.2).trans (zu_ne (k := c) _ _ hcm.1)]; exact hA _ (by omega))
