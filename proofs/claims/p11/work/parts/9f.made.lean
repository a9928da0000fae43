/-! the reference: the other side is put in -/
/-! isMade -/
set_option maxRecDepth 100000 in
theorem m_isMade_cut {zC : Nat → Option zsh} {d : Nat} (hd : 3 ≤ d) {H : hp} {c n p ln i N k : Nat} {ba : Int} {okp : Int → Prop} (hc : zs zC c = some (.inr (.int, n))) (hn : n ≤ 100000) (hcm : c ≠ 1826 ∧ c ∉ [1856]) (hP : PWc H) (hT : tm (ma (H.1 1833) (H.1 1830)) (m_sg (H.1 1826 3) (H.1 1826 8) 60) (H.1 1884) N 0 1) (hN : N ≤ 60 ∧ (H.1 1826 93) = N) (hTi : tm (ma (H.1 1833) (H.1 1830)) (m_sg (H.1 1826 3) (H.1 1826 8) 60) (H.1 1884) k i 1) (hik : i + k ≤ N) (hpat : tm (ma (H.1 1833) (H.1 1830)) okp (H.1 c) ln p 1) (hpn : p + ln ≤ n ∧ ln ≤ 60) (hba : ba = 1000 ∨ ba = 2000) (hokp : ∀ s, okp s → (s < ba ∧ (m_sg (H.1 1826 3) (H.1 1826 8) 60) s) ∨ (ba ≤ s ∧ s < ba + 60)) (hfre : fre (ma (H.1 1833) (H.1 1830)) (m_sg (H.1 1826 3) (H.1 1826 8) 60) (H.1 1884) (H.1 1886) N) : ∀ w : Nat, (∀ (H1 : hp) (z : Nat) (cur : Nat) (mm : Nat) (m0 : Nat), (fr [53] [1856] H H1) → (p ≤ z ∧ z ≤ p + ln) → ((H1.1 1826 53) = ((cur : Nat) : Int) ∧ cur ≤ 60 + 60 * (z - p)) → (tm (ma (H.1 1833) (H.1 1830)) okp (H.1 c) (p + ln - z) z mm) → (tp (ma (H.1 1833) (H.1 1830)) (m_sg (H.1 1826 3) (H.1 1826 8) 60) (H1.1 1856) cur 0 1 (m0 + mm)) → (tm (ma (H.1 1833) (H.1 1830)) (m_sg (H.1 1826 3) (H.1 1826 8) 60) (H.1 1884) (N - i - k) (i + k) m0) → p + ln - z < w → hG (zs zC) d mt_242 19 [(0, .inr (.inr 1826)), (1, .inr (.inr c)), (2, .inl (p : Int)), (3, .inl (ln : Int)), (4, .inl ba), (5, .inl (i : Int)), (6, .inl (z : Int))] [] H1 (fun r9 H2 => (r9 = some (.inl 0) ∨ (r9 = some (.inl 1) ∧ ∃ M : Nat, (H2.1 1826 53) = M ∧ M ≤ 12000 ∧ tm (ma (H.1 1833) (H.1 1830)) (m_sg (H.1 1826 3) (H.1 1826 8) 60) (H2.1 1856) M 0 1)) ∧ fr [53] [1856] H H2)) := by
  intro w
  induction w with
  | zero => exact fun _ _ _ _ _ _ _ _ _ _ _ h => absurd h (Nat.not_lt_zero _)
  | succ w ih =>
    intro H1 z cur mm m0 hf hz2 hz hp2 hmd hrest hw
    refine h_rng (fun hrg1 => ?_)
    obtain ⟨⟨pb1, pb2, pb3, pb4, pb5⟩, pw1, pw2, pw3, pw4⟩ := (id hP : PW H (H.1 1826 1) (H.1 1826 3) (H.1 1826 8) (H.1 1826 13) (H.1 1826 19))
    have e_funArity : (H1.1 1833) = (H.1 1833) := hf.2.1 1833 (by decide) (by decide)
    have e_conArity : (H1.1 1830) = (H.1 1830) := hf.2.1 1830 (by decide) (by decide)
    have e_now : (H1.1 1884) = (H.1 1884) := hf.2.1 1884 (by decide) (by decide)
    have e_freeAt : (H1.1 1886) = (H.1 1886) := hf.2.1 1886 (by decide) (by decide)
    have eC : H1.1 c = H.1 c := hf.2.1 c hcm.1 hcm.2
    have f_ns : (H1.1 1826 93) = (H.1 1826 93) := hf.2.2 93 (by decide)
    refine h_run 4 (pc' := 24) (l' := [(0, .inr (.inr 1826)), (1, .inr (.inr c)), (2, .inl (p : Int)), (3, .inl (ln : Int)), (4, .inl ba), (5, .inl (i : Int)), (6, .inl (z : Int))]) (st' := [.inl ((p : Int) + (ln : Int)), .inl (z : Int)]) rfl ?_
    refine h_ige (off := 98) (t := 122) rfl rfl (by omega) (by omega) (fun c2 => ?_) (fun c2 => ?_)
    · refine h_run 7 (pc' := 134) (l' := [(0, .inr (.inr 1826)), (1, .inr (.inr c)), (2, .inl (p : Int)), (3, .inl (ln : Int)), (4, .inl ba), (5, .inl (i : Int)), (6, .inl (z : Int))]) (st' := [.inl (i : Int), .inr (.inr 1884), .inr (.inr 1826), .inr (.inr 1884), .inr (.inr 1826)]) rfl ?_
      refine h_cv (i := 427) (j := 155) (b := 1826) (M' := mt_155) (xs := [.inl (i : Int), .inr (.inr 1884)]) (rest := [.inr (.inr 1884), .inr (.inr 1826)]) rfl rfl rfl rfl rfl rfl (Nat.le_of_ble_eq_true rfl) (Nat.le_of_ble_eq_true rfl) (by omega) (m_behind (by omega) (n := 128) (a := i) (k := k) rfl (by decide) (by rw [e_funArity, e_conArity, e_now]; exact tm_sg0 hTi (fun s9 h9 => by unfold m_sg at h9; unfold sg0; omega)) (by omega)) ?_
      rintro _ _ ⟨rfl, rfl⟩
      refine h_run 0 (pc' := 137) (l' := [(0, .inr (.inr 1826)), (1, .inr (.inr c)), (2, .inl (p : Int)), (3, .inl (ln : Int)), (4, .inl ba), (5, .inl (i : Int)), (6, .inl (z : Int))]) (st' := [.inl ((i + k : Nat) : Int), .inr (.inr 1884), .inr (.inr 1826)]) rfl ?_
      refine h_run 2 (pc' := 141) (l' := [(0, .inr (.inr 1826)), (1, .inr (.inr c)), (2, .inl (p : Int)), (3, .inl (ln : Int)), (4, .inl ba), (5, .inl (i : Int)), (6, .inl (z : Int))]) (st' := [.inl (H1.1 1826 93), .inl ((i + k : Nat) : Int), .inr (.inr 1884), .inr (.inr 1826)]) rfl ?_
      have g3 : -2147483648 ≤ (H1.1 1826 93) ∧ (H1.1 1826 93) ≤ 2147483647 := hrg1.1 1826 13 93 _ .int rfl rfl
      have e4 : (H1.1 1826 93) = (H.1 1826 93) := hf.2.2 93 (by decide)
      rw [show (H1.1 1826 93) = (N : Int) by omega]
      have g5 : -2147483648 ≤ (H1.1 1826 53) ∧ (H1.1 1826 53) ≤ 2147483647 := hrg1.1 1826 13 53 _ .int rfl rfl
      refine h_cv (i := 440) (j := 198) (b := 1826) (M' := mt_198) (xs := [.inl (N : Int), .inl ((i + k : Nat) : Int), .inr (.inr 1884)]) (rest := []) rfl rfl rfl rfl rfl rfl (Nat.le_of_ble_eq_true rfl) (Nat.le_of_ble_eq_true rfl) (by omega) (m_copy (by omega) (n := 128) (a := (i + k)) (e := N) (ms := cur) rfl (by decide) (by decide) (by omega) (by omega : (H1.1 1826 53) = ((cur : Nat) : Int) ∧ cur + (N - (i + k)) ≤ 12000)) ?_
      rintro _ H6 ⟨rfl, hx6f, hx6z, hx6k, hx6c⟩
      refine h_rng (fun hrg7 => ?_)
      have hf8 : fr [53] [1856] H H6 := fr_t hf hx6f (by decide) (by decide)
      refine h_run 0 (pc' := 144) (l' := [(0, .inr (.inr 1826)), (1, .inr (.inr c)), (2, .inl (p : Int)), (3, .inl (ln : Int)), (4, .inl ba), (5, .inl (i : Int)), (6, .inl (z : Int))]) (st' := []) rfl ?_
      refine h_run 1 (pc' := 145) (l' := [(0, .inr (.inr 1826)), (1, .inr (.inr c)), (2, .inl (p : Int)), (3, .inl (ln : Int)), (4, .inl ba), (5, .inl (i : Int)), (6, .inl (z : Int))]) (st' := [.inl 1]) rfl ?_
      refine h_retz (x := 1) rfl rfl (by decide) ?_
      have g9 : -2147483648 ≤ (H6.1 1826 53) ∧ (H6.1 1826 53) ≤ 2147483647 := hrg7.1 1826 13 53 _ .int rfl rfl
      rw [show p + ln - z = 0 by omega] at hp2
      obtain rfl : mm = 0 := hp2
      refine ⟨Or.inr ⟨rfl, cur + (N - (i + k)), (by omega : (H6.1 1826 53) = ((cur + (N - (i + k)) : Nat) : Int)), by omega, ?_⟩, hf8⟩
      exact tp_tm (tp_app (tp_at hmd (fun x hx => hx6k x hx)) (tm_tp (by rw [Nat.zero_add, Nat.add_zero, show N - (i + k) = N - i - k by omega]; exact tm_at hrest (fun x hx => by rw [hx6c x (by omega), e_now]))))
    · obtain ⟨y2, hy2⟩ : ∃ y2, p + ln - z = y2 + 1 := ⟨p + ln - z - 1, by omega⟩
      rw [hy2] at hp2
      obtain ⟨hm0, hsp, qq, hqq, hq4, hp3⟩ := hp2
      have hp4 : tm (ma (H.1 1833) (H.1 1830)) okp (H.1 c) (p + ln - (z + 1)) (z + 1) (mm - 1 + qq) := by rw [show p + ln - (z + 1) = y2 by omega]; exact hp3
      have hspo := hokp _ hsp
      have hsp8 : H.1 c z < ba ∨ (ba ≤ H.1 c z ∧ H.1 c z < ba + 60) := by rcases hspo with h9 | h9; { exact Or.inl h9.1 }; { exact Or.inr h9 }
      refine h_run 2 (pc' := 30) (l' := [(0, .inr (.inr 1826)), (1, .inr (.inr c)), (2, .inl (p : Int)), (3, .inl (ln : Int)), (4, .inl ba), (5, .inl (i : Int)), (6, .inl (z : Int))]) (st' := [.inl (z : Int), .inr (.inr c)]) rfl ?_
      refine h_ild (c := c) (j := z) (i := (z : Int)) rfl hc (by omega) rfl (by omega) ?_
      have g10 : -2147483648 ≤ (H1.1 c z) ∧ (H1.1 c z) ≤ 2147483647 := hrg1.2 c z n .int hc (by omega)
      refine h_run 0 (pc' := 31) (l' := [(0, .inr (.inr 1826)), (1, .inr (.inr c)), (2, .inl (p : Int)), (3, .inl (ln : Int)), (4, .inl ba), (5, .inl (i : Int)), (6, .inl (z : Int))]) (st' := [.inl (H1.1 c z)]) rfl ?_
      refine h_run 1 (pc' := 33) (l' := [(0, .inr (.inr 1826)), (1, .inr (.inr c)), (2, .inl (p : Int)), (3, .inl (ln : Int)), (4, .inl ba), (5, .inl (i : Int)), (6, .inl (z : Int)), (7, .inl (H1.1 c z))]) (st' := []) rfl ?_
      have es : H1.1 c z = H.1 c z := by rw [eC]
      refine h_run 2 (pc' := 37) (l' := [(0, .inr (.inr 1826)), (1, .inr (.inr c)), (2, .inl (p : Int)), (3, .inl (ln : Int)), (4, .inl ba), (5, .inl (i : Int)), (6, .inl (z : Int)), (7, .inl (H1.1 c z))]) (st' := [.inl ba, .inl (H1.1 c z)]) rfl ?_
      refine h_ige (off := 27) (t := 64) rfl rfl (by omega) (by omega) (fun c11 => ?_) (fun c11 => ?_)
      · have hq0 : qq = 0 := by rw [ma_0 (by omega)] at hqq; omega
        refine h_run 5 (pc' := 73) (l' := [(0, .inr (.inr 1826)), (1, .inr (.inr c)), (2, .inl (p : Int)), (3, .inl (ln : Int)), (4, .inl ba), (5, .inl (i : Int)), (6, .inl (z : Int)), (7, .inl (H1.1 c z))]) (st' := [.inl ((H1.1 c z) - ba), .inr (.inr 1886)]) rfl ?_
        refine h_ild (c := 1886) (j := (((H1.1 c z) - ba)).toNat) (i := ((H1.1 c z) - ba)) rfl rfl (by decide) (by omega) (by omega) ?_
        have g12 : -2147483648 ≤ (H1.1 1886 (((H1.1 c z) - ba)).toNat) ∧ (H1.1 1886 (((H1.1 c z) - ba)).toNat) ≤ 2147483647 := hrg1.2 1886 (((H1.1 c z) - ba)).toNat 60 .int rfl (by omega)
        have e13 : (H1.1 1886 (((H1.1 c z) - ba)).toNat) = (H.1 1886 (((H1.1 c z) - ba)).toNat) := congrFun (hf.2.1 1886 (by decide) (by decide)) (((H1.1 c z) - ba)).toNat
        refine h_run 0 (pc' := 74) (l' := [(0, .inr (.inr 1826)), (1, .inr (.inr c)), (2, .inl (p : Int)), (3, .inl (ln : Int)), (4, .inl ba), (5, .inl (i : Int)), (6, .inl (z : Int)), (7, .inl (H1.1 c z))]) (st' := [.inl (H1.1 1886 (((H1.1 c z) - ba)).toNat)]) rfl ?_
        refine h_run 1 (pc' := 75) (l' := [(0, .inr (.inr 1826)), (1, .inr (.inr c)), (2, .inl (p : Int)), (3, .inl (ln : Int)), (4, .inl ba), (5, .inl (i : Int)), (6, .inl (z : Int)), (7, .inl (H1.1 c z))]) (st' := [.inl (-1), .inl (H1.1 1886 (((H1.1 c z) - ba)).toNat)]) rfl ?_
        refine h_ine (off := 5) (t := 80) rfl rfl (by omega) (by decide) (fun c14 => ?_) (fun c14 => ?_)
        · obtain ⟨b, kb, b1, b3, b4⟩ : ∃ b kb : Nat, (H1.1 1886) ((H1.1 c z) - ba).toNat = b ∧ b + kb ≤ N ∧ tm (ma (H.1 1833) (H.1 1830)) (m_sg (H.1 1826 3) (H.1 1826 8) 60) (H.1 1884) kb b 1 := by rcases hfre ((H1.1 c z) - ba).toNat (by omega) with h9 | h9; { rw [← e_freeAt] at h9; omega }; { rw [e_freeAt]; exact h9 }
          have hkb : 1 ≤ kb := tm_le b4
          refine h_run 8 (pc' := 94) (l' := [(0, .inr (.inr 1826)), (1, .inr (.inr c)), (2, .inl (p : Int)), (3, .inl (ln : Int)), (4, .inl ba), (5, .inl (i : Int)), (6, .inl (z : Int)), (7, .inl (H1.1 c z))]) (st' := [.inl ((H1.1 c z) - ba), .inr (.inr 1886), .inr (.inr 1884), .inr (.inr 1826)]) rfl ?_
          refine h_ild (c := 1886) (j := (((H1.1 c z) - ba)).toNat) (i := ((H1.1 c z) - ba)) rfl rfl (by decide) (by omega) (by omega) ?_
          refine h_run 0 (pc' := 95) (l' := [(0, .inr (.inr 1826)), (1, .inr (.inr c)), (2, .inl (p : Int)), (3, .inl (ln : Int)), (4, .inl ba), (5, .inl (i : Int)), (6, .inl (z : Int)), (7, .inl (H1.1 c z))]) (st' := [.inl (H1.1 1886 (((H1.1 c z) - ba)).toNat), .inr (.inr 1884), .inr (.inr 1826)]) rfl ?_
          rw [show (H1.1 1886 (((H1.1 c z) - ba)).toNat) = (b : Int) by omega]
          refine h_run 8 (pc' := 109) (l' := [(0, .inr (.inr 1826)), (1, .inr (.inr c)), (2, .inl (p : Int)), (3, .inl (ln : Int)), (4, .inl ba), (5, .inl (i : Int)), (6, .inl (z : Int)), (7, .inl (H1.1 c z))]) (st' := [.inl ((H1.1 c z) - ba), .inr (.inr 1886), .inr (.inr 1884), .inr (.inr 1826), .inl (b : Int), .inr (.inr 1884), .inr (.inr 1826)]) rfl ?_
          refine h_ild (c := 1886) (j := (((H1.1 c z) - ba)).toNat) (i := ((H1.1 c z) - ba)) rfl rfl (by decide) (by omega) (by omega) ?_
          refine h_run 0 (pc' := 110) (l' := [(0, .inr (.inr 1826)), (1, .inr (.inr c)), (2, .inl (p : Int)), (3, .inl (ln : Int)), (4, .inl ba), (5, .inl (i : Int)), (6, .inl (z : Int)), (7, .inl (H1.1 c z))]) (st' := [.inl (H1.1 1886 (((H1.1 c z) - ba)).toNat), .inr (.inr 1884), .inr (.inr 1826), .inl (b : Int), .inr (.inr 1884), .inr (.inr 1826)]) rfl ?_
          rw [show (H1.1 1886 (((H1.1 c z) - ba)).toNat) = (b : Int) by omega]
          refine h_cv (i := 427) (j := 155) (b := 1826) (M' := mt_155) (xs := [.inl (b : Int), .inr (.inr 1884)]) (rest := [.inl (b : Int), .inr (.inr 1884), .inr (.inr 1826)]) rfl rfl rfl rfl rfl rfl (Nat.le_of_ble_eq_true rfl) (Nat.le_of_ble_eq_true rfl) (by omega) (m_behind (by omega) (n := 128) (a := b) (k := kb) rfl (by decide) (by rw [e_funArity, e_conArity, e_now]; exact tm_sg0 b4 (fun s9 h9 => by unfold m_sg at h9; unfold sg0; omega)) (by omega)) ?_
          rintro _ _ ⟨rfl, rfl⟩
          refine h_run 0 (pc' := 113) (l' := [(0, .inr (.inr 1826)), (1, .inr (.inr c)), (2, .inl (p : Int)), (3, .inl (ln : Int)), (4, .inl ba), (5, .inl (i : Int)), (6, .inl (z : Int)), (7, .inl (H1.1 c z))]) (st' := [.inl ((b + kb : Nat) : Int), .inl (b : Int), .inr (.inr 1884), .inr (.inr 1826)]) rfl ?_
          have g15 : -2147483648 ≤ (H1.1 1826 53) ∧ (H1.1 1826 53) ≤ 2147483647 := hrg1.1 1826 13 53 _ .int rfl rfl
          refine h_cv (i := 440) (j := 198) (b := 1826) (M' := mt_198) (xs := [.inl ((b + kb : Nat) : Int), .inl (b : Int), .inr (.inr 1884)]) (rest := []) rfl rfl rfl rfl rfl rfl (Nat.le_of_ble_eq_true rfl) (Nat.le_of_ble_eq_true rfl) (by omega) (m_copy (by omega) (n := 128) (a := b) (e := (b + kb)) (ms := cur) rfl (by decide) (by decide) (by omega) (by omega : (H1.1 1826 53) = ((cur : Nat) : Int) ∧ cur + ((b + kb) - b) ≤ 12000)) ?_
          rintro _ H16 ⟨rfl, hx16f, hx16z, hx16k, hx16c⟩
          refine h_rng (fun hrg17 => ?_)
          have hf18 : fr [53] [1856] H H16 := fr_t hf hx16f (by decide) (by decide)
          refine h_run 0 (pc' := 116) (l' := [(0, .inr (.inr 1826)), (1, .inr (.inr c)), (2, .inl (p : Int)), (3, .inl (ln : Int)), (4, .inl ba), (5, .inl (i : Int)), (6, .inl (z : Int)), (7, .inl (H1.1 c z))]) (st' := []) rfl ?_
          refine h_run 2 (pc' := 19) (l' := [(0, .inr (.inr 1826)), (1, .inr (.inr c)), (2, .inl (p : Int)), (3, .inl (ln : Int)), (4, .inl ba), (5, .inl (i : Int)), (6, .inl ((z : Int) + 1)), (7, .inl (H1.1 c z))]) (st' := []) rfl ?_
          have g19 : -2147483648 ≤ (H16.1 1826 53) ∧ (H16.1 1826 53) ≤ 2147483647 := hrg17.1 1826 13 53 _ .int rfl rfl
          refine h_loc [0, 1, 2, 3, 4, 5, 6] rfl ?_
          rw [show ((z : Int) + 1) = (((z + 1) : Nat) : Int) by omega]
          exact ih _ (z + 1) (cur + (b + kb - b)) (mm - 1 + qq) (m0) hf18 (by omega) (by omega : (H16.1 1826 53) = (((cur + (b + kb - b)) : Nat) : Int) ∧ (cur + (b + kb - b)) ≤ 60 + 60 * ((z + 1) - p)) hp4 (by rw [show cur + (b + kb - b) = cur + kb by omega, show m0 + (mm - 1 + qq) = m0 + (mm - 1) by omega]; refine tp_term (tp_at (b := (H16.1 1856)) (by rw [show m0 + (mm - 1) + 1 = m0 + mm by omega]; exact hmd) (fun x hx => hx16k x hx)) ?_; rw [Nat.zero_add]; exact tm_at b4 (fun x hx => by rw [hx16c x (by omega), e_now])) hrest (by omega : p + ln - (z + 1) < w)
        · refine h_run 1 (pc' := 79) (l' := [(0, .inr (.inr 1826)), (1, .inr (.inr c)), (2, .inl (p : Int)), (3, .inl (ln : Int)), (4, .inl ba), (5, .inl (i : Int)), (6, .inl (z : Int)), (7, .inl (H1.1 c z))]) (st' := [.inl 0]) rfl ?_
          refine h_retz (x := 0) rfl rfl (by decide) ?_
          exact ⟨Or.inl rfl, hf⟩
      · refine h_run 4 (pc' := 48) (l' := [(0, .inr (.inr 1826)), (1, .inr (.inr c)), (2, .inl (p : Int)), (3, .inl (ln : Int)), (4, .inl ba), (5, .inl (i : Int)), (6, .inl (z : Int)), (7, .inl (H1.1 c z))]) (st' := [.inl (H1.1 1826 53), .inr (.inr 1856)]) rfl ?_
        have g20 : -2147483648 ≤ (H1.1 1826 53) ∧ (H1.1 1826 53) ≤ 2147483647 := hrg1.1 1826 13 53 _ .int rfl rfl
        refine h_run 1 (pc' := 50) (l' := [(0, .inr (.inr 1826)), (1, .inr (.inr c)), (2, .inl (p : Int)), (3, .inl (ln : Int)), (4, .inl ba), (5, .inl (i : Int)), (6, .inl (z : Int)), (7, .inl (H1.1 c z))]) (st' := [.inl (H1.1 c z), .inl (H1.1 1826 53), .inr (.inr 1856)]) rfl ?_
        refine h_ist (c := 1856) (j := ((H1.1 1826 53)).toNat) (i := (H1.1 1826 53)) (x := (H1.1 c z)) rfl rfl (by decide) (by decide) (by omega) (by omega) (by omega) ?_
        refine h_run 3 (pc' := 56) (l' := [(0, .inr (.inr 1826)), (1, .inr (.inr c)), (2, .inl (p : Int)), (3, .inl (ln : Int)), (4, .inl ba), (5, .inl (i : Int)), (6, .inl (z : Int)), (7, .inl (H1.1 c z))]) (st' := [.inl (H1.1 1826 53), .inr (.inr 1826)]) rfl ?_
        refine h_run 2 (pc' := 58) (l' := [(0, .inr (.inr 1826)), (1, .inr (.inr c)), (2, .inl (p : Int)), (3, .inl (ln : Int)), (4, .inl ba), (5, .inl (i : Int)), (6, .inl (z : Int)), (7, .inl (H1.1 c z))]) (st' := [.inl ((H1.1 1826 53) + 1), .inr (.inr 1826)]) rfl ?_
        refine h_puti (i := 437) (ci := 13) (k := 53) (a := 1826) (x := ((H1.1 1826 53) + 1)) rfl rfl rfl rfl rfl rfl (by decide) (by omega) ?_
        refine h_run 3 (pc' := 19) (l' := [(0, .inr (.inr 1826)), (1, .inr (.inr c)), (2, .inl (p : Int)), (3, .inl (ln : Int)), (4, .inl ba), (5, .inl (i : Int)), (6, .inl ((z : Int) + 1)), (7, .inl (H1.1 c z))]) (st' := []) rfl ?_
        refine h_loc [0, 1, 2, 3, 4, 5, 6] rfl ?_
        rw [show ((z : Int) + 1) = (((z + 1) : Nat) : Int) by omega]
        exact ih _ (z + 1) (cur + 1) (mm - 1 + qq) (m0) (fr_o (fr_a hf (by decide)) (by decide)) (by omega) (by omega : ((H1.1 1826 53) + 1) = (((cur + 1) : Nat) : Int) ∧ (cur + 1) ≤ 60 + 60 * ((z + 1) - p)) hp4 (by show tp (ma (H.1 1833) (H.1 1830)) (m_sg (H.1 1826 3) (H.1 1826 8) 60) (up (H1.1 1856) ((H1.1 1826 53)).toNat (H1.1 c z)) (cur + 1) 0 1 (m0 + (mm - 1 + qq)); rw [show ((H1.1 1826 53)).toNat = cur by omega, es, show m0 + (mm - 1 + qq) = (m0 + (mm - 1)) + qq by omega]; refine tp_snoc (tp_at (by rw [show m0 + (mm - 1) + 1 = m0 + mm by omega]; exact hmd) (fun x hx => up_ne _ _ (by omega))) ?_ ?_ hq4; { rw [Nat.zero_add, up_eq]; rcases hspo with h9 | h9; { exact h9.2 }; { omega } }; { rw [Nat.zero_add, up_eq]; exact hqq }) hrest (by omega : p + ln - (z + 1) < w)
set_option maxRecDepth 100000 in
theorem m_isMade {zC : Nat → Option zsh} {d : Nat} (hd : 3 ≤ d) {H : hp} {c n p ln i N k : Nat} {ba : Int} {okp : Int → Prop} (hc : zs zC c = some (.inr (.int, n))) (hn : n ≤ 100000) (hcm : c ≠ 1826 ∧ c ∉ [1856]) (hP : PWc H) (hT : tm (ma (H.1 1833) (H.1 1830)) (m_sg (H.1 1826 3) (H.1 1826 8) 60) (H.1 1884) N 0 1) (hN : N ≤ 60 ∧ (H.1 1826 93) = N) (hTi : tm (ma (H.1 1833) (H.1 1830)) (m_sg (H.1 1826 3) (H.1 1826 8) 60) (H.1 1884) k i 1) (hik : i + k ≤ N) (hpat : tm (ma (H.1 1833) (H.1 1830)) okp (H.1 c) ln p 1) (hpn : p + ln ≤ n ∧ ln ≤ 60) (hba : ba = 1000 ∨ ba = 2000) (hokp : ∀ s, okp s → (s < ba ∧ (m_sg (H.1 1826 3) (H.1 1826 8) 60) s) ∨ (ba ≤ s ∧ s < ba + 60)) (hfre : fre (ma (H.1 1833) (H.1 1830)) (m_sg (H.1 1826 3) (H.1 1826 8) 60) (H.1 1884) (H.1 1886) N) : hG (zs zC) d mt_242 0 (zargs 0 [.inr (.inr 1826), .inr (.inr c), .inl (p : Int), .inl (ln : Int), .inl ba, .inl (i : Int)]) [] H (fun r9 H2 => (r9 = some (.inl 0) ∨ (r9 = some (.inl 1) ∧ ∃ M : Nat, (H2.1 1826 53) = M ∧ M ≤ 12000 ∧ tm (ma (H.1 1833) (H.1 1830)) (m_sg (H.1 1826 3) (H.1 1826 8) 60) (H2.1 1856) M 0 1)) ∧ fr [53] [1856] H H2) := by
  refine h_rng (fun hrg0 => ?_)
  refine h_run 0 (pc' := 0) (l' := [(0, .inr (.inr 1826)), (1, .inr (.inr c)), (2, .inl (p : Int)), (3, .inl (ln : Int)), (4, .inl ba), (5, .inl (i : Int))]) (st' := []) rfl ?_
  obtain ⟨⟨pb1, pb2, pb3, pb4, pb5⟩, pw1, pw2, pw3, pw4⟩ := (id hP : PW H (H.1 1826 1) (H.1 1826 3) (H.1 1826 8) (H.1 1826 13) (H.1 1826 19))
  obtain ⟨m0, hpre, hrest⟩ := tm_place hT hTi hik
  refine h_run 2 (pc' := 2) (l' := [(0, .inr (.inr 1826)), (1, .inr (.inr c)), (2, .inl (p : Int)), (3, .inl (ln : Int)), (4, .inl ba), (5, .inl (i : Int))]) (st' := [.inl 0, .inr (.inr 1826)]) rfl ?_
  refine h_puti (i := 437) (ci := 13) (k := 53) (a := 1826) (x := 0) rfl rfl rfl rfl rfl rfl (by decide) (by decide) ?_
  refine h_run 5 (pc' := 13) (l' := [(0, .inr (.inr 1826)), (1, .inr (.inr c)), (2, .inl (p : Int)), (3, .inl (ln : Int)), (4, .inl ba), (5, .inl (i : Int))]) (st' := [.inl (i : Int), .inl 0, .inr (.inr 1884), .inr (.inr 1826)]) rfl ?_
  refine h_cv (i := 440) (j := 198) (b := 1826) (M' := mt_198) (xs := [.inl (i : Int), .inl 0, .inr (.inr 1884)]) (rest := []) rfl rfl rfl rfl rfl rfl (Nat.le_of_ble_eq_true rfl) (Nat.le_of_ble_eq_true rfl) (by omega) (m_copy (by omega) (n := 128) (a := 0) (e := i) (ms := 0) rfl (by decide) (by decide) (by omega) (by omega : (0 : Int) = ((0 : Nat) : Int) ∧ 0 + (i - 0) ≤ 12000)) ?_
  rintro _ H21 ⟨rfl, hx21f, hx21z, hx21k, hx21c⟩
  refine h_rng (fun hrg22 => ?_)
  have hf23 : fr [53] [1856] H H21 := fr_t (fr_o (fr_rf _ _ _) (by decide)) hx21f (by decide) (by decide)
  refine h_run 0 (pc' := 16) (l' := [(0, .inr (.inr 1826)), (1, .inr (.inr c)), (2, .inl (p : Int)), (3, .inl (ln : Int)), (4, .inl ba), (5, .inl (i : Int))]) (st' := []) rfl ?_
  have hmd0 : tp (ma (H.1 1833) (H.1 1830)) (m_sg (H.1 1826 3) (H.1 1826 8) 60) (H21.1 1856) i 0 1 (m0 + 1) := tp_at hpre (fun x hx => by have h9 := hx21c x (by omega); rw [Nat.zero_add] at h9; exact h9)
  refine h_run 2 (pc' := 19) (l' := [(0, .inr (.inr 1826)), (1, .inr (.inr c)), (2, .inl (p : Int)), (3, .inl (ln : Int)), (4, .inl ba), (5, .inl (i : Int)), (6, .inl (p : Int))]) (st' := []) rfl ?_
  have g24 : -2147483648 ≤ (H21.1 1826 53) ∧ (H21.1 1826 53) ≤ 2147483647 := hrg22.1 1826 13 53 _ .int rfl rfl
  exact (m_isMade_cut hd hc hn hcm hP hT hN hTi hik hpat hpn hba hokp hfre _) _ p (i) (1) (m0) hf23 (by omega) (by omega : (H21.1 1826 53) = (((i) : Nat) : Int) ∧ (i) ≤ 60 + 60 * (p - p)) (by rw [show p + ln - p = ln by omega]; exact hpat) hmd0 hrest (Nat.lt_succ_self _)
