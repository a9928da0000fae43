/-! the reference matches calls -/
/-- all variables of the first y signs of a rule's left side stand for terms between a and e -/
def bnd (ar : Int → Int) (ok : Int → Prop) (row rl ba : Nat → Int) (r y a e : Nat) : Prop := ∀ x, x < y → 1000 ≤ rl (48 * r + x) → ∃ b kb : Nat, ba (rl (48 * r + x) - 1000).toNat = b ∧ a ≤ b ∧ b + kb ≤ e ∧ tm ar ok row kb b 1
theorem bnd_var {ar : Int → Int} {ok : Int → Prop} {row rl ba : Nat → Int} {r y a e i k1 : Nat} (h : bnd ar ok row rl ba r y a e) (hi : a ≤ i ∧ i + k1 ≤ e) (ht : tm ar ok row k1 i 1) : bnd ar ok row rl (up ba (rl (48 * r + y) - 1000).toNat i) r (y + 1) a e := by
  intro x hx hv
  by_cases e9 : (rl (48 * r + x) - 1000).toNat = (rl (48 * r + y) - 1000).toNat
  · exact ⟨i, k1, by rw [e9, up_eq], hi.1, hi.2, ht⟩
  · obtain ⟨b, kb, h1, h2⟩ := h x (by
      by_cases e8 : x = y
      · exact absurd (by rw [e8]) e9
      · omega) hv
    exact ⟨b, kb, by rw [up_ne _ _ e9]; exact h1, h2⟩
theorem bnd_con {ar : Int → Int} {ok : Int → Prop} {row rl ba : Nat → Int} {r y a e : Nat} (h : bnd ar ok row rl ba r y a e) (hp : rl (48 * r + y) < 1000) : bnd ar ok row rl ba r (y + 1) a e := by
  intro x hx hv
  by_cases e8 : x = y
  · rw [e8] at hv
    omega
  · exact h x (by omega) hv
theorem tm_sg0 {ar : Int → Int} {ok : Int → Prop} {a : Nat → Int} {k i n : Nat} (h : tm ar ok a k i n) (ho : ∀ s, ok s → sg0 s) : tm ar sg0 a k i n := tm_mono h (fun j _ _ h1 => ⟨rfl, ho _ h1, rfl⟩)

/-! fits -/
set_option maxRecDepth 100000 in
theorem m_fits_cut {zC : Nat → Option zsh} {d : Nat} (hd : 3 ≤ d) {H : hp} {c n a r k kl q : Nat} {ok : Int → Prop} (hc : zs zC c = some (.inr (.int, n))) (hn : n ≤ 100000) (hcm : c ≠ 1826 ∧ c ∉ [1855]) (hok : ∀ s, ok s → sg0 s) (hP : PWc H) (hr : (r : Int) < (H.1 1826 13)) (hL : (H.1 1838) r = kl ∧ kl ≤ 39) (hl : tm (ma (H.1 1833) (H.1 1830)) (m_sp (H.1 1826 3)) (H.1 1837) kl (48 * r) q) (hT : tm (ma (H.1 1833) (H.1 1830)) ok (H.1 c) k a q) (hb : a + k ≤ n) : ∀ w : Nat, (∀ (H1 : hp) (y : Nat) (i : Nat) (m : Nat) (kk : Nat), (fr [50] [1855] H H1) → (y ≤ kl) → (tm (ma (H.1 1833) (H.1 1830)) (m_sp (H.1 1826 3)) (H.1 1837) (kl - y) (48 * r + y) m) → (tm (ma (H.1 1833) (H.1 1830)) ok (H.1 c) kk i m) → (a ≤ i ∧ i + kk = a + k) → (bnd (ma (H.1 1833) (H.1 1830)) ok (H.1 c) (H.1 1837) (H1.1 1855) r y a (a + k)) → kl - y < w → hG (zs zC) d mt_197 6 [(0, .inr (.inr 1826)), (1, .inr (.inr c)), (3, .inl (r : Int)), (4, .inl (i : Int)), (5, .inl (y : Int))] [] H1 (fun r9 H2 => fr [50] [1855] H H2 ∧ ∃ r0 : Int, r9 = some (.inl r0) ∧ ((r0 = 0 ∧ bnd (ma (H.1 1833) (H.1 1830)) ok (H.1 c) (H.1 1837) (H2.1 1855) r kl a (a + k)) ∨ r0 = 1 ∨ (r0 = 2 ∧ ∃ wp : Nat, (H2.1 1826 50) = wp ∧ a ≤ wp ∧ wp < a + k ∧ 100 ≤ H.1 c wp ∧ ∃ kw : Nat, wp + kw ≤ a + k ∧ tm (ma (H.1 1833) (H.1 1830)) ok (H.1 c) kw wp 1) ∨ r0 = 3))) := by
  intro w
  induction w with
  | zero => exact fun _ _ _ _ _ _ _ _ _ _ _ h => absurd h (Nat.not_lt_zero _)
  | succ w ih =>
    intro H1 y i m kk hf hy hl2 hT2 hi hbd hw
    refine h_rng (fun hrg1 => ?_)
    obtain ⟨⟨pb1, pb2, pb3, pb4, pb5⟩, pw1, pw2, pw3, pw4⟩ := (id hP : PW H (H.1 1826 1) (H.1 1826 3) (H.1 1826 8) (H.1 1826 13) (H.1 1826 19))
    have eC : H1.1 c = H.1 c := hf.2.1 c hcm.1 hcm.2
    have eL : (H1.1 1837) = (H.1 1837) := hf.2.1 1837 (by decide) (by decide)
    have eZ : (H1.1 1838) = (H.1 1838) := hf.2.1 1838 (by decide) (by decide)
    have eFA : (H1.1 1833) = (H.1 1833) := hf.2.1 1833 (by decide) (by decide)
    have eCA : (H1.1 1830) = (H.1 1830) := hf.2.1 1830 (by decide) (by decide)
    have eZ1 : (H1.1 1838) r = kl := by rw [eZ]; exact hL.1
    refine h_run 4 (pc' := 13) (l' := [(0, .inr (.inr 1826)), (1, .inr (.inr c)), (3, .inl (r : Int)), (4, .inl (i : Int)), (5, .inl (y : Int))]) (st' := [.inl (r : Int), .inr (.inr 1838), .inl (y : Int)]) rfl ?_
    refine h_ild (c := 1838) (j := r) (i := (r : Int)) rfl rfl (by decide) rfl (by omega) ?_
    have g2 : -2147483648 ≤ (H1.1 1838 r) ∧ (H1.1 1838 r) ≤ 2147483647 := hrg1.2 1838 r 40 .int rfl (by omega)
    have e3 : (H1.1 1838 r) = (H.1 1838 r) := congrFun (hf.2.1 1838 (by decide) (by decide)) r
    refine h_run 0 (pc' := 14) (l' := [(0, .inr (.inr 1826)), (1, .inr (.inr c)), (3, .inl (r : Int)), (4, .inl (i : Int)), (5, .inl (y : Int))]) (st' := [.inl (H1.1 1838 r), .inl (y : Int)]) rfl ?_
    refine h_ige (off := 100) (t := 114) rfl rfl (by omega) (by omega) (fun c4 => ?_) (fun c4 => ?_)
    · refine h_run 1 (pc' := 115) (l' := [(0, .inr (.inr 1826)), (1, .inr (.inr c)), (3, .inl (r : Int)), (4, .inl (i : Int)), (5, .inl (y : Int))]) (st' := [.inl 0]) rfl ?_
      refine h_reti (x := 0) rfl rfl ?_
      exact ⟨hf, 0, rfl, Or.inl ⟨rfl, by rw [show kl = y by omega]; exact hbd⟩⟩
    · obtain ⟨y2, hy2⟩ : ∃ y2, kl - y = y2 + 1 := ⟨kl - y - 1, by omega⟩
      rw [hy2] at hl2
      obtain ⟨hm0, hsp, qp, hqp, hq4, hl3⟩ := hl2
      have hl4 : tm (ma (H.1 1833) (H.1 1830)) (m_sp (H.1 1826 3)) (H.1 1837) (kl - (y + 1)) (48 * r + (y + 1)) (m - 1 + qp) := by rw [show kl - (y + 1) = y2 by omega, show 48 * r + (y + 1) = 48 * r + y + 1 by omega]; exact hl3
      have hkk := tm_le hT2
      obtain ⟨kk1, rfl⟩ : ∃ kk1, kk = kk1 + 1 := ⟨kk - 1, by omega⟩
      obtain ⟨-, hsok, qs, hqs, hqs4, hT3⟩ := id hT2
      have hsp9 : (1 ≤ (H.1 1837) (48 * r + y) ∧ (H.1 1837) (48 * r + y) ≤ (H.1 1826 3)) ∨ (1000 ≤ (H.1 1837) (48 * r + y) ∧ (H.1 1837) (48 * r + y) < 1040) := hsp
      refine h_run 7 (pc' := 28) (l' := [(0, .inr (.inr 1826)), (1, .inr (.inr c)), (3, .inl (r : Int)), (4, .inl (i : Int)), (5, .inl (y : Int))]) (st' := [.inl ((48 * (r : Int)) + (y : Int)), .inr (.inr 1837)]) rfl ?_
      refine h_ild (c := 1837) (j := ((48 * r) + y)) (i := ((48 * (r : Int)) + (y : Int))) rfl rfl (by decide) (by omega) (by omega) ?_
      have g5 : -2147483648 ≤ (H1.1 1837 ((48 * r) + y)) ∧ (H1.1 1837 ((48 * r) + y)) ≤ 2147483647 := hrg1.2 1837 ((48 * r) + y) 1920 .int rfl (by omega)
      have e6 : (H1.1 1837 ((48 * r) + y)) = (H.1 1837 ((48 * r) + y)) := congrFun (hf.2.1 1837 (by decide) (by decide)) ((48 * r) + y)
      refine h_run 0 (pc' := 29) (l' := [(0, .inr (.inr 1826)), (1, .inr (.inr c)), (3, .inl (r : Int)), (4, .inl (i : Int)), (5, .inl (y : Int))]) (st' := [.inl (H1.1 1837 ((48 * r) + y))]) rfl ?_
      refine h_run 3 (pc' := 34) (l' := [(0, .inr (.inr 1826)), (1, .inr (.inr c)), (3, .inl (r : Int)), (4, .inl (i : Int)), (5, .inl (y : Int)), (6, .inl (H1.1 1837 ((48 * r) + y)))]) (st' := [.inl (i : Int), .inr (.inr c)]) rfl ?_
      refine h_ild (c := c) (j := i) (i := (i : Int)) rfl hc (by omega) rfl (by omega) ?_
      have g7 : -2147483648 ≤ (H1.1 c i) ∧ (H1.1 c i) ≤ 2147483647 := hrg1.2 c i n .int hc (by omega)
      refine h_run 0 (pc' := 35) (l' := [(0, .inr (.inr 1826)), (1, .inr (.inr c)), (3, .inl (r : Int)), (4, .inl (i : Int)), (5, .inl (y : Int)), (6, .inl (H1.1 1837 ((48 * r) + y)))]) (st' := [.inl (H1.1 c i)]) rfl ?_
      refine h_run 1 (pc' := 37) (l' := [(0, .inr (.inr 1826)), (1, .inr (.inr c)), (3, .inl (r : Int)), (4, .inl (i : Int)), (5, .inl (y : Int)), (6, .inl (H1.1 1837 ((48 * r) + y))), (7, .inl (H1.1 c i))]) (st' := []) rfl ?_
      have ep : (H1.1 1837) (48 * r + y) = (H.1 1837) (48 * r + y) := by rw [eL]
      have es : H1.1 c i = H.1 c i := by rw [eC]
      have hs0 : sg0 (H.1 c i) := hok _ hsok
      unfold sg0 at hs0
      refine h_run 2 (pc' := 42) (l' := [(0, .inr (.inr 1826)), (1, .inr (.inr c)), (3, .inl (r : Int)), (4, .inl (i : Int)), (5, .inl (y : Int)), (6, .inl (H1.1 1837 ((48 * r) + y))), (7, .inl (H1.1 c i))]) (st' := [.inl 1000, .inl (H1.1 1837 ((48 * r) + y))]) rfl ?_
      refine h_ilt (off := 28) (t := 70) rfl rfl (by omega) (by decide) (fun c8 => ?_) (fun c8 => ?_)
      · refine h_run 2 (pc' := 74) (l' := [(0, .inr (.inr 1826)), (1, .inr (.inr c)), (3, .inl (r : Int)), (4, .inl (i : Int)), (5, .inl (y : Int)), (6, .inl (H1.1 1837 ((48 * r) + y))), (7, .inl (H1.1 c i))]) (st' := [.inl (H1.1 1837 ((48 * r) + y)), .inl (H1.1 c i)]) rfl ?_
        refine h_ine (off := 9) (t := 83) rfl rfl (by omega) (by omega) (fun c9 => ?_) (fun c9 => ?_)
        · refine h_run 1 (pc' := 85) (l' := [(0, .inr (.inr 1826)), (1, .inr (.inr c)), (3, .inl (r : Int)), (4, .inl (i : Int)), (5, .inl (y : Int)), (6, .inl (H1.1 1837 ((48 * r) + y))), (7, .inl (H1.1 c i))]) (st' := [.inl (H1.1 c i)]) rfl ?_
          refine h_cs (i := 431) (j := 157) (M' := mt_157) (xs := [.inl (H1.1 c i)]) (rest := []) rfl rfl rfl rfl rfl (Nat.le_of_ble_eq_true rfl) (Nat.le_of_ble_eq_true rfl) (by omega) (m_isCon (by omega) (by omega)) ?_
          rintro _ _ ⟨⟨rfl, b10⟩ | ⟨rfl, b10⟩, rfl⟩
          · refine h_run 0 (pc' := 88) (l' := [(0, .inr (.inr 1826)), (1, .inr (.inr c)), (3, .inl (r : Int)), (4, .inl (i : Int)), (5, .inl (y : Int)), (6, .inl (H1.1 1837 ((48 * r) + y))), (7, .inl (H1.1 c i))]) (st' := [.inl 1]) rfl ?_
            refine h_zeq (off := 5) (t := 93) rfl rfl (by decide) (fun c => absurd c (by decide)) (fun _ => ?_)
            refine h_run 1 (pc' := 92) (l' := [(0, .inr (.inr 1826)), (1, .inr (.inr c)), (3, .inl (r : Int)), (4, .inl (i : Int)), (5, .inl (y : Int)), (6, .inl (H1.1 1837 ((48 * r) + y))), (7, .inl (H1.1 c i))]) (st' := [.inl 3]) rfl ?_
            refine h_reti (x := 3) rfl rfl ?_
            exact ⟨hf, 3, rfl, Or.inr (Or.inr (Or.inr rfl))⟩
          · refine h_run 0 (pc' := 88) (l' := [(0, .inr (.inr 1826)), (1, .inr (.inr c)), (3, .inl (r : Int)), (4, .inl (i : Int)), (5, .inl (y : Int)), (6, .inl (H1.1 1837 ((48 * r) + y))), (7, .inl (H1.1 c i))]) (st' := [.inl 0]) rfl ?_
            refine h_zeq (off := 5) (t := 93) rfl rfl (by decide) (fun _ => ?_) (fun c => absurd c (by decide))
            refine h_run 1 (pc' := 95) (l' := [(0, .inr (.inr 1826)), (1, .inr (.inr c)), (3, .inl (r : Int)), (4, .inl (i : Int)), (5, .inl (y : Int)), (6, .inl (H1.1 1837 ((48 * r) + y))), (7, .inl (H1.1 c i))]) (st' := [.inl (H1.1 c i)]) rfl ?_
            refine h_zne (off := 5) (t := 100) rfl rfl (by omega) (fun c11 => ?_) (fun c11 => ?_)
            · obtain ⟨kw, k2, hkk2, hs1, hs2⟩ := tm_split (n := 1) (n2 := m - 1) (by rw [show 1 + (m - 1) = m by omega]; exact hT2)
              refine h_run 2 (pc' := 103) (l' := [(0, .inr (.inr 1826)), (1, .inr (.inr c)), (3, .inl (r : Int)), (4, .inl (i : Int)), (5, .inl (y : Int)), (6, .inl (H1.1 1837 ((48 * r) + y))), (7, .inl (H1.1 c i))]) (st' := [.inl (i : Int), .inr (.inr 1826)]) rfl ?_
              refine h_puti (i := 434) (ci := 13) (k := 50) (a := 1826) (x := (i : Int)) rfl rfl rfl rfl rfl rfl (by decide) (by omega) ?_
              refine h_run 1 (pc' := 107) (l' := [(0, .inr (.inr 1826)), (1, .inr (.inr c)), (3, .inl (r : Int)), (4, .inl (i : Int)), (5, .inl (y : Int)), (6, .inl (H1.1 1837 ((48 * r) + y))), (7, .inl (H1.1 c i))]) (st' := [.inl 2]) rfl ?_
              refine h_reti (x := 2) rfl rfl ?_
              exact ⟨(fr_o hf (by decide)), 2, rfl, Or.inr (Or.inr (Or.inl ⟨rfl, i, rfl, by omega, by omega, by omega, kw, by omega, hs1⟩))⟩
            · refine h_run 1 (pc' := 99) (l' := [(0, .inr (.inr 1826)), (1, .inr (.inr c)), (3, .inl (r : Int)), (4, .inl (i : Int)), (5, .inl (y : Int)), (6, .inl (H1.1 1837 ((48 * r) + y))), (7, .inl (H1.1 c i))]) (st' := [.inl 1]) rfl ?_
              refine h_reti (x := 1) rfl rfl ?_
              exact ⟨hf, 1, rfl, Or.inr (Or.inl rfl)⟩
        · have hqq : qs = qp := by have e8 : H.1 c i = (H.1 1837) (48 * r + y) := (by omega); rw [e8, hqp] at hqs; omega
          have hT4 : tm (ma (H.1 1833) (H.1 1830)) ok (H.1 c) kk1 (i + 1) (m - 1 + qp) := by rw [← hqq]; exact hT3
          refine h_run 4 (pc' := 6) (l' := [(0, .inr (.inr 1826)), (1, .inr (.inr c)), (3, .inl (r : Int)), (4, .inl ((i : Int) + 1)), (5, .inl ((y : Int) + 1)), (6, .inl (H1.1 1837 ((48 * r) + y))), (7, .inl (H1.1 c i))]) (st' := []) rfl ?_
          refine h_loc [0, 1, 3, 4, 5] rfl ?_
          rw [show ((i : Int) + 1) = (((i + 1) : Nat) : Int) by omega]
          rw [show ((y : Int) + 1) = (((y + 1) : Nat) : Int) by omega]
          exact ih _ (y + 1) (i + 1) (m - 1 + qp) (kk1) hf (by omega) hl4 hT4 (by omega) (bnd_con hbd (by omega)) (by omega : kl - (y + 1) < w)
      · have hq0 : qp = 0 := by rw [ma_0 (by omega)] at hqp; omega
        obtain ⟨k1, k2, hkk2, hs1, hs2⟩ := tm_split (n := 1) (n2 := m - 1 + qp) (by rw [show 1 + (m - 1 + qp) = m by omega]; exact hT2)
        refine h_run 6 (pc' := 57) (l' := [(0, .inr (.inr 1826)), (1, .inr (.inr c)), (3, .inl (r : Int)), (4, .inl (i : Int)), (5, .inl (y : Int)), (6, .inl (H1.1 1837 ((48 * r) + y))), (7, .inl (H1.1 c i))]) (st' := [.inl (i : Int), .inl ((H1.1 1837 ((48 * r) + y)) - 1000), .inr (.inr 1855)]) rfl ?_
        refine h_ist (c := 1855) (j := (((H1.1 1837 ((48 * r) + y)) - 1000)).toNat) (i := ((H1.1 1837 ((48 * r) + y)) - 1000)) (x := (i : Int)) rfl rfl (by decide) (by decide) (by omega) (by omega) (by omega) ?_
        refine h_run 3 (pc' := 62) (l' := [(0, .inr (.inr 1826)), (1, .inr (.inr c)), (3, .inl (r : Int)), (4, .inl (i : Int)), (5, .inl (y : Int)), (6, .inl (H1.1 1837 ((48 * r) + y))), (7, .inl (H1.1 c i))]) (st' := [.inl (i : Int), .inr (.inr c), .inr (.inr 1826)]) rfl ?_
        refine h_cv (i := 427) (j := 155) (b := 1826) (M' := mt_155) (xs := [.inl (i : Int), .inr (.inr c)]) (rest := []) rfl rfl rfl rfl rfl rfl (Nat.le_of_ble_eq_true rfl) (Nat.le_of_ble_eq_true rfl) (by omega) (m_behind (by omega) (n := n) (a := i) (k := k1) hc hn (by show tm (ma (H1.1 1833) (H1.1 1830)) sg0 ((zu H1 1855 _).1 c) k1 i 1; rw [zu_ne (k := c) _ _ (fun e9 => hcm.2 (by rw [e9]; decide)), eFA, eCA, eC]; exact tm_sg0 hs1 hok) (by omega)) ?_
        rintro _ _ ⟨rfl, rfl⟩
        refine h_run 0 (pc' := 65) (l' := [(0, .inr (.inr 1826)), (1, .inr (.inr c)), (3, .inl (r : Int)), (4, .inl (i : Int)), (5, .inl (y : Int)), (6, .inl (H1.1 1837 ((48 * r) + y))), (7, .inl (H1.1 c i))]) (st' := [.inl ((i + k1 : Nat) : Int)]) rfl ?_
        refine h_run 4 (pc' := 6) (l' := [(0, .inr (.inr 1826)), (1, .inr (.inr c)), (3, .inl (r : Int)), (4, .inl ((i + k1 : Nat) : Int)), (5, .inl ((y : Int) + 1)), (6, .inl (H1.1 1837 ((48 * r) + y))), (7, .inl (H1.1 c i))]) (st' := []) rfl ?_
        refine h_loc [0, 1, 3, 4, 5] rfl ?_
        rw [show ((y : Int) + 1) = (((y + 1) : Nat) : Int) by omega]
        exact ih _ (y + 1) (i + k1) (m - 1 + qp) (k2) (fr_a hf (by decide)) (by omega) hl4 hs2 (by omega) (by show bnd (ma (H.1 1833) (H.1 1830)) ok (H.1 c) (H.1 1837) (up (H1.1 1855) ((H1.1 1837) (48 * r + y) - 1000).toNat i) r (y + 1) a (a + k); rw [ep]; exact bnd_var hbd (by omega) hs1) (by omega : kl - (y + 1) < w)
set_option maxRecDepth 100000 in
theorem m_fits {zC : Nat → Option zsh} {d : Nat} (hd : 3 ≤ d) {H : hp} {c n a r k kl q : Nat} {ok : Int → Prop} (hc : zs zC c = some (.inr (.int, n))) (hn : n ≤ 100000) (hcm : c ≠ 1826 ∧ c ∉ [1855]) (hok : ∀ s, ok s → sg0 s) (hP : PWc H) (hr : (r : Int) < (H.1 1826 13)) (hL : (H.1 1838) r = kl ∧ kl ≤ 39) (hl : tm (ma (H.1 1833) (H.1 1830)) (m_sp (H.1 1826 3)) (H.1 1837) kl (48 * r) q) (hT : tm (ma (H.1 1833) (H.1 1830)) ok (H.1 c) k a q) (hb : a + k ≤ n) : hG (zs zC) d mt_197 0 (zargs 0 [.inr (.inr 1826), .inr (.inr c), .inl (a : Int), .inl (r : Int)]) [] H (fun r9 H2 => fr [50] [1855] H H2 ∧ ∃ r0 : Int, r9 = some (.inl r0) ∧ ((r0 = 0 ∧ bnd (ma (H.1 1833) (H.1 1830)) ok (H.1 c) (H.1 1837) (H2.1 1855) r kl a (a + k)) ∨ r0 = 1 ∨ (r0 = 2 ∧ ∃ wp : Nat, (H2.1 1826 50) = wp ∧ a ≤ wp ∧ wp < a + k ∧ 100 ≤ H.1 c wp ∧ ∃ kw : Nat, wp + kw ≤ a + k ∧ tm (ma (H.1 1833) (H.1 1830)) ok (H.1 c) kw wp 1) ∨ r0 = 3)) := by
  refine h_rng (fun hrg0 => ?_)
  refine h_run 0 (pc' := 0) (l' := [(0, .inr (.inr 1826)), (1, .inr (.inr c)), (2, .inl (a : Int)), (3, .inl (r : Int))]) (st' := []) rfl ?_
  obtain ⟨⟨pb1, pb2, pb3, pb4, pb5⟩, pw1, pw2, pw3, pw4⟩ := (id hP : PW H (H.1 1826 1) (H.1 1826 3) (H.1 1826 8) (H.1 1826 13) (H.1 1826 19))
  refine h_run 4 (pc' := 6) (l' := [(0, .inr (.inr 1826)), (1, .inr (.inr c)), (2, .inl (a : Int)), (3, .inl (r : Int)), (4, .inl (a : Int)), (5, .inl 0)]) (st' := []) rfl ?_
  refine h_loc [0, 1, 3, 4, 5] rfl ?_
  exact (m_fits_cut hd hc hn hcm hok hP hr hL hl hT hb _) _ 0 a (q) (k) (fr_rf _ _ _) (by omega) hl hT (by omega) (fun x hx => absurd hx (Nat.not_lt_zero _)) (Nat.lt_succ_self _)
