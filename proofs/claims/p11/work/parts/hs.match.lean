/-! the reference matches calls, told exactly -/
theorem fitR_b {ar : Int → Int} {L a : Nat → Int} {kl p : Nat} : ∀ j : Nat, 0 ≤ (fitR ar L a kl p j).1 ∧ (fitR ar L a kl p j).1 ≤ 3
  | 0 => ⟨(by decide : (0 : Int) ≤ 0), (by decide : (0 : Int) ≤ 3)⟩
  | j + 1 => by
    have h := fitR_b (ar := ar) (L := L) (a := a) (kl := kl) (p := p) j
    unfold fitR
    split
    · exact h
    · split
      · exact ⟨(by decide : (0 : Int) ≤ 1), (by decide : (1 : Int) ≤ 3)⟩
      · split
        · exact ⟨(by decide : (0 : Int) ≤ 2), (by decide : (2 : Int) ≤ 3)⟩
        · exact ⟨(by decide : (0 : Int) ≤ 3), (by decide : (3 : Int) ≤ 3)⟩
/-- the rules that were told, in rows -/
def RZ9 (H : hp) (X : rx) : Prop := X 0 6 = (H.1 1826 13) ∧ ∀ r : Nat, (r : Int) < X 0 6 → LQ H r X (4 * r + 100) ∧ RQr H r X (4 * r + 101)
theorem RZ9_fr {ob ar : List Nat} {H K : hp} {X : rx} (h : RZ9 H X) (f : fr ob ar H K) (h1 : ∀ c ∈ [1836, 1837, 1838, 1839, 1840], c ∉ ar) (h2 : 13 ∉ ob) : RZ9 K X := by
  have e : ∀ c ∈ [1836, 1837, 1838, 1839, 1840], K.1 c = H.1 c := fun c hc => f.2.1 c (by rintro rfl; revert hc; decide) (h1 c hc)
  obtain ⟨g1, g2⟩ := h
  refine ⟨g1.trans (f.2.2 13 h2).symm, fun r hr => ?_⟩
  obtain ⟨q1, q2⟩ := g2 r hr
  unfold LQ RQr at *
  rw [e 1836 (by decide), e 1837 (by decide), e 1838 (by decide), e 1839 (by decide), e 1840 (by decide)]
  exact ⟨q1, q2⟩
theorem RW9r_of {H : hp} {X : rx} (h : RZ9 H X) (hP : PWc H) {r : Nat} (hr : (r : Int) < (H.1 1826 13)) : RW9r (ma (H.1 1833) (H.1 1830)) (H.1 1826 3) (H.1 1826 8) X r := by
  obtain ⟨g1, g2⟩ := h
  obtain ⟨⟨b1, b2, b3, b4, b5⟩, -⟩ := (id hP : PW H (H.1 1826 1) (H.1 1826 3) (H.1 1826 8) (H.1 1826 13) (H.1 1826 19))
  obtain ⟨⟨q1, q2, q3⟩, q4, q5⟩ := g2 r (by omega)
  obtain ⟨f, kl, kr, q, ⟨f1, f2⟩, ⟨f3, f4⟩, ⟨f5, f6⟩, f7, f8, f9, f10⟩ := hP.2.2.2.1 r hr
  have e1 : X (4 * r + 100) 0 = ((kl + 1 : Nat) : Int) := by
    rw [← q2, f3]
    rfl
  have e2 : X (4 * r + 101) 0 = (kr : Int) := by rw [← q4, f5]
  refine ⟨f, kl, kr, q, ⟨by rw [← q1, f1]; omega, f2⟩, ⟨e1, f4⟩, ⟨e2, f6⟩, ?_, ?_, ?_, fun x hx hv => ?_⟩
  · rw [ma_f (by omega), show ((100 : Int) + f - 100).toNat = f by omega]
    exact f7
  · exact tm_at f8 (fun x hx => by
      show X (4 * r + 100) (0 + x + 2) = _
      rw [Nat.zero_add]
      exact (q3 x (by omega)).symm)
  · exact tm_at f9 (fun x hx => by
      show X (4 * r + 101) (0 + x + 1) = _
      rw [Nat.zero_add]
      exact (q5 x (by omega)).symm)
  · rw [← q5 x (by omega)] at hv
    obtain ⟨y, y1, y2⟩ := f10 x hx hv
    refine ⟨y, y1, ?_⟩
    show X (4 * r + 100) (y + 2) = _
    rw [← q3 y (by omega), y2, q5 x (by omega)]

/-! fits -/
set_option maxRecDepth 100000 in
theorem n_fits_cut {zC : Nat → Option zsh} {d : Nat} (hd : 3 ≤ d) {H : hp} {c n a r k kl q : Nat} {ok : Int → Prop} {L g : Nat → Int} (hc : zs zC c = some (.inr (.int, n))) (hn : n ≤ 100000) (hcm : c ≠ 1826 ∧ c ∉ [1855]) (hok : ∀ s, ok s → sg0 s) (hP : PWc H) (hr : (r : Int) < (H.1 1826 13)) (hL : (H.1 1838) r = kl ∧ kl ≤ 39) (hl : tm (ma (H.1 1833) (H.1 1830)) (m_sp (H.1 1826 3)) (H.1 1837) kl (48 * r) q) (hT : tm (ma (H.1 1833) (H.1 1830)) ok g k a q) (hb : a + k ≤ n ∧ a + k ≤ 400) (hA : ∀ x, x < a + k → H.1 c x = g x) (hLL : ∀ x, x < kl → L x = (H.1 1837) (48 * r + x)) : ∀ w : Nat, (∀ (H1 : hp) (y : Nat) (i : Nat) (m : Nat) (kk : Nat), (fr [50] [1855] H H1) → (y ≤ kl) → (tm (ma (H.1 1833) (H.1 1830)) (m_sp (H.1 1826 3)) (H.1 1837) (kl - y) (48 * r + y) m) → (tm (ma (H.1 1833) (H.1 1830)) ok g kk i m) → (a ≤ i ∧ i + kk = a + k) → (i = fpos (ma (H.1 1833) (H.1 1830)) L g a y) → (MU (ma (H.1 1833) (H.1 1830)) L g a y) → (BV (ma (H.1 1833) (H.1 1830)) L g a y (H1.1 1855)) → kl - y < w → hG (zs zC) d mt_197 6 [(0, .inr (.inr 1826)), (1, .inr (.inr c)), (3, .inl (r : Int)), (4, .inl (i : Int)), (5, .inl (y : Int))] [] H1 (fun r9 H2 => fr [50] [1855] H H2 ∧ ∃ r0 : Int, r9 = some (.inl r0) ∧ ∃ w0 : Nat, fitR (ma (H.1 1833) (H.1 1830)) L g kl a kl = (r0, w0) ∧ (r0 = 2 → (H2.1 1826 50) = (w0 : Int)) ∧ (r0 = 0 → BV (ma (H.1 1833) (H.1 1830)) L g a kl (H2.1 1855)))) := by
  intro w
  induction w with
  | zero => exact fun _ _ _ _ _ _ _ _ _ _ _ _ _ h => absurd h (Nat.not_lt_zero _)
  | succ w ih =>
    intro H1 y i m kk hf hy hl2 hT2 hi hpo hmu hbv hw
    refine h_rng (fun hrg1 => ?_)
    obtain ⟨⟨pb1, pb2, pb3, pb4, pb5⟩, pw1, pw2, pw3, pw4⟩ := (id hP : PW H (H.1 1826 1) (H.1 1826 3) (H.1 1826 8) (H.1 1826 13) (H.1 1826 19))
    have eC : H1.1 c = H.1 c := hf.2.1 c hcm.1 hcm.2
    have eL : (H1.1 1837) = (H.1 1837) := hf.2.1 1837 (by decide) (by decide)
    have eZ : (H1.1 1838) = (H.1 1838) := hf.2.1 1838 (by decide) (by decide)
    have eFA : (H1.1 1833) = (H.1 1833) := hf.2.1 1833 (by decide) (by decide)
    have eCA : (H1.1 1830) = (H.1 1830) := hf.2.1 1830 (by decide) (by decide)
    have eZ1 : (H1.1 1838) r = kl := by rw [eZ]; exact hL.1
    refine h_run 4 (pc' := 13) (l' := [(0, .inr (.inr 1826)), (1, .inr (.inr c)), (3, .inl (r : Int)), (4, .inl (i : Int)), (5, .inl (y : Int))]) (st' := [.inl (r : Int), .inr (.inr 1838), .inl (y : Int)]) rfl ?_
    refine h_ild (c := 1838) (j := r) (i := (r : Int)) rfl rfl (by decide) rfl (by omega) ?_
    have g2 : -2147483648 ≤ (H1.1 1838 r) ∧ (H1.1 1838 r) ≤ 2147483647 := hrg1.2 1838 r 40 .int rfl (by omega)
    have e3 : (H1.1 1838 r) = (H.1 1838 r) := congrFun (hf.2.1 1838 (by decide) (by decide)) r
    refine h_run 0 (pc' := 14) (l' := [(0, .inr (.inr 1826)), (1, .inr (.inr c)), (3, .inl (r : Int)), (4, .inl (i : Int)), (5, .inl (y : Int))]) (st' := [.inl (H1.1 1838 r), .inl (y : Int)]) rfl ?_
    refine h_ige (off := 100) (t := 114) rfl rfl (by omega) (by omega) (fun c4 => ?_) (fun c4 => ?_)
    · refine h_run 1 (pc' := 115) (l' := [(0, .inr (.inr 1826)), (1, .inr (.inr c)), (3, .inl (r : Int)), (4, .inl (i : Int)), (5, .inl (y : Int))]) (st' := [.inl 0]) rfl ?_
      refine h_reti (x := 0) rfl rfl ?_
      exact ⟨hf, 0, rfl, 0, (by rw [show kl = y by omega]; exact fit_0 hmu), fun q => absurd q (by decide), fun _ => by rw [show kl = y by omega]; exact hbv⟩
    · obtain ⟨y2, hy2⟩ : ∃ y2, kl - y = y2 + 1 := ⟨kl - y - 1, by omega⟩
      rw [hy2] at hl2
      obtain ⟨hm0, hsp, qp, hqp, hq4, hl3⟩ := hl2
      have hl4 : tm (ma (H.1 1833) (H.1 1830)) (m_sp (H.1 1826 3)) (H.1 1837) (kl - (y + 1)) (48 * r + (y + 1)) (m - 1 + qp) := by rw [show kl - (y + 1) = y2 by omega, show 48 * r + (y + 1) = 48 * r + y + 1 by omega]; exact hl3
      have hkk := tm_le hT2
      obtain ⟨kk1, rfl⟩ : ∃ kk1, kk = kk1 + 1 := ⟨kk - 1, by omega⟩
      obtain ⟨-, hsok, qs, hqs, hqs4, hT3⟩ := id hT2
      have hsp9 : (1 ≤ (H.1 1837) (48 * r + y) ∧ (H.1 1837) (48 * r + y) ≤ (H.1 1826 3)) ∨ (1000 ≤ (H.1 1837) (48 * r + y) ∧ (H.1 1837) (48 * r + y) < 1040) := hsp
      refine h_run 7 (pc' := 28) (l' := [(0, .inr (.inr 1826)), (1, .inr (.inr c)), (3, .inl (r : Int)), (4, .inl (i : Int)), (5, .inl (y : Int))]) (st' := [.inl ((48 * (r : Int)) + (y : Int)), .inr (.inr 1837)]) rfl ?_
      refine h_ild (c := 1837) (j := ((48 * r) + y)) (i := ((48 * (r : Int)) + (y : Int))) rfl rfl (by decide) (by omega) (by omega) ?_
      have g5 : -2147483648 ≤ (H1.1 1837 ((48 * r) + y)) ∧ (H1.1 1837 ((48 * r) + y)) ≤ 2147483647 := hrg1.2 1837 ((48 * r) + y) 1920 .int rfl (by omega)
      have e6 : (H1.1 1837 ((48 * r) + y)) = (H.1 1837 ((48 * r) + y)) := congrFun (hf.2.1 1837 (by decide) (by decide)) ((48 * r) + y)
      refine h_run 0 (pc' := 29) (l' := [(0, .inr (.inr 1826)), (1, .inr (.inr c)), (3, .inl (r : Int)), (4, .inl (i : Int)), (5, .inl (y : Int))]) (st' := [.inl (H1.1 1837 ((48 * r) + y))]) rfl ?_
      refine h_run 3 (pc' := 34) (l' := [(0, .inr (.inr 1826)), (1, .inr (.inr c)), (3, .inl (r : Int)), (4, .inl (i : Int)), (5, .inl (y : Int)), (6, .inl (H1.1 1837 ((48 * r) + y)))]) (st' := [.inl (i : Int), .inr (.inr c)]) rfl ?_
      refine h_ild (c := c) (j := i) (i := (i : Int)) rfl hc (by omega) rfl (by omega) ?_
      have g7 : -2147483648 ≤ (H1.1 c i) ∧ (H1.1 c i) ≤ 2147483647 := hrg1.2 c i n .int hc (by omega)
      refine h_run 0 (pc' := 35) (l' := [(0, .inr (.inr 1826)), (1, .inr (.inr c)), (3, .inl (r : Int)), (4, .inl (i : Int)), (5, .inl (y : Int)), (6, .inl (H1.1 1837 ((48 * r) + y)))]) (st' := [.inl (H1.1 c i)]) rfl ?_
      refine h_run 1 (pc' := 37) (l' := [(0, .inr (.inr 1826)), (1, .inr (.inr c)), (3, .inl (r : Int)), (4, .inl (i : Int)), (5, .inl (y : Int)), (6, .inl (H1.1 1837 ((48 * r) + y))), (7, .inl (H1.1 c i))]) (st' := []) rfl ?_
      have ep : (H1.1 1837) (48 * r + y) = (H.1 1837) (48 * r + y) := by rw [eL]
      have es : H1.1 c i = H.1 c i := by rw [eC]
      have es2 : H.1 c i = g i := hA i (by omega)
      have eLy : L y = (H.1 1837) (48 * r + y) := hLL y (by omega)
      have hs0 : sg0 (g i) := hok _ hsok
      unfold sg0 at hs0
      refine h_run 2 (pc' := 42) (l' := [(0, .inr (.inr 1826)), (1, .inr (.inr c)), (3, .inl (r : Int)), (4, .inl (i : Int)), (5, .inl (y : Int)), (6, .inl (H1.1 1837 ((48 * r) + y))), (7, .inl (H1.1 c i))]) (st' := [.inl 1000, .inl (H1.1 1837 ((48 * r) + y))]) rfl ?_
      refine h_ilt (off := 28) (t := 70) rfl rfl (by omega) (by decide) (fun c8 => ?_) (fun c8 => ?_)
      · refine h_run 2 (pc' := 74) (l' := [(0, .inr (.inr 1826)), (1, .inr (.inr c)), (3, .inl (r : Int)), (4, .inl (i : Int)), (5, .inl (y : Int)), (6, .inl (H1.1 1837 ((48 * r) + y))), (7, .inl (H1.1 c i))]) (st' := [.inl (H1.1 1837 ((48 * r) + y)), .inl (H1.1 c i)]) rfl ?_
        refine h_ine (off := 9) (t := 83) rfl rfl (by omega) (by omega) (fun c9 => ?_) (fun c9 => ?_)
        · refine h_run 1 (pc' := 85) (l' := [(0, .inr (.inr 1826)), (1, .inr (.inr c)), (3, .inl (r : Int)), (4, .inl (i : Int)), (5, .inl (y : Int)), (6, .inl (H1.1 1837 ((48 * r) + y))), (7, .inl (H1.1 c i))]) (st' := [.inl (H1.1 c i)]) rfl ?_
          refine h_cs (i := 431) (j := 157) (M' := mt_157) (xs := [.inl (H1.1 c i)]) (rest := []) rfl rfl rfl rfl rfl (Nat.le_of_ble_eq_true rfl) (Nat.le_of_ble_eq_true rfl) (by omega) (m_isCon (by omega) (by omega)) ?_
          rintro _ _ ⟨⟨rfl, b10⟩ | ⟨rfl, b10⟩, rfl⟩
          · refine h_run 0 (pc' := 88) (l' := [(0, .inr (.inr 1826)), (1, .inr (.inr c)), (3, .inl (r : Int)), (4, .inl (i : Int)), (5, .inl (y : Int)), (6, .inl (H1.1 1837 ((48 * r) + y))), (7, .inl (H1.1 c i))]) (st' := [.inl 1]) rfl ?_
            refine h_zeq (off := 5) (t := 93) rfl rfl (by decide) (fun c => absurd c (by decide)) (fun _ => ?_)
            refine h_run 1 (pc' := 92) (l' := [(0, .inr (.inr 1826)), (1, .inr (.inr c)), (3, .inl (r : Int)), (4, .inl (i : Int)), (5, .inl (y : Int)), (6, .inl (H1.1 1837 ((48 * r) + y))), (7, .inl (H1.1 c i))]) (st' := [.inl 3]) rfl ?_
            refine h_reti (x := 3) rfl rfl ?_
            exact ⟨hf, 3, rfl, 0, fit_3 hmu (by omega) hpo (by omega) (by omega) (by omega), fun q => absurd q (by decide), fun q => absurd q (by decide)⟩
          · refine h_run 0 (pc' := 88) (l' := [(0, .inr (.inr 1826)), (1, .inr (.inr c)), (3, .inl (r : Int)), (4, .inl (i : Int)), (5, .inl (y : Int)), (6, .inl (H1.1 1837 ((48 * r) + y))), (7, .inl (H1.1 c i))]) (st' := [.inl 0]) rfl ?_
            refine h_zeq (off := 5) (t := 93) rfl rfl (by decide) (fun _ => ?_) (fun c => absurd c (by decide))
            refine h_run 1 (pc' := 95) (l' := [(0, .inr (.inr 1826)), (1, .inr (.inr c)), (3, .inl (r : Int)), (4, .inl (i : Int)), (5, .inl (y : Int)), (6, .inl (H1.1 1837 ((48 * r) + y))), (7, .inl (H1.1 c i))]) (st' := [.inl (H1.1 c i)]) rfl ?_
            refine h_zne (off := 5) (t := 100) rfl rfl (by omega) (fun c11 => ?_) (fun c11 => ?_)
            · refine h_run 2 (pc' := 103) (l' := [(0, .inr (.inr 1826)), (1, .inr (.inr c)), (3, .inl (r : Int)), (4, .inl (i : Int)), (5, .inl (y : Int)), (6, .inl (H1.1 1837 ((48 * r) + y))), (7, .inl (H1.1 c i))]) (st' := [.inl (i : Int), .inr (.inr 1826)]) rfl ?_
              refine h_puti (i := 434) (ci := 13) (k := 50) (a := 1826) (x := (i : Int)) rfl rfl rfl rfl rfl rfl (by decide) (by omega) ?_
              refine h_run 1 (pc' := 107) (l' := [(0, .inr (.inr 1826)), (1, .inr (.inr c)), (3, .inl (r : Int)), (4, .inl (i : Int)), (5, .inl (y : Int)), (6, .inl (H1.1 1837 ((48 * r) + y))), (7, .inl (H1.1 c i))]) (st' := [.inl 2]) rfl ?_
              refine h_reti (x := 2) rfl rfl ?_
              exact ⟨(fr_o hf (by decide)), 2, rfl, i, fit_2 hmu (by omega) hpo (by omega) (by omega) (by omega), fun _ => rfl, fun q => absurd q (by decide)⟩
            · refine h_run 1 (pc' := 99) (l' := [(0, .inr (.inr 1826)), (1, .inr (.inr c)), (3, .inl (r : Int)), (4, .inl (i : Int)), (5, .inl (y : Int)), (6, .inl (H1.1 1837 ((48 * r) + y))), (7, .inl (H1.1 c i))]) (st' := [.inl 1]) rfl ?_
              refine h_reti (x := 1) rfl rfl ?_
              exact ⟨hf, 1, rfl, 0, fit_1 hmu (by omega) hpo (by omega) (by omega) (by omega), fun q => absurd q (by decide), fun q => absurd q (by decide)⟩
        · have hqq : qs = qp := by have e8 : g i = (H.1 1837) (48 * r + y) := (by omega); rw [e8, hqp] at hqs; omega
          have hT4 : tm (ma (H.1 1833) (H.1 1830)) ok g kk1 (i + 1) (m - 1 + qp) := by rw [← hqq]; exact hT3
          refine h_run 4 (pc' := 6) (l' := [(0, .inr (.inr 1826)), (1, .inr (.inr c)), (3, .inl (r : Int)), (4, .inl ((i : Int) + 1)), (5, .inl ((y : Int) + 1)), (6, .inl (H1.1 1837 ((48 * r) + y))), (7, .inl (H1.1 c i))]) (st' := []) rfl ?_
          refine h_loc [0, 1, 3, 4, 5] rfl ?_
          rw [show ((i : Int) + 1) = (((i + 1) : Nat) : Int) by omega]
          rw [show ((y : Int) + 1) = (((y + 1) : Nat) : Int) by omega]
          exact ih _ (y + 1) (i + 1) (m - 1 + qp) (kk1) hf (by omega) hl4 hT4 (by omega) (fpos_c (by omega) hpo) (MU_s hmu (Or.inr (by rw [← hpo]; omega))) (BV_c hbv (by omega)) (by omega : kl - (y + 1) < w)
      · have hq0 : qp = 0 := by rw [ma_0 (by omega)] at hqp; omega
        obtain ⟨k1, k2, hkk2, hs1, hs2⟩ := tm_split (n := 1) (n2 := m - 1 + qp) (by rw [show 1 + (m - 1 + qp) = m by omega]; exact hT2)
        refine h_run 6 (pc' := 57) (l' := [(0, .inr (.inr 1826)), (1, .inr (.inr c)), (3, .inl (r : Int)), (4, .inl (i : Int)), (5, .inl (y : Int)), (6, .inl (H1.1 1837 ((48 * r) + y))), (7, .inl (H1.1 c i))]) (st' := [.inl (i : Int), .inl ((H1.1 1837 ((48 * r) + y)) - 1000), .inr (.inr 1855)]) rfl ?_
        refine h_ist (c := 1855) (j := (((H1.1 1837 ((48 * r) + y)) - 1000)).toNat) (i := ((H1.1 1837 ((48 * r) + y)) - 1000)) (x := (i : Int)) rfl rfl (by decide) (by decide) (by omega) (by omega) (by omega) ?_
        refine h_run 3 (pc' := 62) (l' := [(0, .inr (.inr 1826)), (1, .inr (.inr c)), (3, .inl (r : Int)), (4, .inl (i : Int)), (5, .inl (y : Int)), (6, .inl (H1.1 1837 ((48 * r) + y))), (7, .inl (H1.1 c i))]) (st' := [.inl (i : Int), .inr (.inr c), .inr (.inr 1826)]) rfl ?_
        refine h_cv (i := 427) (j := 155) (b := 1826) (M' := mt_155) (xs := [.inl (i : Int), .inr (.inr c)]) (rest := []) rfl rfl rfl rfl rfl rfl (Nat.le_of_ble_eq_true rfl) (Nat.le_of_ble_eq_true rfl) (by omega) (m_behind (by omega) (n := n) (a := i) (k := k1) hc hn (by show tm (ma (H1.1 1833) (H1.1 1830)) sg0 ((zu H1 1855 _).1 c) k1 i 1; rw [zu_ne (k := c) _ _ (fun e9 => hcm.2 (by rw [e9]; decide)), eFA, eCA, eC]; exact tm_at (tm_sg0 hs1 hok) (fun x hx => hA (i + x) (by omega))) (by omega)) ?_
        rintro _ _ ⟨rfl, rfl⟩
        refine h_run 0 (pc' := 65) (l' := [(0, .inr (.inr 1826)), (1, .inr (.inr c)), (3, .inl (r : Int)), (4, .inl (i : Int)), (5, .inl (y : Int)), (6, .inl (H1.1 1837 ((48 * r) + y))), (7, .inl (H1.1 c i))]) (st' := [.inl ((i + k1 : Nat) : Int)]) rfl ?_
        refine h_run 4 (pc' := 6) (l' := [(0, .inr (.inr 1826)), (1, .inr (.inr c)), (3, .inl (r : Int)), (4, .inl ((i + k1 : Nat) : Int)), (5, .inl ((y : Int) + 1)), (6, .inl (H1.1 1837 ((48 * r) + y))), (7, .inl (H1.1 c i))]) (st' := []) rfl ?_
        refine h_loc [0, 1, 3, 4, 5] rfl ?_
        rw [show ((y : Int) + 1) = (((y + 1) : Nat) : Int) by omega]
        exact ih _ (y + 1) (i + k1) (m - 1 + qp) (k2) (fr_a hf (by decide)) (by omega) hl4 hs2 (by omega) (fpos_v (by omega) hpo hs1 (by omega)) (MU_s hmu (Or.inl (by omega))) (by show BV (ma (H.1 1833) (H.1 1830)) L g a (y + 1) (up (H1.1 1855) ((H1.1 1837) (48 * r + y) - 1000).toNat i); rw [show (H1.1 1837) (48 * r + y) = L y by omega]; exact BV_v hbv (by omega) hpo) (by omega : kl - (y + 1) < w)
set_option maxRecDepth 100000 in
theorem n_fits {zC : Nat → Option zsh} {d : Nat} (hd : 3 ≤ d) {H : hp} {c n a r k kl q : Nat} {ok : Int → Prop} {L g : Nat → Int} (hc : zs zC c = some (.inr (.int, n))) (hn : n ≤ 100000) (hcm : c ≠ 1826 ∧ c ∉ [1855]) (hok : ∀ s, ok s → sg0 s) (hP : PWc H) (hr : (r : Int) < (H.1 1826 13)) (hL : (H.1 1838) r = kl ∧ kl ≤ 39) (hl : tm (ma (H.1 1833) (H.1 1830)) (m_sp (H.1 1826 3)) (H.1 1837) kl (48 * r) q) (hT : tm (ma (H.1 1833) (H.1 1830)) ok g k a q) (hb : a + k ≤ n ∧ a + k ≤ 400) (hA : ∀ x, x < a + k → H.1 c x = g x) (hLL : ∀ x, x < kl → L x = (H.1 1837) (48 * r + x)) : hG (zs zC) d mt_197 0 (zargs 0 [.inr (.inr 1826), .inr (.inr c), .inl (a : Int), .inl (r : Int)]) [] H (fun r9 H2 => fr [50] [1855] H H2 ∧ ∃ r0 : Int, r9 = some (.inl r0) ∧ ∃ w0 : Nat, fitR (ma (H.1 1833) (H.1 1830)) L g kl a kl = (r0, w0) ∧ (r0 = 2 → (H2.1 1826 50) = (w0 : Int)) ∧ (r0 = 0 → BV (ma (H.1 1833) (H.1 1830)) L g a kl (H2.1 1855))) := by
  refine h_rng (fun hrg0 => ?_)
  refine h_run 0 (pc' := 0) (l' := [(0, .inr (.inr 1826)), (1, .inr (.inr c)), (2, .inl (a : Int)), (3, .inl (r : Int))]) (st' := []) rfl ?_
  obtain ⟨⟨pb1, pb2, pb3, pb4, pb5⟩, pw1, pw2, pw3, pw4⟩ := (id hP : PW H (H.1 1826 1) (H.1 1826 3) (H.1 1826 8) (H.1 1826 13) (H.1 1826 19))
  refine h_run 4 (pc' := 6) (l' := [(0, .inr (.inr 1826)), (1, .inr (.inr c)), (2, .inl (a : Int)), (3, .inl (r : Int)), (4, .inl (a : Int)), (5, .inl 0)]) (st' := []) rfl ?_
  refine h_loc [0, 1, 3, 4, 5] rfl ?_
  exact (n_fits_cut hd hc hn hcm hok hP hr hL hl hT hb hA hLL _) _ 0 a (q) (k) (fr_rf _ _ _) (by omega) hl hT (by omega) rfl MU_0 BV_0 (Nat.lt_succ_self _)

/-! match -/
set_option maxRecDepth 100000 in
theorem n_match_cut {zC : Nat → Option zsh} {d : Nat} (hd : 4 ≤ d) {H : hp} {c n p k : Nat} {ok : Int → Prop} {X : rx} {g : Nat → Int} (hc : zs zC c = some (.inr (.int, n))) (hn : n ≤ 100000) (hcm : c ≠ 1826 ∧ c ∉ [1855]) (hok : ∀ s, ok s → sg0 s) (hP : PWc H) (hX : RZ9 H X) (hT : tm (ma (H.1 1833) (H.1 1830)) ok g k p 1) (hb : p + k ≤ n ∧ p + k ≤ 400) (hA : ∀ x, x < p + k → H.1 c x = g x) (hs : 100 ≤ g p ∧ g p < 100 + (H.1 1826 8)) : ∀ w : Nat, (∀ (H1 : hp) (i : Nat), (fr [50, 51] [1855] H H1) → ((i : Int) ≤ (H.1 1826 13)) → (mtR (ma (H.1 1833) (H.1 1830)) X g p ((H.1 1826 13)).toNat ((H.1 1826 13)).toNat = mtR (ma (H.1 1833) (H.1 1830)) X g p ((H.1 1826 13)).toNat (((H.1 1826 13)).toNat - i)) → ((H.1 1826 13) - i).toNat < w → hG (zs zC) d mt_196 10 [(0, .inr (.inr 1826)), (1, .inr (.inr c)), (2, .inl (p : Int)), (3, .inl ((H.1 c p) - 100)), (4, .inl (i : Int))] [] H1 (fun r9 H2 => fr [50, 51] [1855] H H2 ∧ ∃ r0 : Int, r9 = some (.inl r0) ∧ ∃ w0 r : Nat, mR (ma (H.1 1833) (H.1 1830)) X g p = (r0, w0, r) ∧ (r0 = 2 → (H2.1 1826 50) = (w0 : Int)) ∧ (r0 = 0 → (H2.1 1826 51) = (r : Int) ∧ BV (ma (H.1 1833) (H.1 1830)) (LL X r) g (p + 1) (kL X r) (H2.1 1855)))) := by
  intro w
  induction w with
  | zero => exact fun _ _ _ _ _ h => absurd h (Nat.not_lt_zero _)
  | succ w ih =>
    intro H1 i hf hi hmt hw
    refine h_rng (fun hrg1 => ?_)
    obtain ⟨⟨pb1, pb2, pb3, pb4, pb5⟩, pw1, pw2, pw3, pw4⟩ := (id hP : PW H (H.1 1826 1) (H.1 1826 3) (H.1 1826 8) (H.1 1826 13) (H.1 1826 19))
    have eC : H1.1 c = H.1 c := hf.2.1 c hcm.1 hcm.2
    have hP1 := PWc_fr hP hf (by decide) (by decide)
    have e_ruleLeft : (H1.1 1837) = (H.1 1837) := hf.2.1 1837 (by decide) (by decide)
    have e_ruleLeftSize : (H1.1 1838) = (H.1 1838) := hf.2.1 1838 (by decide) (by decide)
    have e_ruleFun : (H1.1 1836) = (H.1 1836) := hf.2.1 1836 (by decide) (by decide)
    have e_funArity : (H1.1 1833) = (H.1 1833) := hf.2.1 1833 (by decide) (by decide)
    have e_conArity : (H1.1 1830) = (H.1 1830) := hf.2.1 1830 (by decide) (by decide)
    have eru : (H1.1 1826 13) = (H.1 1826 13) := hf.2.2 13 (by decide)
    have eco : (H1.1 1826 3) = (H.1 1826 3) := hf.2.2 3 (by decide)
    obtain ⟨k1, hk1⟩ : ∃ k1, k = k1 + 1 := ⟨k - 1, by have := tm_le hT; omega⟩
    have hkp : 1 ≤ k := tm_le hT
    have hA0 := hA p (by omega)
    refine h_run 3 (pc' := 16) (l' := [(0, .inr (.inr 1826)), (1, .inr (.inr c)), (2, .inl (p : Int)), (3, .inl ((H.1 c p) - 100)), (4, .inl (i : Int))]) (st' := [.inl (H1.1 1826 13), .inl (i : Int)]) rfl ?_
    have g2 : -2147483648 ≤ (H1.1 1826 13) ∧ (H1.1 1826 13) ≤ 2147483647 := hrg1.1 1826 13 13 _ .int rfl rfl
    have e3 : (H1.1 1826 13) = (H.1 1826 13) := hf.2.2 13 (by decide)
    refine h_ige (off := 47) (t := 63) rfl rfl (by omega) (by omega) (fun c4 => ?_) (fun c4 => ?_)
    · refine h_run 1 (pc' := 64) (l' := [(0, .inr (.inr 1826)), (1, .inr (.inr c)), (2, .inl (p : Int)), (3, .inl ((H.1 c p) - 100)), (4, .inl (i : Int))]) (st' := [.inl 1]) rfl ?_
      refine h_reti (x := 1) rfl rfl ?_
      exact ⟨hf, 1, rfl, 0, 0, (by unfold mR nR; rw [hX.1, hmt, show i = ((H.1 1826 13)).toNat by omega]; exact mt_end), fun q => absurd q (by decide), fun q => absurd q (by decide)⟩
    · have hx3 := (hX.2 i (by rw [hX.1]; omega)).1
      have hx1 := hx3.1
      have ef : H1.1 1836 i = H.1 1836 i := by rw [e_ruleFun]
      refine h_run 3 (pc' := 25) (l' := [(0, .inr (.inr 1826)), (1, .inr (.inr c)), (2, .inl (p : Int)), (3, .inl ((H.1 c p) - 100)), (4, .inl (i : Int))]) (st' := [.inl (i : Int), .inr (.inr 1836)]) rfl ?_
      refine h_ild (c := 1836) (j := i) (i := (i : Int)) rfl rfl (by decide) rfl (by omega) ?_
      have g5 : -2147483648 ≤ (H1.1 1836 i) ∧ (H1.1 1836 i) ≤ 2147483647 := hrg1.2 1836 i 40 .int rfl (by omega)
      have e6 : (H1.1 1836 i) = (H.1 1836 i) := congrFun (hf.2.1 1836 (by decide) (by decide)) i
      refine h_run 0 (pc' := 26) (l' := [(0, .inr (.inr 1826)), (1, .inr (.inr c)), (2, .inl (p : Int)), (3, .inl ((H.1 c p) - 100)), (4, .inl (i : Int))]) (st' := [.inl (H1.1 1836 i)]) rfl ?_
      refine h_run 1 (pc' := 27) (l' := [(0, .inr (.inr 1826)), (1, .inr (.inr c)), (2, .inl (p : Int)), (3, .inl ((H.1 c p) - 100)), (4, .inl (i : Int))]) (st' := [.inl ((H.1 c p) - 100), .inl (H1.1 1836 i)]) rfl ?_
      refine h_ine (off := 30) (t := 57) rfl rfl (by omega) (by omega) (fun c7 => ?_) (fun c7 => ?_)
      · refine h_run 2 (pc' := 10) (l' := [(0, .inr (.inr 1826)), (1, .inr (.inr c)), (2, .inl (p : Int)), (3, .inl ((H.1 c p) - 100)), (4, .inl ((i : Int) + 1))]) (st' := []) rfl ?_
        rw [show ((i : Int) + 1) = (((i + 1) : Nat) : Int) by omega]
        exact ih _ (i + 1) hf (by omega) (hmt.trans (mt_skip (i := i) (by omega) (fun q9 => by have q8 := q9.1; omega))) (by omega : ((H.1 1826 13) - (i + 1)).toNat < w)
      · obtain ⟨f, kl, kr, q, ⟨f0, f1⟩, ⟨f2, f3⟩, -, f5, f6, -, -⟩ := pw3 i (by omega)
        have hff : g p = 100 + (f : Int) := by omega
        have hT9 : tm (ma (H.1 1833) (H.1 1830)) ok g k1 (p + 1) q := by rw [hk1] at hT; obtain ⟨-, -, m9, h9, -, h8⟩ := hT; rw [hff, ma_f (by omega), show ((100 : Int) + f - 100).toNat = f by omega, f5] at h9; rw [show q = 1 - 1 + m9 by omega]; exact h8
        have hk9 := hx3.2.1
        have ek9 : kL X i = kl := by unfold kL; omega
        refine h_run 6 (pc' := 37) (l' := [(0, .inr (.inr 1826)), (1, .inr (.inr c)), (2, .inl (p : Int)), (3, .inl ((H.1 c p) - 100)), (4, .inl (i : Int))]) (st' := [.inl (i : Int), .inl ((p : Int) + 1), .inr (.inr c), .inr (.inr 1826)]) rfl ?_
        refine h_cv (i := 420) (j := 197) (b := 1826) (M' := mt_197) (xs := [.inl (i : Int), .inl ((p : Int) + 1), .inr (.inr c)]) (rest := []) rfl rfl rfl rfl rfl rfl (Nat.le_of_ble_eq_true rfl) (Nat.le_of_ble_eq_true rfl) (by omega) (n_fits (by omega) (r := i) (a := p + 1) (k := k1) (kl := kl) (q := q) (ok := ok) (L := LL X i) (g := g) hc hn hcm hok hP1 (by omega) ⟨by rw [e_ruleLeftSize]; exact f2, f3⟩ (by rw [e_ruleLeft, e_funArity, e_conArity, eco]; exact f6) (by rw [e_funArity, e_conArity]; exact hT9) (by omega) (fun x hx => by rw [eC]; exact hA x (by omega)) (fun x hx => by rw [e_ruleLeft]; exact (hx3.2.2 x (by omega)).symm)) ?_
        rintro _ H8 ⟨hx8f, hx8r, rfl, hx8w, hx8d, hx8p, hx8q⟩
        refine h_rng (fun hrg9 => ?_)
        have hf10 : fr [50, 51] [1855] H H8 := fr_t hf hx8f (by decide) (by decide)
        rw [e_funArity, e_conArity] at hx8d hx8q
        have hx8b : 0 ≤ hx8r ∧ hx8r ≤ 3 := by have q9 := fitR_b (ar := (ma (H.1 1833) (H.1 1830))) (L := LL X i) (a := g) (kl := kl) (p := p + 1) kl; rw [hx8d] at q9; exact q9
        have hx8e : (fR (ma (H.1 1833) (H.1 1830)) X g p i).1 = hx8r ∧ (fR (ma (H.1 1833) (H.1 1830)) X g p i).2 = hx8w := by unfold fR; rw [ek9, hx8d]; exact ⟨rfl, rfl⟩
        replace hx8p : hid _ := hx8p
        replace hx8q : hid _ := hx8q
        refine h_run 0 (pc' := 40) (l' := [(0, .inr (.inr 1826)), (1, .inr (.inr c)), (2, .inl (p : Int)), (3, .inl ((H.1 c p) - 100)), (4, .inl (i : Int))]) (st' := [.inl hx8r]) rfl ?_
        refine h_run 3 (pc' := 45) (l' := [(0, .inr (.inr 1826)), (1, .inr (.inr c)), (2, .inl (p : Int)), (3, .inl ((H.1 c p) - 100)), (4, .inl (i : Int)), (5, .inl hx8r)]) (st' := [.inl 3, .inl hx8r]) rfl ?_
        refine h_ieq (off := 12) (t := 57) rfl rfl (by omega) (by decide) (fun c11 => ?_) (fun c11 => ?_)
        · refine h_run 2 (pc' := 10) (l' := [(0, .inr (.inr 1826)), (1, .inr (.inr c)), (2, .inl (p : Int)), (3, .inl ((H.1 c p) - 100)), (4, .inl ((i : Int) + 1)), (5, .inl hx8r)]) (st' := []) rfl ?_
          refine h_loc [0, 1, 2, 3, 4] rfl ?_
          rw [show ((i : Int) + 1) = (((i + 1) : Nat) : Int) by omega]
          exact ih _ (i + 1) hf10 (by omega) (hmt.trans (mt_skip (i := i) (by omega) (fun q9 => q9.2 (by omega)))) (by omega : ((H.1 1826 13) - (i + 1)).toNat < w)
        · refine h_run 2 (pc' := 51) (l' := [(0, .inr (.inr 1826)), (1, .inr (.inr c)), (2, .inl (p : Int)), (3, .inl ((H.1 c p) - 100)), (4, .inl (i : Int)), (5, .inl hx8r)]) (st' := [.inl (i : Int), .inr (.inr 1826)]) rfl ?_
          refine h_puti (i := 424) (ci := 13) (k := 51) (a := 1826) (x := (i : Int)) rfl rfl rfl rfl rfl rfl (by decide) (by omega) ?_
          refine h_run 1 (pc' := 56) (l' := [(0, .inr (.inr 1826)), (1, .inr (.inr c)), (2, .inl (p : Int)), (3, .inl ((H.1 c p) - 100)), (4, .inl (i : Int)), (5, .inl hx8r)]) (st' := [.inl hx8r]) rfl ?_
          refine h_reti (x := hx8r) rfl rfl ?_
          have e3 : (fR (ma (H.1 1833) (H.1 1830)) X g p i).1 ≠ 3 := by omega
          have e4 := (hmt.trans (mt_hit (i := i) (by omega) ⟨by omega, e3⟩))
          rw [hx8e.1, hx8e.2] at e4
          exact ⟨(fr_o hf10 (by decide)), _, rfl, _, i, (by unfold mR nR; rw [hX.1]; exact e4), (id hx8p : _ → _), fun q9 => ⟨rfl, (by rw [ek9]; exact (id hx8q : _ → _) q9)⟩⟩
set_option maxRecDepth 100000 in
theorem n_match {zC : Nat → Option zsh} {d : Nat} (hd : 4 ≤ d) {H : hp} {c n p k : Nat} {ok : Int → Prop} {X : rx} {g : Nat → Int} (hc : zs zC c = some (.inr (.int, n))) (hn : n ≤ 100000) (hcm : c ≠ 1826 ∧ c ∉ [1855]) (hok : ∀ s, ok s → sg0 s) (hP : PWc H) (hX : RZ9 H X) (hT : tm (ma (H.1 1833) (H.1 1830)) ok g k p 1) (hb : p + k ≤ n ∧ p + k ≤ 400) (hA : ∀ x, x < p + k → H.1 c x = g x) (hs : 100 ≤ g p ∧ g p < 100 + (H.1 1826 8)) : hG (zs zC) d mt_196 0 (zargs 0 [.inr (.inr 1826), .inr (.inr c), .inl (p : Int)]) [] H (fun r9 H2 => fr [50, 51] [1855] H H2 ∧ ∃ r0 : Int, r9 = some (.inl r0) ∧ ∃ w0 r : Nat, mR (ma (H.1 1833) (H.1 1830)) X g p = (r0, w0, r) ∧ (r0 = 2 → (H2.1 1826 50) = (w0 : Int)) ∧ (r0 = 0 → (H2.1 1826 51) = (r : Int) ∧ BV (ma (H.1 1833) (H.1 1830)) (LL X r) g (p + 1) (kL X r) (H2.1 1855))) := by
  refine h_rng (fun hrg0 => ?_)
  refine h_run 0 (pc' := 0) (l' := [(0, .inr (.inr 1826)), (1, .inr (.inr c)), (2, .inl (p : Int))]) (st' := []) rfl ?_
  obtain ⟨⟨pb1, pb2, pb3, pb4, pb5⟩, pw1, pw2, pw3, pw4⟩ := (id hP : PW H (H.1 1826 1) (H.1 1826 3) (H.1 1826 8) (H.1 1826 13) (H.1 1826 19))
  have hkp : 1 ≤ k := tm_le hT
  have hA0 := hA p (by omega)
  refine h_run 2 (pc' := 2) (l' := [(0, .inr (.inr 1826)), (1, .inr (.inr c)), (2, .inl (p : Int))]) (st' := [.inl (p : Int), .inr (.inr c)]) rfl ?_
  refine h_ild (c := c) (j := p) (i := (p : Int)) rfl hc (by omega) rfl (by omega) ?_
  have g12 : -2147483648 ≤ (H.1 c p) ∧ (H.1 c p) ≤ 2147483647 := hrg0.2 c p n .int hc (by omega)
  refine h_run 0 (pc' := 3) (l' := [(0, .inr (.inr 1826)), (1, .inr (.inr c)), (2, .inl (p : Int))]) (st' := [.inl (H.1 c p)]) rfl ?_
  refine h_run 5 (pc' := 10) (l' := [(0, .inr (.inr 1826)), (1, .inr (.inr c)), (2, .inl (p : Int)), (3, .inl ((H.1 c p) - 100)), (4, .inl 0)]) (st' := []) rfl ?_
  exact (n_match_cut hd hc hn hcm hok hP hX hT hb hA hs _) _ 0 (fr_rf _ _ _) (by omega) (by rw [Nat.sub_zero]) (Nat.lt_succ_self _)
