/-! told, told exactly -/
/-- what told answers -/
def TLx (kf : Nat → Nat) (H : hp) (x r0 : Int) : Prop := (r0 = -103 ∧ H.1 1826 67 = -1) ∨ ∃ l nv : Nat, (H.1 1826 67 = (l : Int) ∧ H.1 1845 l = (nv : Int)) ∧ ((r0 = -101 ∧ (x < 0 ∨ (nv : Int) ≤ x)) ∨ ∃ v : Nat, x = (v : Int) ∧ v < nv ∧ r0 = bs (ma (H.1 1833) (H.1 1830)) (lenR (H.1 1832) (H.1 1828)) (fun y => H.1 1867 (7 * v + y)) (kf v))
/-! told -/
set_option maxRecDepth 100000 in
theorem n_told_cut {zC : Nat → Option zsh} {d : Nat} (hd : 4 ≤ d) {H : hp} {x : Int} {kf : Nat → Nat} (hP : PWc H) (hTx : (H.1 1826 67) = -1 ∨ ∃ l : Nat, (H.1 1826 67) = (l : Int) ∧ (l : Int) < (H.1 1826 19) ∧ ∀ v : Nat, (v : Int) < (H.1 1845) l → (1 ≤ kf v ∧ kf v ≤ 6) ∧ tm (ma (H.1 1833) (H.1 1830)) (m_sg (H.1 1826 3) (H.1 1826 8) 0) (H.1 1867) (kf v) (7 * v) 1) (hou : 0 ≤ (H.1 1826 59) ∧ (H.1 1826 59) ≤ 8000) (hnl : ∀ s9 : Int, m_sg (H.1 1826 3) (H.1 1826 8) 0 s9 → 1 ≤ lenR (H.1 1832) (H.1 1828) s9) (hx : -2147483648 ≤ x ∧ x ≤ 2147483647) : ∀ w : Nat, (∀ (H1 : hp) (v : Nat) (i : Nat) (hl9 : Nat) (hn9 : Nat), (fr [59] [1858, 1859, 1860, 1870] H H1) → (1 ≤ kf v ∧ kf v ≤ 6) → (tm (ma (H.1 1833) (H.1 1830)) (m_sg (H.1 1826 3) (H.1 1826 8) 0) (H.1 1867) (kf v) (7 * v) 1) → ((H.1 1826 67) = (hl9 : Int) ∧ (H.1 1845) hl9 = (hn9 : Int)) → (x = (v : Int)) → (v < hn9 ∧ v < 6) → (i ≤ 7) → (∀ y, y < i → (H1.1 1870) y = (H.1 1867) (7 * v + y)) → 100 - i < w → hG (zs zC) d mt_220 33 [(0, .inr (.inr 1826)), (1, .inl (v : Int)), (2, .inl (i : Int))] [] H1 (fun r9 H2 => fr [59] [1858, 1859, 1860, 1870] H H2 ∧ (0 ≤ (H2.1 1826 59) ∧ (H2.1 1826 59) ≤ 8000) ∧ ∃ r0 : Int, r9 = some (.inl r0) ∧ TLx kf H x r0)) := by
  intro w
  induction w with
  | zero => exact fun _ _ _ _ _ _ _ _ _ _ _ _ _ h => absurd h (Nat.not_lt_zero _)
  | succ w ih =>
    intro H1 v i hl9 hn9 hf hkt ht3 hln9 hxv hv hi hcp hw
    refine h_rng (fun hrg1 => ?_)
    obtain ⟨⟨pb1, pb2, pb3, pb4, pb5⟩, pw1, pw2, pw3, pw4⟩ := (id hP : PW H (H.1 1826 1) (H.1 1826 3) (H.1 1826 8) (H.1 1826 13) (H.1 1826 19))
    refine h_run 2 (pc' := 36) (l' := [(0, .inr (.inr 1826)), (1, .inl (v : Int)), (2, .inl (i : Int))]) (st' := [.inl 7, .inl (i : Int)]) rfl ?_
    refine h_ige (off := 26) (t := 62) rfl rfl (by omega) (by decide) (fun c2 => ?_) (fun c2 => ?_)
    · refine h_run 4 (pc' := 68) (l' := [(0, .inr (.inr 1826)), (1, .inl (v : Int)), (2, .inl (i : Int))]) (st' := [.inl 0, .inr (.inr 1870), .inr (.inr 1826)]) rfl ?_
      have hP1 : PWc H1 := PWc_fr hP hf (by decide) (by decide)
      have eFN : (H1.1 1832) = (H.1 1832) := hf.2.1 1832 (by decide) (by decide)
      have eCN : (H1.1 1828) = (H.1 1828) := hf.2.1 1828 (by decide) (by decide)
      have eFA : (H1.1 1833) = (H.1 1833) := hf.2.1 1833 (by decide) (by decide)
      have eCA : (H1.1 1830) = (H.1 1830) := hf.2.1 1830 (by decide) (by decide)
      have hTn : tm (ma (H.1 1833) (H.1 1830)) (m_sg (H.1 1826 3) (H.1 1826 8) 0) (H1.1 1870) (kf v) 0 1 := tm_at ht3 (fun y8 h8 => by rw [Nat.zero_add]; exact hcp y8 (by omega))
      have hwn := tm_wn hTn
      have hln : ∀ i : Nat, i < kf v → 1 ≤ lenR (H.1 1832) (H.1 1828) ((H1.1 1870) i) := fun i hi9 => hnl _ (by have q9 := tm_ok hTn i hi9; rw [Nat.zero_add] at q9; exact q9)
      refine h_cv (i := 466) (j := 206) (b := 1826) (M' := mt_206) (xs := [.inl 0, .inr (.inr 1870)]) (rest := []) rfl rfl rfl rfl rfl rfl (Nat.le_of_ble_eq_true rfl) (Nat.le_of_ble_eq_true rfl) (by omega) (n_print (c := 1870) (n := 400) (k := kf v) (ok := m_sg (H.1 1826 3) (H.1 1826 8) 0) (by omega) rfl (by decide) (by decide) (fun s9 h9 => by unfold m_sg at h9; unfold sg0; omega) hP1 (by rw [eFA, eCA]; exact hTn) ⟨by omega, by omega⟩ hkt.1 (by show ∀ i : Nat, i < kf v → 1 ≤ wn (ma (H1.1 1833) (H1.1 1830)) (H1.1 1870) i; rw [eFA, eCA]; exact hwn.1) (by show wn (ma (H1.1 1833) (H1.1 1830)) (H1.1 1870) (kf v) = 0; rw [eFA, eCA]; exact hwn.2) (by show ∀ i : Nat, i < kf v → 1 ≤ lenR (H1.1 1832) (H1.1 1828) ((H1.1 1870) i); rw [eFN, eCN]; exact hln)) ?_
      rintro _ H3 ⟨rfl, hfH3, hoH3⟩
      refine h_rng (fun hrg4 => ?_)
      have hf5 : fr [59] [1858, 1859, 1860, 1870] H H3 := fr_t hf hfH3 (by decide) (by decide)
      have hoeH3 : (H3.1 1826 59) = bs (ma (H.1 1833) (H.1 1830)) (lenR (H.1 1832) (H.1 1828)) (fun y => (H.1 1867) (7 * v + y)) (kf v) := hoH3.trans (by show bs (ma (H1.1 1833) (H1.1 1830)) (lenR (H1.1 1832) (H1.1 1828)) (H1.1 1870) (kf v) = _; rw [eFA, eCA, eFN, eCN]; exact bs_cg (fun i hi9 => by rw [hcp i (by omega)]; exact ⟨rfl, rfl⟩))
      have hob := bs_b (ar := (ma (H.1 1833) (H.1 1830))) (len := (lenR (H.1 1832) (H.1 1828))) (a := fun y => (H.1 1867) (7 * v + y)) (fun c9 => lenR_b _ _ c9) (kf v)
      refine h_run 0 (pc' := 71) (l' := [(0, .inr (.inr 1826)), (1, .inl (v : Int)), (2, .inl (i : Int))]) (st' := []) rfl ?_
      refine h_run 2 (pc' := 75) (l' := [(0, .inr (.inr 1826)), (1, .inl (v : Int)), (2, .inl (i : Int))]) (st' := [.inl (H3.1 1826 59)]) rfl ?_
      have g6 : -2147483648 ≤ (H3.1 1826 59) ∧ (H3.1 1826 59) ≤ 2147483647 := hrg4.1 1826 13 59 _ .int rfl rfl
      refine h_reti (x := (H3.1 1826 59)) rfl rfl ?_
      exact ⟨hf5, (by omega), _, rfl, Or.inr ⟨hl9, hn9, hln9, Or.inr ⟨v, hxv, by omega, hoeH3⟩⟩⟩
    · refine h_run 10 (pc' := 54) (l' := [(0, .inr (.inr 1826)), (1, .inl (v : Int)), (2, .inl (i : Int))]) (st' := [.inl ((7 * (v : Int)) + (i : Int)), .inr (.inr 1867), .inl (i : Int), .inr (.inr 1870)]) rfl ?_
      refine h_ild (c := 1867) (j := ((7 * v) + i)) (i := ((7 * (v : Int)) + (i : Int))) rfl rfl (by decide) (by omega) (by omega) ?_
      have g7 : -2147483648 ≤ (H1.1 1867 ((7 * v) + i)) ∧ (H1.1 1867 ((7 * v) + i)) ≤ 2147483647 := hrg1.2 1867 ((7 * v) + i) 42 .int rfl (by omega)
      have e8 : (H1.1 1867 ((7 * v) + i)) = (H.1 1867 ((7 * v) + i)) := congrFun (hf.2.1 1867 (by decide) (by decide)) ((7 * v) + i)
      refine h_run 0 (pc' := 55) (l' := [(0, .inr (.inr 1826)), (1, .inl (v : Int)), (2, .inl (i : Int))]) (st' := [.inl (H1.1 1867 ((7 * v) + i)), .inl (i : Int), .inr (.inr 1870)]) rfl ?_
      refine h_ist (c := 1870) (j := i) (i := (i : Int)) (x := (H1.1 1867 ((7 * v) + i))) rfl rfl (by decide) (by decide) rfl (by omega) (by omega) ?_
      refine h_run 2 (pc' := 33) (l' := [(0, .inr (.inr 1826)), (1, .inl (v : Int)), (2, .inl ((i : Int) + 1))]) (st' := []) rfl ?_
      rw [show ((i : Int) + 1) = (((i + 1) : Nat) : Int) by omega]
      exact ih _ v (i + 1) (hl9) (hn9) (fr_a hf (by decide)) hkt ht3 hln9 hxv (by omega) (by omega) (fun y8 h8 => by by_cases e8 : y8 = i; { rw [e8]; exact (up_eq _ _ _).trans (congrFun (hf.2.1 1867 (by decide) (by decide)) _) }; { exact (up_ne _ _ e8).trans (hcp y8 (by omega)) }) (by omega : 100 - (i + 1) < w)
set_option maxRecDepth 100000 in
theorem n_told {zC : Nat → Option zsh} {d : Nat} (hd : 4 ≤ d) {H : hp} {x : Int} {kf : Nat → Nat} (hP : PWc H) (hTx : (H.1 1826 67) = -1 ∨ ∃ l : Nat, (H.1 1826 67) = (l : Int) ∧ (l : Int) < (H.1 1826 19) ∧ ∀ v : Nat, (v : Int) < (H.1 1845) l → (1 ≤ kf v ∧ kf v ≤ 6) ∧ tm (ma (H.1 1833) (H.1 1830)) (m_sg (H.1 1826 3) (H.1 1826 8) 0) (H.1 1867) (kf v) (7 * v) 1) (hou : 0 ≤ (H.1 1826 59) ∧ (H.1 1826 59) ≤ 8000) (hnl : ∀ s9 : Int, m_sg (H.1 1826 3) (H.1 1826 8) 0 s9 → 1 ≤ lenR (H.1 1832) (H.1 1828) s9) (hx : -2147483648 ≤ x ∧ x ≤ 2147483647) : hG (zs zC) d mt_220 0 (zargs 0 [.inr (.inr 1826), .inl x]) [] H (fun r9 H2 => fr [59] [1858, 1859, 1860, 1870] H H2 ∧ (0 ≤ (H2.1 1826 59) ∧ (H2.1 1826 59) ≤ 8000) ∧ ∃ r0 : Int, r9 = some (.inl r0) ∧ TLx kf H x r0) := by
  refine h_rng (fun hrg0 => ?_)
  refine h_run 0 (pc' := 0) (l' := [(0, .inr (.inr 1826)), (1, .inl x)]) (st' := []) rfl ?_
  obtain ⟨⟨pb1, pb2, pb3, pb4, pb5⟩, pw1, pw2, pw3, pw4⟩ := (id hP : PW H (H.1 1826 1) (H.1 1826 3) (H.1 1826 8) (H.1 1826 13) (H.1 1826 19))
  refine h_run 2 (pc' := 4) (l' := [(0, .inr (.inr 1826)), (1, .inl x)]) (st' := [.inl (H.1 1826 67)]) rfl ?_
  have g9 : -2147483648 ≤ (H.1 1826 67) ∧ (H.1 1826 67) ≤ 2147483647 := hrg0.1 1826 13 67 _ .int rfl rfl
  refine h_run 1 (pc' := 5) (l' := [(0, .inr (.inr 1826)), (1, .inl x)]) (st' := [.inl (-1), .inl (H.1 1826 67)]) rfl ?_
  refine h_ine (off := 6) (t := 11) rfl rfl (by omega) (by decide) (fun c10 => ?_) (fun c10 => ?_)
  · obtain ⟨l, htl, hl, hTv⟩ : ∃ l : Nat, (H.1 1826 67) = (l : Int) ∧ (l : Int) < (H.1 1826 19) ∧ ∀ v : Nat, (v : Int) < (H.1 1845) l → (1 ≤ kf v ∧ kf v ≤ 6) ∧ tm (ma (H.1 1833) (H.1 1830)) (m_sg (H.1 1826 3) (H.1 1826 8) 0) (H.1 1867) (kf v) (7 * v) 1 := by rcases hTx with h9 | h9; { exact absurd h9 (by omega) }; { exact h9 }
    obtain ⟨v9, ⟨lv1, lv2⟩, lv3, lv4⟩ := pw4 l (by omega)
    refine h_run 1 (pc' := 12) (l' := [(0, .inr (.inr 1826)), (1, .inl x)]) (st' := [.inl x]) rfl ?_
    refine h_zlt (off := 16) (t := 28) rfl rfl (by omega) (fun c11 => ?_) (fun c11 => ?_)
    · refine h_run 1 (pc' := 30) (l' := [(0, .inr (.inr 1826)), (1, .inl x)]) (st' := [.inl (-101)]) rfl ?_
      refine h_reti (x := (-101)) rfl rfl ?_
      exact ⟨(fr_rf _ _ _), hou, _, rfl, Or.inr ⟨l, v9, ⟨htl, lv1⟩, Or.inl ⟨rfl, by omega⟩⟩⟩
    · refine h_run 5 (pc' := 24) (l' := [(0, .inr (.inr 1826)), (1, .inl x)]) (st' := [.inl (H.1 1826 67), .inr (.inr 1845), .inl x]) rfl ?_
      rw [show (H.1 1826 67) = (l : Int) by omega]
      refine h_ild (c := 1845) (j := l) (i := (l : Int)) rfl rfl (by decide) rfl (by omega) ?_
      have g12 : -2147483648 ≤ (H.1 1845 l) ∧ (H.1 1845 l) ≤ 2147483647 := hrg0.2 1845 l 16 .int rfl (by omega)
      refine h_run 0 (pc' := 25) (l' := [(0, .inr (.inr 1826)), (1, .inl x)]) (st' := [.inl (H.1 1845 l), .inl x]) rfl ?_
      refine h_ilt (off := 6) (t := 31) rfl rfl (by omega) (by omega) (fun c13 => ?_) (fun c13 => ?_)
      · obtain ⟨v, rfl⟩ : ∃ k9 : Nat, x = (k9 : Int) := ⟨(x).toNat, by omega⟩
        obtain ⟨hkt, ht3⟩ := hTv v (by omega)
        refine h_run 2 (pc' := 33) (l' := [(0, .inr (.inr 1826)), (1, .inl (v : Int)), (2, .inl 0)]) (st' := []) rfl ?_
        exact (n_told_cut hd hP hTx hou hnl hx _) _ v 0 (l) (v9) (fr_rf _ _ _) hkt ht3 ⟨htl, lv1⟩ rfl (by omega) (by omega) (fun _ h8 => absurd h8 (Nat.not_lt_zero _)) (Nat.lt_succ_self _)
      · refine h_run 1 (pc' := 30) (l' := [(0, .inr (.inr 1826)), (1, .inl x)]) (st' := [.inl (-101)]) rfl ?_
        refine h_reti (x := (-101)) rfl rfl ?_
        exact ⟨(fr_rf _ _ _), hou, _, rfl, Or.inr ⟨l, v9, ⟨htl, lv1⟩, Or.inl ⟨rfl, by omega⟩⟩⟩
  · refine h_run 1 (pc' := 10) (l' := [(0, .inr (.inr 1826)), (1, .inl x)]) (st' := [.inl (-103)]) rfl ?_
    refine h_reti (x := (-103)) rfl rfl ?_
    exact ⟨(fr_rf _ _ _), hou, _, rfl, Or.inl ⟨rfl, by omega⟩⟩

/-! told -/
set_option maxRecDepth 100000 in
theorem q_told {d : Nat} (hd : 5 ≤ d) {H : hp} (hI : Inv H) {a : Int} (ha : -2147483648 ≤ a ∧ a ≤ 2147483647) (hvq : ∀ v : Nat, v < 6 → H.2 377 v = 384 + 4 * v) (htc : H.1 372 10 ≤ 6) (hs9 : ∀ v : Nat, (v : Int) < H.1 372 10 → v < 6 → (1 ≤ H.1 (384 + 4 * v) 1 ∧ H.1 (384 + 4 * v) 1 ≤ 40) ∧ (∀ i : Nat, (i : Int) < H.1 (384 + 4 * v) 1 → 1 ≤ wn aC (H.1 (385 + 4 * v)) i) ∧ wn aC (H.1 (385 + 4 * v)) (H.1 (384 + 4 * v) 1).toNat = 0) : hG (zs zK) d mt_10 0 (zargs 0 [.inr (.inr 1), .inl a]) [] H (fun r9 H9 => ∃ z : Int, r9 = some (.inl z) ∧ ((-2147483648 ≤ z ∧ z ≤ 2147483647)) ∧ Inv H9 ∧ fq [(363, 3)] [364, 365] false H H9 ∧ ((z = -103 ∧ H.1 372 10 < 0) ∨ (z = -101 ∧ 0 ≤ H.1 372 10 ∧ (a < 0 ∨ H.1 372 10 ≤ a)) ∨ ((0 ≤ a ∧ a < H.1 372 10 ∧ a < 6) ∧ z = bs aC (lenC H) (H.1 (385 + 4 * a.toNat)) (H.1 (384 + 4 * a.toNat) 1).toNat ∧ PF [363, 364, 365] H H9))) := by
  obtain ⟨Q9, hQ9⟩ : ∃ Q9 : Option zv → hp → Prop, Q9 = (fun r9 H9 => ∃ z : Int, r9 = some (.inl z) ∧ ((-2147483648 ≤ z ∧ z ≤ 2147483647)) ∧ Inv H9 ∧ fq [(363, 3)] [364, 365] false H H9 ∧ ((z = -103 ∧ H.1 372 10 < 0) ∨ (z = -101 ∧ 0 ≤ H.1 372 10 ∧ (a < 0 ∨ H.1 372 10 ≤ a)) ∨ ((0 ≤ a ∧ a < H.1 372 10 ∧ a < 6) ∧ z = bs aC (lenC H) (H.1 (385 + 4 * a.toNat)) (H.1 (384 + 4 * a.toNat) 1).toNat ∧ PF [363, 364, 365] H H9))) := ⟨_, rfl⟩
  rw [← hQ9]
  refine k_run 0 (pc' := 0) (l' := [(0, .inr (.inr 1)), (1, .inl a)]) (st' := []) rfl ?_
  refine k_run 3 (pc' := 7) (l' := [(0, .inr (.inr 1)), (1, .inl a)]) (st' := [.inl (H.1 372 10)]) rfl ?_
  have g1 : -1 ≤ (H.1 372 10) ∧ (H.1 372 10) ≤ 6 := kn (x := kx_372) hI rfl 10
  refine h_zge (off := 6) (t := 13) rfl rfl (by omega) (fun c2 => ?_) (fun c2 => ?_)
  · refine k_run 0 (pc' := 13) (l' := [(0, .inr (.inr 1)), (1, .inl a)]) (st' := []) rfl ?_
    refine k_run 1 (pc' := 14) (l' := [(0, .inr (.inr 1)), (1, .inl a)]) (st' := [.inl a]) rfl ?_
    refine h_zlt (off := 14) (t := 28) rfl rfl (by omega) (fun c3 => ?_) (fun c3 => ?_)
    · refine k_run 0 (pc' := 28) (l' := [(0, .inr (.inr 1)), (1, .inl a)]) (st' := []) rfl ?_
      refine k_run 1 (pc' := 30) (l' := [(0, .inr (.inr 1)), (1, .inl a)]) (st' := [.inl (-101)]) rfl ?_
      refine h_reti (x := (-101)) rfl rfl ?_
      rw [hQ9]
      exact ⟨_, rfl, (by omega), hI, (fq_rf _ _ _ _), (by first | (exfalso; omega) | exact (Or.inr (Or.inl ⟨rfl, by omega, by omega⟩)))⟩
    · refine k_run 0 (pc' := 17) (l' := [(0, .inr (.inr 1)), (1, .inl a)]) (st' := []) rfl ?_
      refine k_run 4 (pc' := 25) (l' := [(0, .inr (.inr 1)), (1, .inl a)]) (st' := [.inl (H.1 372 10), .inl a]) rfl ?_
      refine h_ilt (off := 6) (t := 31) rfl rfl (by omega) (by omega) (fun c4 => ?_) (fun c4 => ?_)
      · refine k_run 0 (pc' := 31) (l' := [(0, .inr (.inr 1)), (1, .inl a)]) (st' := []) rfl ?_
        refine k_run 6 (pc' := 43) (l' := [(0, .inr (.inr 1)), (1, .inl a)]) (st' := [.inl a, .inr (.inr 377), .inr (.inr 363)]) rfl ?_
        refine k_ald (c := 377) (j := (a).toNat) (i := a) (x := kx_377) rfl rfl (by decide) rfl (by decide) (by omega) (by omega) hI (fun h5 => ?_)
        obtain ⟨t6, et8⟩ : ∃ t9, t9 = H.2 377 (a).toNat := ⟨_, rfl⟩
        rw [← et8] at h5 ⊢
        obtain ⟨n9, k7⟩ := (show (∃ n, isT t6 n) ∧ 369 < t6 from h5).1
        have k7b := k7.2.2.2.2
        refine k_run 0 (pc' := 44) (l' := [(0, .inr (.inr 1)), (1, .inl a)]) (st' := [.inr (.inr t6), .inr (.inr 363)]) rfl ?_
        have hEl : t6 = 384 + 4 * a.toNat := et8.trans (hvq _ (by omega))
        refine k_run 1 (pc' := 45) (l' := [(0, .inr (.inr 1)), (1, .inl a)]) (st' := [.inr (.inl 0), .inr (.inr t6), .inr (.inr 363)]) rfl ?_
        refine h_cv (i := 183) (j := 88) (b := 363) (M' := mt_88) (xs := [.inr (.inl 0), .inr (.inr t6)]) (rest := []) rfl rfl rfl rfl (zs_K (x := kx_363) rfl (by decide)) rfl (Nat.le_of_ble_eq_true rfl) (Nat.le_of_ble_eq_true rfl) (by omega) (q_Printer_print (by omega) hI k7 (by omega) (by rw [hEl]; exact (hs9 a.toNat (by omega) (by omega)).1) (by rw [hEl, show 384 + 4 * a.toNat + 1 = 385 + 4 * a.toNat by omega]; exact (hs9 a.toNat (by omega) (by omega)).2.1) (by rw [hEl, show 384 + 4 * a.toNat + 1 = 385 + 4 * a.toNat by omega]; exact (hs9 a.toNat (by omega) (by omega)).2.2)) ?_
        rintro _ H11 ⟨z16, rfl, g10, hI12, hq13, hx15⟩
        have hf17 : fq [(363, 3)] [364, 365] false H H11 := fq_t (fq_rf _ _ _ _) hq13 rfl rfl rfl
        refine k_run 0 (pc' := 48) (l' := [(0, .inr (.inr 1)), (1, .inl a)]) (st' := [.inl z16]) rfl ?_
        refine h_reti (x := z16) rfl rfl ?_
        rw [hQ9]
        exact ⟨_, rfl, (by omega), hI12, hf17, (by first | (exfalso; omega) | exact (Or.inr (Or.inr ⟨by omega, by have q9 := hx15.1; rw [hEl, show 384 + 4 * a.toNat + 1 = 385 + 4 * a.toNat by omega] at q9; exact q9, PF_le hx15.2 (by simp)⟩)))⟩
      · refine k_run 0 (pc' := 28) (l' := [(0, .inr (.inr 1)), (1, .inl a)]) (st' := []) rfl ?_
        refine k_run 1 (pc' := 30) (l' := [(0, .inr (.inr 1)), (1, .inl a)]) (st' := [.inl (-101)]) rfl ?_
        refine h_reti (x := (-101)) rfl rfl ?_
        rw [hQ9]
        exact ⟨_, rfl, (by omega), hI, (fq_rf _ _ _ _), (by first | (exfalso; omega) | exact (Or.inr (Or.inl ⟨rfl, by omega, by omega⟩)))⟩
  · refine k_run 0 (pc' := 10) (l' := [(0, .inr (.inr 1)), (1, .inl a)]) (st' := []) rfl ?_
    refine k_run 1 (pc' := 12) (l' := [(0, .inr (.inr 1)), (1, .inl a)]) (st' := [.inl (-103)]) rfl ?_
    refine h_reti (x := (-103)) rfl rfl ?_
    rw [hQ9]
    exact ⟨_, rfl, (by omega), hI, (fq_rf _ _ _ _), (by first | (exfalso; omega) | exact (Or.inl ⟨rfl, by omega⟩))⟩

