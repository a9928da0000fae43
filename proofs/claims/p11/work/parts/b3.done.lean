/-! the reference: a row is done -/
/-- the fresh ones are given back -/
theorem OS_back {P H K : hp} {F : Nat → Int} {n m : Nat} (h : RS P H F n m) (e1 : (K.1 1826 77) = (H.1 1826 77)) (e2 : (K.1 1871) = (H.1 1871)) (e3 : ∀ j, j < m → (K.1 1872) (F j).toNat = 0) (e5 : ∀ g : Nat, (∀ j, j < m → F j ≠ (g : Int)) → (K.1 1872) g = (H.1 1872) g) (e4 : ∀ x, sS H K x ∧ sH H K x) : OS P K n := by
  obtain ⟨h1, h2, h3, h4, h5, h6, h7⟩ := h
  refine ⟨by rw [e1]; exact ⟨h1.1, h1.2.1, h1.2.2.1, by omega⟩, fun k hk => ?_, fun k hk => absurd hk (Nat.not_lt_zero _), fun i j hi hj q => h4 i j hi hj (by rw [e2] at q; exact q), fun i j hi => absurd hi (Nat.not_lt_zero _), fun i j _ hj => absurd hj (Nat.not_lt_zero _), fun x hx q => ?_⟩
  · obtain ⟨x, a1, a2, a3, a4⟩ := h2 k hk
    exact ⟨x, by rw [e2]; exact a1, a2, by rw [e5 x (fun j hj q => h6 k j hk hj (by rw [a1, q]))]; exact a3, gok_s a4 (e4 x).1 (e4 x).2⟩
  · have hF : ∀ j, j < m → F j ≠ (x : Int) := by
      intro j hj q9
      have := e3 j hj
      rw [q9] at this
      exact q this
    rw [e5 x hF] at q
    rcases h7 x hx q with ⟨k, hk, a⟩ | ⟨k, hk, a⟩
    · exact Or.inl ⟨k, hk, by rw [e2]; exact a⟩
    · exact absurd a (hF k hk)
/-- they stand in place of the first one -/
theorem OS_put {P H K : hp} {F : Nat → Int} {n m n2 : Nat} (h : RS P H F n m) (hG : GF P H F m) (hn : n2 + 1 = n + m ∧ 1 ≤ n2 ∧ n2 ≤ 12) (e1 : (K.1 1826 77) = (n2 : Int)) (e2 : ∀ j, j < m → (K.1 1871) j = F j) (e6 : ∀ x, 1 ≤ x → x < n → (K.1 1871) (x + m - 1) = (H.1 1871) x) (e3 : (K.1 1872) = up (H.1 1872) ((H.1 1871) 0).toNat 0) (e4 : ∀ x, sS H K x ∧ sH H K x) : OS P K n2 := by
  obtain ⟨h1, h2, h3, h4, h5, h6, h7⟩ := h
  obtain ⟨g0, b1, b2, b3, -⟩ := h2 0 (by omega)
  have hz : ((H.1 1871) 0).toNat = g0 := by omega
  rw [hz] at e3
  -- each place: a fresh one, or an old one
  have hw : ∀ k, k < n2 → (k < m ∧ (K.1 1871) k = F k) ∨ ∃ x, 1 ≤ x ∧ x < n ∧ k = x + m - 1 ∧ (K.1 1871) k = (H.1 1871) x := by
    intro k hk
    by_cases q : k < m
    · exact Or.inl ⟨q, e2 k q⟩
    · refine Or.inr ⟨k + 1 - m, by omega, by omega, by omega, ?_⟩
      rw [← e6 (k + 1 - m) (by omega) (by omega), show k + 1 - m + m - 1 = k by omega]
  refine ⟨⟨e1, by omega, by omega, by omega⟩, fun k hk => ?_, fun k hk => absurd hk (Nat.not_lt_zero _), fun i j hi hj q => ?_, fun i j hi => absurd hi (Nat.not_lt_zero _), fun i j _ hj => absurd hj (Nat.not_lt_zero _), fun x hx q => ?_⟩
  · rcases hw k hk with ⟨q1, q2⟩ | ⟨x, q1, q2, q3, q4⟩
    · obtain ⟨g, a1, a2, a3⟩ := h3 k q1
      obtain ⟨g', a4, a5⟩ := hG k q1
      have : g' = g := by omega
      subst this
      have hne : g' ≠ g0 := fun q9 => h6 0 k (by omega) q1 (by rw [b1, a1, q9])
      exact ⟨g', by rw [q2]; exact a1, a2, by rw [e3, up_ne _ _ hne]; exact a3, gok_s a5 (e4 g').1 (e4 g').2⟩
    · obtain ⟨g, a1, a2, a3, a4⟩ := h2 x q2
      have hne : g ≠ g0 := by
        intro q9
        have := h4 x 0 q2 (by omega) (by rw [a1, b1, q9])
        omega
      exact ⟨g, by rw [q4]; exact a1, a2, by rw [e3, up_ne _ _ hne]; exact a3, gok_s a4 (e4 g).1 (e4 g).2⟩
  · rcases hw i hi with ⟨p1, p2⟩ | ⟨x, p1, p2, p3, p4⟩
    · rcases hw j hj with ⟨q1, q2⟩ | ⟨y, q1, q2, q3, q4⟩
      · exact h5 i j p1 q1 (by rw [← p2, ← q2]; exact q)
      · exact absurd (show (H.1 1871) y = F i by rw [← q4, ← p2]; exact q.symm) (h6 y i q2 p1)
    · rcases hw j hj with ⟨q1, q2⟩ | ⟨y, q1, q2, q3, q4⟩
      · exact absurd (show (H.1 1871) x = F j by rw [← p4, ← q2]; exact q) (h6 x j p2 q1)
      · have := h4 x y p2 q2 (by rw [← p4, ← q4]; exact q)
        omega
  · have hx0 : x ≠ g0 := by
      intro q9
      rw [e3, q9, up_eq] at q
      exact q rfl
    rw [e3, up_ne _ _ hx0] at q
    refine Or.inl ?_
    rcases h7 x hx q with ⟨k, hk, a⟩ | ⟨k, hk, a⟩
    · have hk0 : k ≠ 0 := by
        intro q9
        rw [q9, b1] at a
        omega
      exact ⟨k + m - 1, by omega, by rw [e6 k (by omega) hk]; exact a⟩
    · exact ⟨k, by omega, by rw [e2 k hk]; exact a⟩

/-! did -/
set_option maxRecDepth 100000 in
theorem m_did {zC : Nat → Option zsh} {d : Nat} (hd : 2 ≤ d) {H : hp} {n : Nat} (hn : (H.1 1826 77) = (n : Int)) (hpr : n = 0 → 0 ≤ (H.1 1826 74) ∧ (H.1 1826 74) < 16) (ho : 0 ≤ (H.1 1871) 0 ∧ (H.1 1871) 0 < 40) : hG (zs zC) d mt_232 0 (zargs 0 [.inr (.inr 1826)]) [] H (fun r9 H2 => r9 = some (.inl (n : Int)) ∧ fr [76] [1847, 1878] H H2) := by
  refine h_rng (fun hrg0 => ?_)
  refine h_run 0 (pc' := 0) (l' := [(0, .inr (.inr 1826))]) (st' := []) rfl ?_
  refine h_run 3 (pc' := 5) (l' := [(0, .inr (.inr 1826))]) (st' := [.inl (H.1 1826 76), .inr (.inr 1826)]) rfl ?_
  have g1 : -2147483648 ≤ (H.1 1826 76) ∧ (H.1 1826 76) ≤ 2147483647 := hrg0.1 1826 13 76 _ .int rfl rfl
  refine h_run 2 (pc' := 7) (l' := [(0, .inr (.inr 1826))]) (st' := [.inl ((H.1 1826 76) + 1), .inr (.inr 1826)]) rfl ?_
  refine h_nrm (fun y2 hy2 => ?_)
  refine h_run 0 (pc' := 7) (l' := [(0, .inr (.inr 1826))]) (st' := [.inl y2, .inr (.inr 1826)]) rfl ?_
  refine h_puti (i := 417) (ci := 13) (k := 76) (a := 1826) (x := y2) rfl rfl rfl rfl rfl rfl (by decide) (by omega) ?_
  refine h_run 2 (pc' := 14) (l' := [(0, .inr (.inr 1826))]) (st' := [.inl (H.1 1826 77)]) rfl ?_
  have g3 : -2147483648 ≤ (H.1 1826 77) ∧ (H.1 1826 77) ≤ 2147483647 := hrg0.1 1826 13 77 _ .int rfl rfl
  refine h_zne (off := 51) (t := 65) rfl rfl (by omega) (fun c4 => ?_) (fun c4 => ?_)
  · refine h_run 1 (pc' := 66) (l' := [(0, .inr (.inr 1826))]) (st' := [.inr (.inr 1826)]) rfl ?_
    refine h_cv (i := 544) (j := 223) (b := 1826) (M' := mt_223) (xs := []) (rest := []) rfl rfl rfl rfl rfl rfl (Nat.le_of_ble_eq_true rfl) (Nat.le_of_ble_eq_true rfl) (by omega) (m_tellHyps (by omega) ho) ?_
    rintro _ H5 ⟨rfl, hfH5⟩
    refine h_rng (fun hrg6 => ?_)
    have hf7 : fr [76] [1847, 1878] H H5 := fr_t (fr_o (fr_rf _ _ _) (by decide)) hfH5 (by decide) (by decide)
    refine h_run 0 (pc' := 69) (l' := [(0, .inr (.inr 1826))]) (st' := []) rfl ?_
    refine h_run 2 (pc' := 73) (l' := [(0, .inr (.inr 1826))]) (st' := [.inl (H5.1 1826 77)]) rfl ?_
    have g8 : -2147483648 ≤ (H5.1 1826 77) ∧ (H5.1 1826 77) ≤ 2147483647 := hrg6.1 1826 13 77 _ .int rfl rfl
    have e9 : (H5.1 1826 77) = (H.1 1826 77) := hfH5.2.2 77 (by decide)
    refine h_reti (x := (H5.1 1826 77)) rfl rfl ?_
    exact ⟨congrArg (fun z => some (Sum.inl z)) (by omega), hf7⟩
  · refine h_run 2 (pc' := 21) (l' := [(0, .inr (.inr 1826))]) (st' := [.inl (H.1 1826 75)]) rfl ?_
    have g10 : 0 ≤ (H.1 1826 75) ∧ (H.1 1826 75) ≤ 1 := hrg0.1 1826 13 75 _ .boolean rfl rfl
    refine h_zeq (off := 7) (t := 28) rfl rfl (by omega) (fun c11 => ?_) (fun c11 => ?_)
    · refine h_run 6 (pc' := 38) (l' := [(0, .inr (.inr 1826)), (1, .inl 1)]) (st' := [.inl (H.1 1826 74), .inr (.inr 1847)]) rfl ?_
      have g12 : -2147483648 ≤ (H.1 1826 74) ∧ (H.1 1826 74) ≤ 2147483647 := hrg0.1 1826 13 74 _ .int rfl rfl
      refine h_run 4 (pc' := 46) (l' := [(0, .inr (.inr 1826)), (1, .inl 1)]) (st' := [.inl (H.1 1826 74), .inr (.inr 1847), .inl (H.1 1826 74), .inr (.inr 1847)]) rfl ?_
      refine h_ild (c := 1847) (j := ((H.1 1826 74)).toNat) (i := (H.1 1826 74)) rfl rfl (by decide) (by omega) (by omega) ?_
      have g13 : -2147483648 ≤ (H.1 1847 ((H.1 1826 74)).toNat) ∧ (H.1 1847 ((H.1 1826 74)).toNat) ≤ 2147483647 := hrg0.2 1847 ((H.1 1826 74)).toNat 16 .int rfl (by omega)
      refine h_run 0 (pc' := 47) (l' := [(0, .inr (.inr 1826)), (1, .inl 1)]) (st' := [.inl (H.1 1847 ((H.1 1826 74)).toNat), .inl (H.1 1826 74), .inr (.inr 1847)]) rfl ?_
      refine h_run 1 (pc' := 48) (l' := [(0, .inr (.inr 1826)), (1, .inl 1)]) (st' := [.inl 1, .inl (H.1 1847 ((H.1 1826 74)).toNat), .inl (H.1 1826 74), .inr (.inr 1847)]) rfl ?_
      refine h_ile (off := 15) (t := 63) rfl rfl (by omega) (by decide) (fun c14 => ?_) (fun c14 => ?_)
      · refine h_run 1 (pc' := 64) (l' := [(0, .inr (.inr 1826)), (1, .inl 1)]) (st' := [.inl 1, .inl (H.1 1826 74), .inr (.inr 1847)]) rfl ?_
        refine h_ist (c := 1847) (j := ((H.1 1826 74)).toNat) (i := (H.1 1826 74)) (x := 1) rfl rfl (by decide) (by decide) (by omega) (by omega) (by decide) ?_
        refine h_run 1 (pc' := 66) (l' := [(0, .inr (.inr 1826)), (1, .inl 1)]) (st' := [.inr (.inr 1826)]) rfl ?_
        refine h_cv (i := 544) (j := 223) (b := 1826) (M' := mt_223) (xs := []) (rest := []) rfl rfl rfl rfl rfl rfl (Nat.le_of_ble_eq_true rfl) (Nat.le_of_ble_eq_true rfl) (by omega) (m_tellHyps (by omega) ho) ?_
        rintro _ H15 ⟨rfl, hfH15⟩
        refine h_rng (fun hrg16 => ?_)
        have hf17 : fr [76] [1847, 1878] H H15 := fr_t (fr_a (fr_o (fr_rf _ _ _) (by decide)) (by decide)) hfH15 (by decide) (by decide)
        refine h_run 0 (pc' := 69) (l' := [(0, .inr (.inr 1826)), (1, .inl 1)]) (st' := []) rfl ?_
        refine h_run 2 (pc' := 73) (l' := [(0, .inr (.inr 1826)), (1, .inl 1)]) (st' := [.inl (H15.1 1826 77)]) rfl ?_
        have g18 : -2147483648 ≤ (H15.1 1826 77) ∧ (H15.1 1826 77) ≤ 2147483647 := hrg16.1 1826 13 77 _ .int rfl rfl
        have e19 : (H15.1 1826 77) = (H.1 1826 77) := hfH15.2.2 77 (by decide)
        refine h_reti (x := (H15.1 1826 77)) rfl rfl ?_
        exact ⟨congrArg (fun z => some (Sum.inl z)) (by omega), hf17⟩
      · refine h_run 4 (pc' := 59) (l' := [(0, .inr (.inr 1826)), (1, .inl 1)]) (st' := [.inl (H.1 1826 74), .inr (.inr 1847), .inl (H.1 1826 74), .inr (.inr 1847)]) rfl ?_
        refine h_ild (c := 1847) (j := ((H.1 1826 74)).toNat) (i := (H.1 1826 74)) rfl rfl (by decide) (by omega) (by omega) ?_
        refine h_run 0 (pc' := 60) (l' := [(0, .inr (.inr 1826)), (1, .inl 1)]) (st' := [.inl (H.1 1847 ((H.1 1826 74)).toNat), .inl (H.1 1826 74), .inr (.inr 1847)]) rfl ?_
        refine h_run 1 (pc' := 64) (l' := [(0, .inr (.inr 1826)), (1, .inl 1)]) (st' := [.inl (H.1 1847 ((H.1 1826 74)).toNat), .inl (H.1 1826 74), .inr (.inr 1847)]) rfl ?_
        refine h_ist (c := 1847) (j := ((H.1 1826 74)).toNat) (i := (H.1 1826 74)) (x := (H.1 1847 ((H.1 1826 74)).toNat)) rfl rfl (by decide) (by decide) (by omega) (by omega) (by omega) ?_
        refine h_run 1 (pc' := 66) (l' := [(0, .inr (.inr 1826)), (1, .inl 1)]) (st' := [.inr (.inr 1826)]) rfl ?_
        refine h_cv (i := 544) (j := 223) (b := 1826) (M' := mt_223) (xs := []) (rest := []) rfl rfl rfl rfl rfl rfl (Nat.le_of_ble_eq_true rfl) (Nat.le_of_ble_eq_true rfl) (by omega) (m_tellHyps (by omega) ho) ?_
        rintro _ H20 ⟨rfl, hfH20⟩
        refine h_rng (fun hrg21 => ?_)
        have hf22 : fr [76] [1847, 1878] H H20 := fr_t (fr_a (fr_o (fr_rf _ _ _) (by decide)) (by decide)) hfH20 (by decide) (by decide)
        refine h_run 0 (pc' := 69) (l' := [(0, .inr (.inr 1826)), (1, .inl 1)]) (st' := []) rfl ?_
        refine h_run 2 (pc' := 73) (l' := [(0, .inr (.inr 1826)), (1, .inl 1)]) (st' := [.inl (H20.1 1826 77)]) rfl ?_
        have g23 : -2147483648 ≤ (H20.1 1826 77) ∧ (H20.1 1826 77) ≤ 2147483647 := hrg21.1 1826 13 77 _ .int rfl rfl
        have e24 : (H20.1 1826 77) = (H.1 1826 77) := hfH20.2.2 77 (by decide)
        refine h_reti (x := (H20.1 1826 77)) rfl rfl ?_
        exact ⟨congrArg (fun z => some (Sum.inl z)) (by omega), hf22⟩
    · refine h_run 7 (pc' := 38) (l' := [(0, .inr (.inr 1826)), (1, .inl 2)]) (st' := [.inl (H.1 1826 74), .inr (.inr 1847)]) rfl ?_
      have g25 : -2147483648 ≤ (H.1 1826 74) ∧ (H.1 1826 74) ≤ 2147483647 := hrg0.1 1826 13 74 _ .int rfl rfl
      refine h_run 4 (pc' := 46) (l' := [(0, .inr (.inr 1826)), (1, .inl 2)]) (st' := [.inl (H.1 1826 74), .inr (.inr 1847), .inl (H.1 1826 74), .inr (.inr 1847)]) rfl ?_
      refine h_ild (c := 1847) (j := ((H.1 1826 74)).toNat) (i := (H.1 1826 74)) rfl rfl (by decide) (by omega) (by omega) ?_
      have g26 : -2147483648 ≤ (H.1 1847 ((H.1 1826 74)).toNat) ∧ (H.1 1847 ((H.1 1826 74)).toNat) ≤ 2147483647 := hrg0.2 1847 ((H.1 1826 74)).toNat 16 .int rfl (by omega)
      refine h_run 0 (pc' := 47) (l' := [(0, .inr (.inr 1826)), (1, .inl 2)]) (st' := [.inl (H.1 1847 ((H.1 1826 74)).toNat), .inl (H.1 1826 74), .inr (.inr 1847)]) rfl ?_
      refine h_run 1 (pc' := 48) (l' := [(0, .inr (.inr 1826)), (1, .inl 2)]) (st' := [.inl 2, .inl (H.1 1847 ((H.1 1826 74)).toNat), .inl (H.1 1826 74), .inr (.inr 1847)]) rfl ?_
      refine h_ile (off := 15) (t := 63) rfl rfl (by omega) (by decide) (fun c27 => ?_) (fun c27 => ?_)
      · refine h_run 1 (pc' := 64) (l' := [(0, .inr (.inr 1826)), (1, .inl 2)]) (st' := [.inl 2, .inl (H.1 1826 74), .inr (.inr 1847)]) rfl ?_
        refine h_ist (c := 1847) (j := ((H.1 1826 74)).toNat) (i := (H.1 1826 74)) (x := 2) rfl rfl (by decide) (by decide) (by omega) (by omega) (by decide) ?_
        refine h_run 1 (pc' := 66) (l' := [(0, .inr (.inr 1826)), (1, .inl 2)]) (st' := [.inr (.inr 1826)]) rfl ?_
        refine h_cv (i := 544) (j := 223) (b := 1826) (M' := mt_223) (xs := []) (rest := []) rfl rfl rfl rfl rfl rfl (Nat.le_of_ble_eq_true rfl) (Nat.le_of_ble_eq_true rfl) (by omega) (m_tellHyps (by omega) ho) ?_
        rintro _ H28 ⟨rfl, hfH28⟩
        refine h_rng (fun hrg29 => ?_)
        have hf30 : fr [76] [1847, 1878] H H28 := fr_t (fr_a (fr_o (fr_rf _ _ _) (by decide)) (by decide)) hfH28 (by decide) (by decide)
        refine h_run 0 (pc' := 69) (l' := [(0, .inr (.inr 1826)), (1, .inl 2)]) (st' := []) rfl ?_
        refine h_run 2 (pc' := 73) (l' := [(0, .inr (.inr 1826)), (1, .inl 2)]) (st' := [.inl (H28.1 1826 77)]) rfl ?_
        have g31 : -2147483648 ≤ (H28.1 1826 77) ∧ (H28.1 1826 77) ≤ 2147483647 := hrg29.1 1826 13 77 _ .int rfl rfl
        have e32 : (H28.1 1826 77) = (H.1 1826 77) := hfH28.2.2 77 (by decide)
        refine h_reti (x := (H28.1 1826 77)) rfl rfl ?_
        exact ⟨congrArg (fun z => some (Sum.inl z)) (by omega), hf30⟩
      · refine h_run 4 (pc' := 59) (l' := [(0, .inr (.inr 1826)), (1, .inl 2)]) (st' := [.inl (H.1 1826 74), .inr (.inr 1847), .inl (H.1 1826 74), .inr (.inr 1847)]) rfl ?_
        refine h_ild (c := 1847) (j := ((H.1 1826 74)).toNat) (i := (H.1 1826 74)) rfl rfl (by decide) (by omega) (by omega) ?_
        refine h_run 0 (pc' := 60) (l' := [(0, .inr (.inr 1826)), (1, .inl 2)]) (st' := [.inl (H.1 1847 ((H.1 1826 74)).toNat), .inl (H.1 1826 74), .inr (.inr 1847)]) rfl ?_
        refine h_run 1 (pc' := 64) (l' := [(0, .inr (.inr 1826)), (1, .inl 2)]) (st' := [.inl (H.1 1847 ((H.1 1826 74)).toNat), .inl (H.1 1826 74), .inr (.inr 1847)]) rfl ?_
        refine h_ist (c := 1847) (j := ((H.1 1826 74)).toNat) (i := (H.1 1826 74)) (x := (H.1 1847 ((H.1 1826 74)).toNat)) rfl rfl (by decide) (by decide) (by omega) (by omega) (by omega) ?_
        refine h_run 1 (pc' := 66) (l' := [(0, .inr (.inr 1826)), (1, .inl 2)]) (st' := [.inr (.inr 1826)]) rfl ?_
        refine h_cv (i := 544) (j := 223) (b := 1826) (M' := mt_223) (xs := []) (rest := []) rfl rfl rfl rfl rfl rfl (Nat.le_of_ble_eq_true rfl) (Nat.le_of_ble_eq_true rfl) (by omega) (m_tellHyps (by omega) ho) ?_
        rintro _ H33 ⟨rfl, hfH33⟩
        refine h_rng (fun hrg34 => ?_)
        have hf35 : fr [76] [1847, 1878] H H33 := fr_t (fr_a (fr_o (fr_rf _ _ _) (by decide)) (by decide)) hfH33 (by decide) (by decide)
        refine h_run 0 (pc' := 69) (l' := [(0, .inr (.inr 1826)), (1, .inl 2)]) (st' := []) rfl ?_
        refine h_run 2 (pc' := 73) (l' := [(0, .inr (.inr 1826)), (1, .inl 2)]) (st' := [.inl (H33.1 1826 77)]) rfl ?_
        have g36 : -2147483648 ≤ (H33.1 1826 77) ∧ (H33.1 1826 77) ≤ 2147483647 := hrg34.1 1826 13 77 _ .int rfl rfl
        have e37 : (H33.1 1826 77) = (H.1 1826 77) := hfH33.2.2 77 (by decide)
        refine h_reti (x := (H33.1 1826 77)) rfl rfl ?_
        exact ⟨congrArg (fun z => some (Sum.inl z)) (by omega), hf35⟩

/-! replace -/
set_option maxRecDepth 100000 in
theorem m_replace_cut {zC : Nat → Option zsh} {d : Nat} (hd : 3 ≤ d) {H : hp} {P : hp} {b : Int} {n m : Nat} (hb : 0 ≤ b ∧ b ≤ 1) (hR : RS P H (H.1 1885) n m) (hm : (H.1 1826 95) = (m : Int)) (hGf : b = 1 → GF P H (H.1 1885) m) (hpr : 0 ≤ (H.1 1826 74) ∧ (H.1 1826 74) < 16) : ∀ w : Nat, (∀ (H1 : hp) (k : Nat), (fr [76, 77] [1871, 1872, 1847, 1878] H H1) → (∀ x, sS H H1 x ∧ sH H H1 x) → (k ≤ m) → ((H1.1 1826 77) = (n : Int)) → (∀ j, j < k → (H1.1 1872) ((H.1 1885) j).toNat = 0) → (∀ g : Nat, (∀ j, j < k → (H.1 1885) j ≠ (g : Int)) → (H1.1 1872) g = (H.1 1872) g) → ((H1.1 1871) = (H.1 1871)) → 100 - k < w → hG (zs zC) d mt_234 22 [(0, .inr (.inr 1826)), (1, .inl b), (2, .inl (k : Int))] [] H1 (fun r9 H2 => fr [76, 77] [1871, 1872, 1847, 1878] H H2 ∧ (0 ≤ (H2.1 1871) 0 ∧ (H2.1 1871) 0 < 40) ∧ ((r9 = some (.inl (-105)) ∧ OS P H2 n) ∨ ∃ n2 : Nat, r9 = some (.inl (n2 : Int)) ∧ (H2.1 1826 77) = (n2 : Int) ∧ (n2 = 0 ∨ OS P H2 n2)))) ∧ (∀ (H1 : hp) (k : Nat), (fr [76, 77] [1871, 1872, 1847, 1878] H H1) → (∀ x, sS H H1 x ∧ sH H H1 x) → (k + 1 ≤ n ∧ 2 ≤ m ∧ n + m ≤ 13) → (b = 1) → ((H1.1 1826 77) = (n : Int)) → ((H1.1 1872) = up (H.1 1872) ((H.1 1871) 0).toNat 0) → (∀ x, x ≤ k → (H1.1 1871) x = (H.1 1871) x) → (∀ x, k < x → x < n → (H1.1 1871) (x + m - 1) = (H.1 1871) x) → 1000 + k < w → hG (zs zC) d mt_234 81 [(0, .inr (.inr 1826)), (1, .inl b), (2, .inl ((m : Int) - 1)), (3, .inl (k : Int))] [] H1 (fun r9 H2 => fr [76, 77] [1871, 1872, 1847, 1878] H H2 ∧ (0 ≤ (H2.1 1871) 0 ∧ (H2.1 1871) 0 < 40) ∧ ((r9 = some (.inl (-105)) ∧ OS P H2 n) ∨ ∃ n2 : Nat, r9 = some (.inl (n2 : Int)) ∧ (H2.1 1826 77) = (n2 : Int) ∧ (n2 = 0 ∨ OS P H2 n2)))) ∧ (∀ (H1 : hp) (k : Nat), (fr [76, 77] [1871, 1872, 1847, 1878] H H1) → (∀ x, sS H H1 x ∧ sH H H1 x) → (1 ≤ k ∧ k ≤ n ∧ m = 0) → (b = 1) → ((H1.1 1826 77) = (n : Int)) → ((H1.1 1872) = up (H.1 1872) ((H.1 1871) 0).toNat 0) → (∀ x, 1 ≤ x → x < k → (H1.1 1871) (x - 1) = (H.1 1871) x) → (∀ x, k ≤ x → (H1.1 1871) x = (H.1 1871) x) → (k = 1 → (H1.1 1871) 0 = (H.1 1871) 0) → 2000 - k < w → hG (zs zC) d mt_234 114 [(0, .inr (.inr 1826)), (1, .inl b), (2, .inl ((m : Int) - 1)), (3, .inl (k : Int))] [] H1 (fun r9 H2 => fr [76, 77] [1871, 1872, 1847, 1878] H H2 ∧ (0 ≤ (H2.1 1871) 0 ∧ (H2.1 1871) 0 < 40) ∧ ((r9 = some (.inl (-105)) ∧ OS P H2 n) ∨ ∃ n2 : Nat, r9 = some (.inl (n2 : Int)) ∧ (H2.1 1826 77) = (n2 : Int) ∧ (n2 = 0 ∨ OS P H2 n2)))) ∧ (∀ (H1 : hp) (k : Nat), (fr [76, 77] [1871, 1872, 1847, 1878] H H1) → (∀ x, sS H H1 x ∧ sH H H1 x) → (k ≤ m ∧ n + m ≤ 13) → (b = 1) → ((H1.1 1826 77) = (n : Int)) → ((H1.1 1872) = up (H.1 1872) ((H.1 1871) 0).toNat 0) → (∀ j, j < k → (H1.1 1871) j = (H.1 1885) j) → (∀ x, 1 ≤ x → x < n → (H1.1 1871) (x + m - 1) = (H.1 1871) x) → (m = 0 → (H1.1 1871) 0 = (H.1 1871) 0 ∨ (H1.1 1871) 0 = (H.1 1871) 1 ∧ 1 < n) → 100 - k < w → hG (zs zC) d mt_234 144 [(0, .inr (.inr 1826)), (1, .inl b), (2, .inl ((m : Int) - 1)), (3, .inl (k : Int))] [] H1 (fun r9 H2 => fr [76, 77] [1871, 1872, 1847, 1878] H H2 ∧ (0 ≤ (H2.1 1871) 0 ∧ (H2.1 1871) 0 < 40) ∧ ((r9 = some (.inl (-105)) ∧ OS P H2 n) ∨ ∃ n2 : Nat, r9 = some (.inl (n2 : Int)) ∧ (H2.1 1826 77) = (n2 : Int) ∧ (n2 = 0 ∨ OS P H2 n2)))) := by
  intro w
  induction w with
  | zero => exact ⟨fun _ _ _ _ _ _ _ _ _ h => absurd h (Nat.not_lt_zero _), fun _ _ _ _ _ _ _ _ _ _ h => absurd h (Nat.not_lt_zero _), fun _ _ _ _ _ _ _ _ _ _ _ h => absurd h (Nat.not_lt_zero _), fun _ _ _ _ _ _ _ _ _ _ _ h => absurd h (Nat.not_lt_zero _)⟩
  | succ w ih =>
    refine ⟨?_, ?_, ?_, ?_⟩
    · intro H1 k hf hsm hk hg1 hz hu ho9 hw
      refine h_rng (fun hrg1 => ?_)
      have hn := hR.1
      obtain ⟨g0, b1, b2, b3, -⟩ := hR.2.1 0 (by omega)
      have efr : (H1.1 1885) = (H.1 1885) := hf.2.1 1885 (by decide) (by decide)
      have efc : (H1.1 1826 95) = (H.1 1826 95) := hf.2.2 95 (by decide)
      refine h_run 3 (pc' := 27) (l' := [(0, .inr (.inr 1826)), (1, .inl b), (2, .inl (k : Int))]) (st' := [.inl (H1.1 1826 95), .inl (k : Int)]) rfl ?_
      have g2 : -2147483648 ≤ (H1.1 1826 95) ∧ (H1.1 1826 95) ≤ 2147483647 := hrg1.1 1826 13 95 _ .int rfl rfl
      have e3 : (H1.1 1826 95) = (H.1 1826 95) := hf.2.2 95 (by decide)
      refine h_ige (off := 21) (t := 48) rfl rfl (by omega) (by omega) (fun c4 => ?_) (fun c4 => ?_)
      · refine h_run 1 (pc' := 50) (l' := [(0, .inr (.inr 1826)), (1, .inl b), (2, .inl (k : Int))]) (st' := [.inl (-105)]) rfl ?_
        refine h_reti (x := (-105)) rfl rfl ?_
        exact ⟨hf, by rw [ho9]; omega, Or.inl ⟨rfl, OS_back hR (hg1.trans hn.1.symm) ho9 (fun j hj => hz j (by omega)) (fun g hg => hu g (fun j hj => hg j (by omega))) hsm⟩⟩
      · obtain ⟨yy9, yy1, yy2, -⟩ := hR.2.2.1 k (by omega)
        refine h_run 5 (pc' := 39) (l' := [(0, .inr (.inr 1826)), (1, .inl b), (2, .inl (k : Int))]) (st' := [.inl (k : Int), .inr (.inr 1885), .inr (.inr 1872)]) rfl ?_
        refine h_ild (c := 1885) (j := k) (i := (k : Int)) rfl rfl (by decide) rfl (by omega) ?_
        have g5 : -2147483648 ≤ (H1.1 1885 k) ∧ (H1.1 1885 k) ≤ 2147483647 := hrg1.2 1885 k 24 .int rfl (by omega)
        have e6 : (H1.1 1885 k) = (H.1 1885 k) := congrFun (hf.2.1 1885 (by decide) (by decide)) k
        refine h_run 0 (pc' := 40) (l' := [(0, .inr (.inr 1826)), (1, .inl b), (2, .inl (k : Int))]) (st' := [.inl (H1.1 1885 k), .inr (.inr 1872)]) rfl ?_
        refine h_run 1 (pc' := 41) (l' := [(0, .inr (.inr 1826)), (1, .inl b), (2, .inl (k : Int))]) (st' := [.inl 0, .inl (H1.1 1885 k), .inr (.inr 1872)]) rfl ?_
        refine h_bst (c := 1872) (j := ((H1.1 1885 k)).toNat) (i := (H1.1 1885 k)) (x := 0) (Or.inr rfl) rfl rfl (by decide) (by decide) (by omega) (by omega) (show (0 : Int) ≤ 0 ∧ 0 ≤ 1 by omega) ?_
        refine h_run 2 (pc' := 22) (l' := [(0, .inr (.inr 1826)), (1, .inl b), (2, .inl ((k : Int) + 1))]) (st' := []) rfl ?_
        have g7 : -2147483648 ≤ (H1.1 1826 77) ∧ (H1.1 1826 77) ≤ 2147483647 := hrg1.1 1826 13 77 _ .int rfl rfl
        rw [show ((k : Int) + 1) = (((k + 1) : Nat) : Int) by omega]
        exact ih.1 _ (k + 1) (fr_a hf (by decide)) hsm (by omega) (by omega : (H1.1 1826 77) = (n : Int)) (fun j hj => by show up (H1.1 1872) ((H1.1 1885) k).toNat 0 ((H.1 1885) j).toNat = 0; rw [efr]; rw [up_if]; by_cases e9 : ((H.1 1885) j).toNat = ((H.1 1885) k).toNat; { rw [if_pos e9] }; { rw [if_neg e9]; exact hz j (by have : j ≠ k := fun q => e9 (by rw [q]); omega) }) (fun g hg => by show up (H1.1 1872) ((H1.1 1885) k).toNat 0 g = (H.1 1872) g; rw [efr]; obtain ⟨y9, y1, y2, y3⟩ := hR.2.2.1 k (by omega); have h8 := hg k (by omega); rw [y1] at h8; rw [up_ne _ _ (by rw [y1]; omega)]; exact hu g (fun j hj => hg j (by omega))) ho9 (by omega : 100 - (k + 1) < w)
    · intro H1 k hf hsm hk hb1 hg1 hus hlo hhi hw
      refine h_rng (fun hrg8 => ?_)
      have hn := hR.1
      obtain ⟨g0, b1, b2, b3, -⟩ := hR.2.1 0 (by omega)
      have efr : (H1.1 1885) = (H.1 1885) := hf.2.1 1885 (by decide) (by decide)
      have efc : (H1.1 1826 95) = (H.1 1826 95) := hf.2.2 95 (by decide)
      refine h_run 1 (pc' := 82) (l' := [(0, .inr (.inr 1826)), (1, .inl b), (2, .inl ((m : Int) - 1)), (3, .inl (k : Int))]) (st' := [.inl (k : Int)]) rfl ?_
      refine h_zle (off := 23) (t := 105) rfl rfl (by omega) (fun c9 => ?_) (fun c9 => ?_)
      · refine h_run 3 (pc' := 144) (l' := [(0, .inr (.inr 1826)), (1, .inl b), (2, .inl ((m : Int) - 1)), (3, .inl 0)]) (st' := []) rfl ?_
        have g10 : -2147483648 ≤ (H1.1 1826 77) ∧ (H1.1 1826 77) ≤ 2147483647 := hrg8.1 1826 13 77 _ .int rfl rfl
        exact ih.2.2.2 _ 0 hf hsm (by omega) (by omega) (by omega : (H1.1 1826 77) = (n : Int)) hus (fun j hj => absurd hj (Nat.not_lt_zero _)) (fun x h1 h2 => hhi x (by omega) h2) (fun q => absurd q (by omega)) (by omega : 100 - 0 < w)
      · refine h_run 8 (pc' := 97) (l' := [(0, .inr (.inr 1826)), (1, .inl b), (2, .inl ((m : Int) - 1)), (3, .inl (k : Int))]) (st' := [.inl (k : Int), .inr (.inr 1871), .inl ((k : Int) + ((m : Int) - 1)), .inr (.inr 1871)]) rfl ?_
        refine h_ild (c := 1871) (j := k) (i := (k : Int)) rfl rfl (by decide) rfl (by omega) ?_
        have g11 : -2147483648 ≤ (H1.1 1871 k) ∧ (H1.1 1871 k) ≤ 2147483647 := hrg8.2 1871 k 13 .int rfl (by omega)
        refine h_run 0 (pc' := 98) (l' := [(0, .inr (.inr 1826)), (1, .inl b), (2, .inl ((m : Int) - 1)), (3, .inl (k : Int))]) (st' := [.inl (H1.1 1871 k), .inl ((k : Int) + ((m : Int) - 1)), .inr (.inr 1871)]) rfl ?_
        refine h_ist (c := 1871) (j := (((k : Int) + ((m : Int) - 1))).toNat) (i := ((k : Int) + ((m : Int) - 1))) (x := (H1.1 1871 k)) rfl rfl (by decide) (by decide) (by omega) (by omega) (by omega) ?_
        refine h_run 2 (pc' := 81) (l' := [(0, .inr (.inr 1826)), (1, .inl b), (2, .inl ((m : Int) - 1)), (3, .inl ((k : Int) + (-1)))]) (st' := []) rfl ?_
        have g12 : -2147483648 ≤ (H1.1 1826 77) ∧ (H1.1 1826 77) ≤ 2147483647 := hrg8.1 1826 13 77 _ .int rfl rfl
        rw [show ((k : Int) + (-1)) = (((((k : Int) + (-1))).toNat : Nat) : Int) by omega]
        exact ih.2.1 _ (((k : Int) + (-1))).toNat (fr_a hf (by decide)) hsm (by omega) (by omega) (by omega : (H1.1 1826 77) = (n : Int)) hus (fun x hx => by show up (H1.1 1871) ((k : Int) + ((m : Int) - 1)).toNat ((H1.1 1871) k) x = _; rw [show ((k : Int) + ((m : Int) - 1)).toNat = k + (m - 1) by omega, up_ne _ _ (by omega)]; exact hlo x (by omega)) (fun x h1 h2 => by show up (H1.1 1871) ((k : Int) + ((m : Int) - 1)).toNat ((H1.1 1871) k) (x + m - 1) = _; rw [show ((k : Int) + ((m : Int) - 1)).toNat = k + (m - 1) by omega, up_if]; by_cases e9 : x = k; { rw [if_pos (by omega), e9]; exact hlo k (Nat.le_refl _) }; { rw [if_neg (by omega)]; exact hhi x (by omega) h2 }) (by omega : 1000 + (((k : Int) + (-1))).toNat < w)
    · intro H1 k hf hsm hk hb1 hg1 hus hlo hhi hh0 hw
      refine h_rng (fun hrg13 => ?_)
      have hn := hR.1
      obtain ⟨g0, b1, b2, b3, -⟩ := hR.2.1 0 (by omega)
      have efr : (H1.1 1885) = (H.1 1885) := hf.2.1 1885 (by decide) (by decide)
      have efc : (H1.1 1826 95) = (H.1 1826 95) := hf.2.2 95 (by decide)
      refine h_run 3 (pc' := 119) (l' := [(0, .inr (.inr 1826)), (1, .inl b), (2, .inl ((m : Int) - 1)), (3, .inl (k : Int))]) (st' := [.inl (H1.1 1826 77), .inl (k : Int)]) rfl ?_
      have g14 : -2147483648 ≤ (H1.1 1826 77) ∧ (H1.1 1826 77) ≤ 2147483647 := hrg13.1 1826 13 77 _ .int rfl rfl
      refine h_ige (off := 23) (t := 142) rfl rfl (by omega) (by omega) (fun c15 => ?_) (fun c15 => ?_)
      · refine h_run 2 (pc' := 144) (l' := [(0, .inr (.inr 1826)), (1, .inl b), (2, .inl ((m : Int) - 1)), (3, .inl 0)]) (st' := []) rfl ?_
        exact ih.2.2.2 _ 0 hf hsm (by omega) (by omega) (by omega : (H1.1 1826 77) = (n : Int)) hus (fun j hj => absurd hj (Nat.not_lt_zero _)) (fun x h1 h2 => by rw [show x + m - 1 = x - 1 by omega]; exact hlo x h1 (by omega)) (fun q => by by_cases e9 : n = 1; { exact Or.inl (hh0 (by omega)) }; { exact Or.inr ⟨hlo 1 (by omega) (by omega), by omega⟩ }) (by omega : 100 - 0 < w)
      · refine h_run 8 (pc' := 134) (l' := [(0, .inr (.inr 1826)), (1, .inl b), (2, .inl ((m : Int) - 1)), (3, .inl (k : Int))]) (st' := [.inl (k : Int), .inr (.inr 1871), .inl ((k : Int) - 1), .inr (.inr 1871)]) rfl ?_
        refine h_ild (c := 1871) (j := k) (i := (k : Int)) rfl rfl (by decide) rfl (by omega) ?_
        have g16 : -2147483648 ≤ (H1.1 1871 k) ∧ (H1.1 1871 k) ≤ 2147483647 := hrg13.2 1871 k 13 .int rfl (by omega)
        refine h_run 0 (pc' := 135) (l' := [(0, .inr (.inr 1826)), (1, .inl b), (2, .inl ((m : Int) - 1)), (3, .inl (k : Int))]) (st' := [.inl (H1.1 1871 k), .inl ((k : Int) - 1), .inr (.inr 1871)]) rfl ?_
        refine h_ist (c := 1871) (j := (((k : Int) - 1)).toNat) (i := ((k : Int) - 1)) (x := (H1.1 1871 k)) rfl rfl (by decide) (by decide) (by omega) (by omega) (by omega) ?_
        refine h_run 2 (pc' := 114) (l' := [(0, .inr (.inr 1826)), (1, .inl b), (2, .inl ((m : Int) - 1)), (3, .inl ((k : Int) + 1))]) (st' := []) rfl ?_
        rw [show ((k : Int) + 1) = (((k + 1) : Nat) : Int) by omega]
        exact ih.2.2.1 _ (k + 1) (fr_a hf (by decide)) hsm (by omega) (by omega) (by omega : (H1.1 1826 77) = (n : Int)) hus (fun x h1 h2 => by show up (H1.1 1871) ((k : Int) - 1).toNat ((H1.1 1871) k) (x - 1) = _; rw [show ((k : Int) - 1).toNat = k - 1 by omega, up_if]; by_cases e9 : x = k; { rw [if_pos (by omega), e9]; exact hhi k (Nat.le_refl _) }; { rw [if_neg (by omega)]; exact hlo x h1 (by omega) }) (fun x hx => by show up (H1.1 1871) ((k : Int) - 1).toNat ((H1.1 1871) k) x = _; rw [show ((k : Int) - 1).toNat = k - 1 by omega, up_ne _ _ (by omega)]; exact hhi x (by omega)) (fun q => absurd q (by omega)) (by omega : 2000 - (k + 1) < w)
    · intro H1 k hf hsm hk hb1 hg1 hus hlo hhi ho0 hw
      refine h_rng (fun hrg17 => ?_)
      have hn := hR.1
      obtain ⟨g0, b1, b2, b3, -⟩ := hR.2.1 0 (by omega)
      have efr : (H1.1 1885) = (H.1 1885) := hf.2.1 1885 (by decide) (by decide)
      have efc : (H1.1 1826 95) = (H.1 1826 95) := hf.2.2 95 (by decide)
      refine h_run 3 (pc' := 149) (l' := [(0, .inr (.inr 1826)), (1, .inl b), (2, .inl ((m : Int) - 1)), (3, .inl (k : Int))]) (st' := [.inl (H1.1 1826 95), .inl (k : Int)]) rfl ?_
      have g18 : -2147483648 ≤ (H1.1 1826 95) ∧ (H1.1 1826 95) ≤ 2147483647 := hrg17.1 1826 13 95 _ .int rfl rfl
      have e19 : (H1.1 1826 95) = (H.1 1826 95) := hf.2.2 95 (by decide)
      refine h_ige (off := 21) (t := 170) rfl rfl (by omega) (by omega) (fun c20 => ?_) (fun c20 => ?_)
      · have hor : 0 ≤ (H1.1 1871) 0 ∧ (H1.1 1871) 0 < 40 := by by_cases e9 : m = 0; { rcases ho0 e9 with q9 | ⟨q9, q8⟩; { rw [q9]; omega }; { obtain ⟨y9, y1, y2, -⟩ := hR.2.1 1 q8; rw [q9]; omega } }; { obtain ⟨y9, y1, y2, -⟩ := hR.2.2.1 0 (by omega); rw [hlo 0 (by omega)]; omega }
        refine h_run 3 (pc' := 175) (l' := [(0, .inr (.inr 1826)), (1, .inl b), (2, .inl ((m : Int) - 1)), (3, .inl (k : Int))]) (st' := [.inl (H1.1 1826 77), .inr (.inr 1826)]) rfl ?_
        have g21 : -2147483648 ≤ (H1.1 1826 77) ∧ (H1.1 1826 77) ≤ 2147483647 := hrg17.1 1826 13 77 _ .int rfl rfl
        refine h_run 2 (pc' := 177) (l' := [(0, .inr (.inr 1826)), (1, .inl b), (2, .inl ((m : Int) - 1)), (3, .inl (k : Int))]) (st' := [.inl ((H1.1 1826 77) + ((m : Int) - 1)), .inr (.inr 1826)]) rfl ?_
        refine h_puti (i := 414) (ci := 13) (k := 77) (a := 1826) (x := ((H1.1 1826 77) + ((m : Int) - 1))) rfl rfl rfl rfl rfl rfl (by decide) (by omega) ?_
        have g22 : -2147483648 ≤ (H1.1 1826 74) ∧ (H1.1 1826 74) ≤ 2147483647 := hrg17.1 1826 13 74 _ .int rfl rfl
        have e23 : (H1.1 1826 74) = (H.1 1826 74) := hf.2.2 74 (by decide)
        refine h_run 1 (pc' := 181) (l' := [(0, .inr (.inr 1826)), (1, .inl b), (2, .inl ((m : Int) - 1)), (3, .inl (k : Int))]) (st' := [.inr (.inr 1826)]) rfl ?_
        refine h_cv (i := 556) (j := 232) (b := 1826) (M' := mt_232) (xs := []) (rest := []) rfl rfl rfl rfl rfl rfl (Nat.le_of_ble_eq_true rfl) (Nat.le_of_ble_eq_true rfl) (by omega) (m_did (n := (n + m - 1)) (by omega) (show ((H1.1 1826 77) + ((m : Int) - 1)) = ((n + m - 1 : Nat) : Int) by omega) (fun _ => show 0 ≤ (H1.1 1826 74) ∧ (H1.1 1826 74) < 16 by omega) hor) ?_
        rintro _ H24 ⟨rfl, hfH24⟩
        refine h_rng (fun hrg25 => ?_)
        have hf26 : fr [76, 77] [1871, 1872, 1847, 1878] H H24 := fr_t (fr_o hf (by decide)) hfH24 (by decide) (by decide)
        refine h_run 0 (pc' := 184) (l' := [(0, .inr (.inr 1826)), (1, .inl b), (2, .inl ((m : Int) - 1)), (3, .inl (k : Int))]) (st' := [.inl (((n + m - 1) : Nat) : Int)]) rfl ?_
        refine h_reti (x := (((n + m - 1) : Nat) : Int)) rfl rfl ?_
        have eo9 : (H24.1 1871) = (H1.1 1871) := hfH24.2.1 1871 (by decide) (by decide)
        have eu9 : (H24.1 1872) = (H1.1 1872) := hfH24.2.1 1872 (by decide) (by decide)
        have eg9 : (H24.1 1826 77) = ((n + m - 1 : Nat) : Int) := (hfH24.2.2 77 (by decide)).trans (show (H1.1 1826 77) + ((m : Int) - 1) = _ by omega)
        refine ⟨hf26, by rw [eo9]; exact hor, Or.inr ⟨n + m - 1, rfl, eg9, ?_⟩⟩
        by_cases e9 : n + m - 1 = 0
        · exact Or.inl e9
        · exact Or.inr (OS_put hR (hGf hb1) (by omega) eg9 (fun j hj => by rw [eo9]; exact hlo j (by omega)) (fun x h1 h2 => by rw [eo9]; exact hhi x h1 h2) (by rw [eu9]; exact hus) (fun x => ⟨sS_tr (hsm x).1 (sS_fr hfH24 (by decide) x), sH_tr (hsm x).2 (sH_fr hfH24 (by decide) x)⟩))
      · refine h_run 6 (pc' := 162) (l' := [(0, .inr (.inr 1826)), (1, .inl b), (2, .inl ((m : Int) - 1)), (3, .inl (k : Int))]) (st' := [.inl (k : Int), .inr (.inr 1885), .inl (k : Int), .inr (.inr 1871)]) rfl ?_
        refine h_ild (c := 1885) (j := k) (i := (k : Int)) rfl rfl (by decide) rfl (by omega) ?_
        have g27 : -2147483648 ≤ (H1.1 1885 k) ∧ (H1.1 1885 k) ≤ 2147483647 := hrg17.2 1885 k 24 .int rfl (by omega)
        have e28 : (H1.1 1885 k) = (H.1 1885 k) := congrFun (hf.2.1 1885 (by decide) (by decide)) k
        refine h_run 0 (pc' := 163) (l' := [(0, .inr (.inr 1826)), (1, .inl b), (2, .inl ((m : Int) - 1)), (3, .inl (k : Int))]) (st' := [.inl (H1.1 1885 k), .inl (k : Int), .inr (.inr 1871)]) rfl ?_
        refine h_ist (c := 1871) (j := k) (i := (k : Int)) (x := (H1.1 1885 k)) rfl rfl (by decide) (by decide) rfl (by omega) (by omega) ?_
        refine h_run 2 (pc' := 144) (l' := [(0, .inr (.inr 1826)), (1, .inl b), (2, .inl ((m : Int) - 1)), (3, .inl ((k : Int) + 1))]) (st' := []) rfl ?_
        have g29 : -2147483648 ≤ (H1.1 1826 77) ∧ (H1.1 1826 77) ≤ 2147483647 := hrg17.1 1826 13 77 _ .int rfl rfl
        rw [show ((k : Int) + 1) = (((k + 1) : Nat) : Int) by omega]
        exact ih.2.2.2 _ (k + 1) (fr_a hf (by decide)) hsm (by omega) (by omega) (by omega : (H1.1 1826 77) = (n : Int)) hus (fun j hj => by show up (H1.1 1871) k ((H1.1 1885) k) j = _; rw [up_if, efr]; by_cases e9 : j = k; { rw [if_pos e9, e9] }; { rw [if_neg e9]; exact hlo j (by omega) }) (fun x h1 h2 => by show up (H1.1 1871) k ((H1.1 1885) k) (x + m - 1) = _; rw [up_ne _ _ (by omega)]; exact hhi x h1 h2) (fun q => absurd q (by omega)) (by omega : 100 - (k + 1) < w)
set_option maxRecDepth 100000 in
theorem m_replace {zC : Nat → Option zsh} {d : Nat} (hd : 3 ≤ d) {H : hp} {P : hp} {b : Int} {n m : Nat} (hb : 0 ≤ b ∧ b ≤ 1) (hR : RS P H (H.1 1885) n m) (hm : (H.1 1826 95) = (m : Int)) (hGf : b = 1 → GF P H (H.1 1885) m) (hpr : 0 ≤ (H.1 1826 74) ∧ (H.1 1826 74) < 16) : hG (zs zC) d mt_234 0 (zargs 0 [.inr (.inr 1826), .inl b]) [] H (fun r9 H2 => fr [76, 77] [1871, 1872, 1847, 1878] H H2 ∧ (0 ≤ (H2.1 1871) 0 ∧ (H2.1 1871) 0 < 40) ∧ ((r9 = some (.inl (-105)) ∧ OS P H2 n) ∨ ∃ n2 : Nat, r9 = some (.inl (n2 : Int)) ∧ (H2.1 1826 77) = (n2 : Int) ∧ (n2 = 0 ∨ OS P H2 n2))) := by
  refine h_rng (fun hrg0 => ?_)
  refine h_run 0 (pc' := 0) (l' := [(0, .inr (.inr 1826)), (1, .inl b)]) (st' := []) rfl ?_
  have hn := hR.1
  obtain ⟨g0, b1, b2, b3, -⟩ := hR.2.1 0 (by omega)
  refine h_run 1 (pc' := 1) (l' := [(0, .inr (.inr 1826)), (1, .inl b)]) (st' := [.inl b]) rfl ?_
  refine h_zeq (off := 19) (t := 20) rfl rfl (by omega) (fun c30 => ?_) (fun c30 => ?_)
  · refine h_run 2 (pc' := 22) (l' := [(0, .inr (.inr 1826)), (1, .inl b), (2, .inl 0)]) (st' := []) rfl ?_
    have g31 : -2147483648 ≤ (H.1 1826 77) ∧ (H.1 1826 77) ≤ 2147483647 := hrg0.1 1826 13 77 _ .int rfl rfl
    exact (m_replace_cut hd hb hR hm hGf hpr _).1 _ 0 (fr_rf _ _ _) (fun x => ⟨sS_rf H x, sH_rf H x⟩) (by omega) (by omega : (H.1 1826 77) = (n : Int)) (fun j hj => absurd hj (Nat.not_lt_zero _)) (fun g _ => rfl) rfl (Nat.lt_succ_self _)
  · refine h_run 2 (pc' := 8) (l' := [(0, .inr (.inr 1826)), (1, .inl b)]) (st' := [.inl (H.1 1826 77)]) rfl ?_
    have g32 : -2147483648 ≤ (H.1 1826 77) ∧ (H.1 1826 77) ≤ 2147483647 := hrg0.1 1826 13 77 _ .int rfl rfl
    refine h_run 4 (pc' := 14) (l' := [(0, .inr (.inr 1826)), (1, .inl b)]) (st' := [.inl (H.1 1826 95), .inl ((H.1 1826 77) - 1)]) rfl ?_
    have g33 : -2147483648 ≤ (H.1 1826 95) ∧ (H.1 1826 95) ≤ 2147483647 := hrg0.1 1826 13 95 _ .int rfl rfl
    refine h_run 2 (pc' := 17) (l' := [(0, .inr (.inr 1826)), (1, .inl b)]) (st' := [.inl 12, .inl (((H.1 1826 77) - 1) + (H.1 1826 95))]) rfl ?_
    refine h_ile (off := 34) (t := 51) rfl rfl (by omega) (by decide) (fun c34 => ?_) (fun c34 => ?_)
    · refine h_run 5 (pc' := 60) (l' := [(0, .inr (.inr 1826)), (1, .inl b)]) (st' := [.inl 0, .inr (.inr 1871), .inr (.inr 1872)]) rfl ?_
      refine h_ild (c := 1871) (j := 0) (i := 0) rfl rfl (by decide) rfl (by omega) ?_
      have g35 : -2147483648 ≤ (H.1 1871 0) ∧ (H.1 1871 0) ≤ 2147483647 := hrg0.2 1871 0 13 .int rfl (by omega)
      refine h_run 0 (pc' := 61) (l' := [(0, .inr (.inr 1826)), (1, .inl b)]) (st' := [.inl (H.1 1871 0), .inr (.inr 1872)]) rfl ?_
      refine h_run 1 (pc' := 62) (l' := [(0, .inr (.inr 1826)), (1, .inl b)]) (st' := [.inl 0, .inl (H.1 1871 0), .inr (.inr 1872)]) rfl ?_
      refine h_bst (c := 1872) (j := ((H.1 1871 0)).toNat) (i := (H.1 1871 0)) (x := 0) (Or.inr rfl) rfl rfl (by decide) (by decide) (by omega) (by omega) (show (0 : Int) ≤ 0 ∧ 0 ≤ 1 by omega) ?_
      refine h_run 2 (pc' := 67) (l' := [(0, .inr (.inr 1826)), (1, .inl b)]) (st' := [.inl (H.1 1826 95)]) rfl ?_
      refine h_run 4 (pc' := 71) (l' := [(0, .inr (.inr 1826)), (1, .inl b), (2, .inl ((H.1 1826 95) - 1))]) (st' := [.inl ((H.1 1826 95) - 1)]) rfl ?_
      refine h_zle (off := 37) (t := 108) rfl rfl (by omega) (fun c36 => ?_) (fun c36 => ?_)
      · refine h_run 1 (pc' := 109) (l' := [(0, .inr (.inr 1826)), (1, .inl b), (2, .inl ((H.1 1826 95) - 1))]) (st' := [.inl ((H.1 1826 95) - 1)]) rfl ?_
        refine h_zge (off := 33) (t := 142) rfl rfl (by omega) (fun c37 => ?_) (fun c37 => ?_)
        · refine h_run 2 (pc' := 144) (l' := [(0, .inr (.inr 1826)), (1, .inl b), (2, .inl ((H.1 1826 95) - 1)), (3, .inl 0)]) (st' := []) rfl ?_
          rw [show ((H.1 1826 95) - 1) = ((m : Int) - 1) by omega]
          exact (m_replace_cut hd hb hR hm hGf hpr _).2.2.2 _ 0 (fr_a (fr_rf _ _ _) (by decide)) (fun x => ⟨sS_rf H x, sH_rf H x⟩) (by omega) (by omega) (by omega : (H.1 1826 77) = (n : Int)) rfl (fun j hj => absurd hj (Nat.not_lt_zero _)) (fun x h1 h2 => by rw [show x + m - 1 = x by omega]; rfl) (fun q => absurd q (by omega)) (Nat.lt_succ_self _)
        · refine h_run 2 (pc' := 114) (l' := [(0, .inr (.inr 1826)), (1, .inl b), (2, .inl ((H.1 1826 95) - 1)), (3, .inl 1)]) (st' := []) rfl ?_
          rw [show ((H.1 1826 95) - 1) = ((m : Int) - 1) by omega]
          exact (m_replace_cut hd hb hR hm hGf hpr _).2.2.1 _ 1 (fr_a (fr_rf _ _ _) (by decide)) (fun x => ⟨sS_rf H x, sH_rf H x⟩) (by omega) (by omega) (by omega : (H.1 1826 77) = (n : Int)) rfl (fun x h1 h2 => absurd h1 (by omega)) (fun _ _ => rfl) (fun _ => rfl) (Nat.lt_succ_self _)
      · refine h_run 2 (pc' := 78) (l' := [(0, .inr (.inr 1826)), (1, .inl b), (2, .inl ((H.1 1826 95) - 1))]) (st' := [.inl (H.1 1826 77)]) rfl ?_
        refine h_run 3 (pc' := 81) (l' := [(0, .inr (.inr 1826)), (1, .inl b), (2, .inl ((H.1 1826 95) - 1)), (3, .inl ((H.1 1826 77) - 1))]) (st' := []) rfl ?_
        rw [show ((H.1 1826 95) - 1) = ((m : Int) - 1) by omega]
        rw [show ((H.1 1826 77) - 1) = (((((H.1 1826 77) - 1)).toNat : Nat) : Int) by omega]
        exact (m_replace_cut hd hb hR hm hGf hpr _).2.1 _ (((H.1 1826 77) - 1)).toNat (fr_a (fr_rf _ _ _) (by decide)) (fun x => ⟨sS_rf H x, sH_rf H x⟩) (by omega) (by omega) (by omega : (H.1 1826 77) = (n : Int)) rfl (fun _ _ => rfl) (fun x h1 h2 => absurd h1 (by omega)) (Nat.lt_succ_self _)
    · refine h_run 2 (pc' := 22) (l' := [(0, .inr (.inr 1826)), (1, .inl b), (2, .inl 0)]) (st' := []) rfl ?_
      exact (m_replace_cut hd hb hR hm hGf hpr _).1 _ 0 (fr_rf _ _ _) (fun x => ⟨sS_rf H x, sH_rf H x⟩) (by omega) (by omega : (H.1 1826 77) = (n : Int)) (fun j hj => absurd hj (Nat.not_lt_zero _)) (fun g _ => rfl) rfl (Nat.lt_succ_self _)
