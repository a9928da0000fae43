/-! the class's reader: laws, as the machine reads them -/
theorem kco_all : (List.range 4).all (fun k => (List.range 16).all (fun i => (List.range 8).all (fun a => decide (z_shr (kco (k : Nat) (i : Nat) (a : Nat)) 10 = (k : Nat)) && decide (z_and (z_shr (kco (k : Nat) (i : Nat) (a : Nat)) 3) 127 = (i : Nat))))) = true := by decide +kernel
theorem kco_ok {k i a : Int} (hk : 0 ≤ k ∧ k < 4) (hi : 0 ≤ i ∧ i < 16) (ha : 0 ≤ a ∧ a < 8) : z_shr (kco k i a) 10 = k ∧ z_and (z_shr (kco k i a) 3) 127 = i := by
  have h1 := List.all_eq_true.mp kco_all k.toNat (List.mem_range.mpr (by omega))
  have h2 := List.all_eq_true.mp h1 i.toNat (List.mem_range.mpr (by omega))
  have h3 := List.all_eq_true.mp h2 a.toNat (List.mem_range.mpr (by omega))
  rw [Bool.and_eq_true, decide_eq_true_eq, decide_eq_true_eq, show ((k.toNat : Nat) : Int) = k by omega, show ((i.toNat : Nat) : Int) = i by omega, show ((a.toNat : Nat) : Int) = a by omega] at h3
  exact h3
theorem xst_12 (X : rx) (n : Nat) (x a : Int) : xst (xu X 12 n x) a = xu (xst X a) 12 n x := by
  funext c
  by_cases h0 : c = 0
  · subst h0
    simp [xst, xu]
  · by_cases h1 : c = 12
    · subst h1
      simp [xst, xu]
    · simp [xst, xu, h0, h1]
theorem RB_lf {Y : yx} {q : Nat} {H : hp} {X : rx} (h : RB Y q H X) (h1 : tk Y (xi X) ≠ 1) (h0 : tk Y (xi X) ≠ 0) (hc : H.1 7 6 ≤ 16) : fnd (fun l => H.1 (265 + 6 * l) 5) (H.1 7 6) (H.1 6 (H.1 361 3).toNat) = lfd Y X := by
  have e := h.2.1.1.2.2.2.2
  rw [RB_tn h h1 h0, e]
  exact fnd_cg (fun k hk => h.2.1.2.2.2.2 k (by omega) hk)
/-- the name of a law that is being read -/
theorem RT_name {Y : yx} {q : Nat} {H H1 : hp} {X : rx} {e : Nat} {x : Int} (h : RT Y q H X) (he : e = 265 + 6 * (X 0 7).toNat) (h7 : 0 ≤ X 0 7 ∧ X 0 7 < 16) (w : wr e 5 H H1) : RT Y q H1 (xu X 12 (X 0 7).toNat x) := by
  obtain ⟨hB, ⟨v1, ⟨kE, hkE, hEE⟩, v3⟩, s1, s2, s3⟩ := h
  have hg : ∀ c i, c ≠ e → H1.1 c i = H.1 c i := fun c i a => w.2 c i (fun q => a q.1)
  have h2 : H1.2 = H.2 := w.1
  have er : ∀ c, c ≠ 12 → xu X 12 (X 0 7).toNat x c = X c := fun c a => xu_ne _ _ _ a
  have nt : H.2 361 8 ≠ e ∧ H.2 361 8 + 1 ≠ e := by
    rcases s1 with q | ⟨k2, hk2, q | q⟩ <;> omega
  refine ⟨⟨KC_cg hB.1 (fun c i hc => hg c i (by omega)), TC_in ?_ ?_ ?_ ?_, ?_, ER_cg hB.2.2.2 (fun c i _ => by rw [h2])⟩, ⟨?_, ?_, fun hm => ?_⟩, ?_, ?_, fun i hi => ?_⟩
  · have t := TC_1 hB.2.1
    unfold T1 at t ⊢
    rw [er 0 (by decide), er 1 (by decide), hg 8 4 (by omega)]
    exact ⟨t.1, fun k hk => by rw [hg 9 k (by omega)]; exact t.2 k hk⟩
  · have t := TC_2 hB.2.1
    unfold T2 at t ⊢
    rw [er 0 (by decide), er 2 (by decide), er 3 (by decide), er 4 (by decide), er 5 (by decide), hg 13 4 (by omega)]
    refine ⟨t.1, fun k hk => ?_⟩
    obtain ⟨a1, a2, a3, a4⟩ := t.2 k hk
    rw [hg 14 k (by omega), hg 15 k (by omega), hg 16 k (by omega)]
    exact ⟨a1, a2, a3, fun a ha => by rw [hg 17 _ (by omega)]; exact a4 a ha⟩
  · have t := TC_3 hB.2.1
    unfold T3 at t ⊢
    rw [er 0 (by decide), er 6 (by decide), er 7 (by decide), er 8 (by decide), er 9 (by decide), hg 18 4 (by omega)]
    refine ⟨t.1, fun k hk => ?_⟩
    obtain ⟨a1, a2, a3, a4⟩ := t.2 k hk
    rw [hg 19 k (by omega), hg 20 k (by omega), hg 21 k (by omega)]
    exact ⟨a1, a2, a3, fun a ha => by rw [hg 22 _ (by omega)]; exact a4 a ha⟩
  · have t := TC_4 hB.2.1
    unfold T4 at t ⊢
    rw [er 0 (by decide), xu_eq, hg 7 5 (by omega), hg 7 6 (by omega)]
    refine ⟨t.1, fun l l1 hl => ?_⟩
    rw [hg _ 5 (by omega), up_ne _ _ (by omega)]
    exact t.2 l l1 hl
  · rw [er 0 (by decide), hg 361 3 (by omega)]
    exact hB.2.2.1
  · rw [er 0 (by decide), hg 361 6 (by omega)]
    exact v1
  · rw [h2]
    exact ⟨kE, hkE, hEE⟩
  · rw [er 0 (by decide)] at hm
    rw [er 0 (by decide), er 10 (by decide), er 11 (by decide), h2, hg 361 9 (by omega)]
    obtain ⟨w1, w2⟩ := v3 hm
    refine ⟨w1, fun v hv => ?_⟩
    rw [hg 362 v (by omega), hg _ v (by omega)]
    exact w2 v hv
  · rw [h2]
    exact s1
  · rw [h2, er 0 (by decide), hg _ _ nt.1]
    exact s2
  · rw [er 0 (by decide)] at hi
    rw [h2, er 13 (by decide), kcd_cg (X := X) (er 4 (by decide)) (er 8 (by decide)), hg _ _ nt.2]
    exact s3 i hi
/-- the type of the first sign -/
theorem RT_hd {Y : yx} {q : Nat} {H : hp} {X : rx} (hI : Inv H) (h : RT Y q H X) (h1 : 1 ≤ X 0 2) (hs : HS X (X 13 0)) : ∃ k9 i9 a9 : Int, H.1 (H.2 361 8 + 1) 0 = kco k9 i9 a9 ∧ ((k9 = 1 ∨ k9 = 2) ∧ (0 ≤ i9 ∧ i9 < 16) ∧ 0 ≤ a9 ∧ a9 < 8) ∧ (k9 = 1 → thd X = H.1 15 i9.toNat) ∧ (k9 = 2 → thd X = H.1 20 i9.toNat) := by
  have e := h.2.2.2.2 0 (by omega)
  have c1 := h.1.2.1.1.2.1
  have c2 := h.1.2.1.1.2.2.1
  have b1 : 0 ≤ H.1 13 4 ∧ H.1 13 4 ≤ 16 := kn (x := kx_13) hI rfl 4
  have b2 : 0 ≤ H.1 18 4 ∧ H.1 18 4 ≤ 16 := kn (x := kx_18) hI rfl 4
  rcases hs with q | q
  · obtain ⟨-, a1, a2, -⟩ := RB_c (x := X 13 0 - 1) h.1 (by omega) (by omega)
    have b3 : 0 ≤ H.1 16 (X 13 0 - 1).toNat ∧ H.1 16 (X 13 0 - 1).toNat ≤ 4 := kn (x := kx_16) hI rfl _
    refine ⟨1, X 13 0 - 1, X 4 (X 13 0 - 1).toNat, ?_, ⟨Or.inl rfl, by omega, by omega⟩, fun _ => ?_, fun q => absurd q (by decide)⟩
    · rw [e, show X 13 0 = 1 + (X 13 0 - 1) by omega, kcd_c X (by omega), show 1 + (X 13 0 - 1) - 1 = X 13 0 - 1 by omega]
    · unfold thd
      rw [if_neg (by omega), if_neg (by omega), if_neg (by omega), a2]
  · obtain ⟨-, a1, a2, -⟩ := RB_f (x := X 13 0 - 100) h.1 (by omega) (by omega)
    have b3 : 0 ≤ H.1 21 (X 13 0 - 100).toNat ∧ H.1 21 (X 13 0 - 100).toNat ≤ 4 := kn (x := kx_21) hI rfl _
    refine ⟨2, X 13 0 - 100, X 8 (X 13 0 - 100).toNat, ?_, ⟨Or.inr rfl, by omega, by omega⟩, fun q => absurd q (by decide), fun _ => ?_⟩
    · rw [e, show X 13 0 = 100 + (X 13 0 - 100) by omega, kcd_f X (by omega), show 100 + (X 13 0 - 100) - 100 = X 13 0 - 100 by omega]
    · unfold thd
      rw [if_neg (by omega), if_pos (by omega), a2]

/-! Term.kindOf -/
set_option maxRecDepth 100000 in
theorem q_Term_kindOf {d : Nat} (hd : 1 ≤ d) {H : hp} {a : Int} (ha : -2147483648 ≤ a ∧ a ≤ 2147483647) : hG (zs zK) d mt_49 0 (zargs 0 [.inl a]) [] H (fun r9 H9 => ∃ z : Int, r9 = some (.inl z) ∧ ((-2147483648 ≤ z ∧ z ≤ 2147483647)) ∧ (z = z_shr a 10) ∧ H = H9) := by
  refine k_run 0 (pc' := 0) (l' := [(0, .inl a)]) (st' := []) rfl ?_
  refine k_run 3 (pc' := 4) (l' := [(0, .inl a)]) (st' := [.inl (z_shr a 10)]) rfl ?_
  refine h_reti (x := (z_shr a 10)) rfl rfl ?_
  exact ⟨_, rfl, (z_int _), rfl, rfl⟩

/-! Term.indexOf -/
set_option maxRecDepth 100000 in
theorem q_Term_indexOf {d : Nat} (hd : 1 ≤ d) {H : hp} {a : Int} (ha : -2147483648 ≤ a ∧ a ≤ 2147483647) : hG (zs zK) d mt_50 0 (zargs 0 [.inl a]) [] H (fun r9 H9 => ∃ z : Int, r9 = some (.inl z) ∧ ((-2147483648 ≤ z ∧ z ≤ 2147483647)) ∧ (z = z_and (z_shr a 3) 127) ∧ H = H9) := by
  refine k_run 0 (pc' := 0) (l' := [(0, .inl a)]) (st' := []) rfl ?_
  refine k_run 5 (pc' := 6) (l' := [(0, .inl a)]) (st' := [.inl (z_and (z_shr a 3) 127)]) rfl ?_
  have g1 : 0 ≤ (z_and (z_shr a 3) 127) ∧ (z_and (z_shr a 3) 127) ≤ 127 := z_and_le _ 127 (by decide)
  refine h_reti (x := (z_and (z_shr a 3) 127)) rfl rfl ?_
  exact ⟨_, rfl, (z_int _), rfl, rfl⟩

/-! Term.codeAt -/
set_option maxRecDepth 100000 in
theorem q_Term_codeAt {d : Nat} (hd : 1 ≤ d) {H : hp} (hI : Inv H) {t n : Nat} {a : Int} (ht : isT t n) (ha : -2147483648 ≤ a ∧ a ≤ 2147483647) (hp0 : 0 ≤ a ∧ a < H.1 t 1) : hG (zs zK) d mt_51 0 (zargs 0 [.inr (.inr t), .inl a]) [] H (fun r9 H9 => ∃ z : Int, r9 = some (.inl z) ∧ ((-2147483648 ≤ z ∧ z ≤ 2147483647)) ∧ (z = H.1 (t + 1) a.toNat) ∧ H = H9) := by
  have htb := ht.2.2.2.2
  refine k_run 0 (pc' := 0) (l' := [(0, .inr (.inr t)), (1, .inl a)]) (st' := []) rfl ?_
  refine k_run 1 (pc' := 1) (l' := [(0, .inr (.inr t)), (1, .inl a)]) (st' := [.inl a]) rfl ?_
  refine h_zlt (off := 20) (t := 21) rfl rfl (by omega) (fun c1 => ?_) (fun c1 => ?_)
  · refine k_run 0 (pc' := 21) (l' := [(0, .inr (.inr t)), (1, .inl a)]) (st' := []) rfl ?_
    refine k_run 1 (pc' := 22) (l' := [(0, .inr (.inr t)), (1, .inl a)]) (st' := [.inl 0]) rfl ?_
    refine h_reti (x := 0) rfl rfl ?_
    exact ⟨_, rfl, (by omega), (by first | rfl | (exfalso; omega)), rfl⟩
  · refine k_run 0 (pc' := 4) (l' := [(0, .inr (.inr t)), (1, .inl a)]) (st' := []) rfl ?_
    refine k_run 2 (pc' := 6) (l' := [(0, .inr (.inr t)), (1, .inl a)]) (st' := [.inr (.inr t), .inl a]) rfl ?_
    refine k_get (a := t) (x := (kTo t n)) (v := .inl (H.1 t 1)) rfl rfl ht.1 (iT0 ht) rfl rfl rfl ?_
    have g2 : 0 ≤ (H.1 t 1) ∧ (H.1 t 1) ≤ n := kn hI ht.1 1
    refine k_run 0 (pc' := 9) (l' := [(0, .inr (.inr t)), (1, .inl a)]) (st' := [.inl (H.1 t 1), .inl a]) rfl ?_
    refine h_ige (off := 12) (t := 21) rfl rfl (by omega) (by omega) (fun c3 => ?_) (fun c3 => ?_)
    · refine k_run 0 (pc' := 21) (l' := [(0, .inr (.inr t)), (1, .inl a)]) (st' := []) rfl ?_
      refine k_run 1 (pc' := 22) (l' := [(0, .inr (.inr t)), (1, .inl a)]) (st' := [.inl 0]) rfl ?_
      refine h_reti (x := 0) rfl rfl ?_
      exact ⟨_, rfl, (by omega), (by first | rfl | (exfalso; omega)), rfl⟩
    · refine k_run 0 (pc' := 12) (l' := [(0, .inr (.inr t)), (1, .inl a)]) (st' := []) rfl ?_
      refine k_run 1 (pc' := 13) (l' := [(0, .inr (.inr t)), (1, .inl a)]) (st' := [.inr (.inr t)]) rfl ?_
      refine k_get (a := t) (x := (kTo t n)) (v := .inr (.inr (t + 1))) rfl rfl ht.1 (iT0 ht) rfl rfl rfl ?_
      refine k_run 0 (pc' := 16) (l' := [(0, .inr (.inr t)), (1, .inl a)]) (st' := [.inr (.inr (t + 1))]) rfl ?_
      refine k_run 1 (pc' := 17) (l' := [(0, .inr (.inr t)), (1, .inl a)]) (st' := [.inl a, .inr (.inr (t + 1))]) rfl ?_
      refine k_ild (c := (t + 1)) (j := (a).toNat) (i := a) (x := (kTc n)) rfl ht.2.1 (iT1 ht) rfl (by omega) (by omega) (by omega) ?_
      have g4 : -2147483648 ≤ (H.1 (t + 1) (a).toNat) ∧ (H.1 (t + 1) (a).toNat) ≤ 2147483647 := kn hI ht.2.1 (a).toNat
      refine k_run 0 (pc' := 18) (l' := [(0, .inr (.inr t)), (1, .inl a)]) (st' := [.inl (H.1 (t + 1) (a).toNat)]) rfl ?_
      refine k_run 1 (pc' := 22) (l' := [(0, .inr (.inr t)), (1, .inl a)]) (st' := [.inl (H.1 (t + 1) (a).toNat)]) rfl ?_
      refine h_reti (x := (H.1 (t + 1) (a).toNat)) rfl rfl ?_
      exact ⟨_, rfl, (by omega), (by first | rfl | (exfalso; omega)), rfl⟩

/-! Program.typeOf -/
set_option maxRecDepth 100000 in
theorem q_Program_typeOf {k9 i9 a9 : Int} {d : Nat} (hd : 2 ≤ d) {H : hp} (hI : Inv H) {a : Int} {b n : Nat} (ha : -2147483648 ≤ a ∧ a ≤ 2147483647) (hb : isA b n) (hk9 : a = kco k9 i9 a9) (hb9 : (k9 = 1 ∨ k9 = 2) ∧ (0 ≤ i9 ∧ i9 < 16) ∧ 0 ≤ a9 ∧ a9 < 8) : hG (zs zK) d mt_37 0 (zargs 0 [.inr (.inr 7), .inl a, .inr (.inr b)]) [] H (fun r9 H9 => ∃ z : Int, r9 = some (.inl z) ∧ ((-2147483648 ≤ z ∧ z ≤ 2147483647) ∧ (-2 ≤ z ∧ z ≤ 100)) ∧ ((k9 = 1 → z = H.1 15 i9.toNat) ∧ (k9 = 2 → z = H.1 20 i9.toNat)) ∧ H = H9) := by
  have hbb : n ≤ 240 := by obtain ⟨_, _, _, _, h9⟩ := hb; exact h9
  obtain ⟨hq1, hq2⟩ := kco_ok (k := k9) (i := i9) (a := a9) (by omega) (by omega) (by omega)
  rw [← hk9] at hq1 hq2
  refine k_run 0 (pc' := 0) (l' := [(0, .inr (.inr 7)), (1, .inl a), (2, .inr (.inr b))]) (st' := []) rfl ?_
  refine k_run 1 (pc' := 1) (l' := [(0, .inr (.inr 7)), (1, .inl a), (2, .inr (.inr b))]) (st' := [.inl a]) rfl ?_
  refine h_cs (i := 44) (j := 50) (M' := mt_50) (xs := [.inl a]) (rest := []) rfl rfl rfl rfl rfl (Nat.le_of_ble_eq_true rfl) (Nat.le_of_ble_eq_true rfl) (by omega) (q_Term_indexOf (by omega)  (by omega)) ?_
  rintro _ _ ⟨z7, rfl, g1, hx6, rfl⟩
  refine k_run 0 (pc' := 4) (l' := [(0, .inr (.inr 7)), (1, .inl a), (2, .inr (.inr b))]) (st' := [.inl z7]) rfl ?_
  refine k_run 2 (pc' := 6) (l' := [(0, .inr (.inr 7)), (1, .inl a), (2, .inr (.inr b)), (3, .inl z7)]) (st' := [.inl a]) rfl ?_
  refine h_cs (i := 50) (j := 49) (M' := mt_49) (xs := [.inl a]) (rest := []) rfl rfl rfl rfl rfl (Nat.le_of_ble_eq_true rfl) (Nat.le_of_ble_eq_true rfl) (by omega) (q_Term_kindOf (by omega)  (by omega)) ?_
  rintro _ _ ⟨z14, rfl, g8, hx13, rfl⟩
  refine k_run 0 (pc' := 9) (l' := [(0, .inr (.inr 7)), (1, .inl a), (2, .inr (.inr b)), (3, .inl z7)]) (st' := [.inl z14]) rfl ?_
  rw [hq1] at hx13
  rw [hq2] at hx6
  rcases (show z14 < 1 ∨ 3 < z14 ∨ z14 = 1 ∨ z14 = 2 ∨ z14 = 3 by omega) with c15 | c15 | c15 | c15 | c15
  · refine h_tout (t := 102) rfl (by omega) (Or.inl c15) rfl ?_
    refine k_run 1 (pc' := 103) (l' := [(0, .inr (.inr 7)), (1, .inl a), (2, .inr (.inr b)), (3, .inl z7)]) (st' := [.inl (-1)]) rfl ?_
    refine h_reti (x := (-1)) rfl rfl ?_
    exact ⟨_, rfl, (by omega), (by exfalso; omega), rfl⟩
  · refine h_tout (t := 102) rfl (by omega) (Or.inr c15) rfl ?_
    refine k_run 1 (pc' := 103) (l' := [(0, .inr (.inr 7)), (1, .inl a), (2, .inr (.inr b)), (3, .inl z7)]) (st' := [.inl (-1)]) rfl ?_
    refine h_reti (x := (-1)) rfl rfl ?_
    exact ⟨_, rfl, (by omega), (by exfalso; omega), rfl⟩
  · refine h_tin (k := 0) (t := 36) rfl (by omega) (show z14 = 1 + ((0 : Nat) : Int) by omega) (by decide) rfl rfl ?_
    refine k_run 4 (pc' := 44) (l' := [(0, .inr (.inr 7)), (1, .inl a), (2, .inr (.inr b)), (3, .inl z7)]) (st' := [.inr (.inr 15), .inl z7]) rfl ?_
    refine k_alen (c := 15) (x := kx_15) rfl rfl (by decide) rfl ?_
    refine k_run 0 (pc' := 45) (l' := [(0, .inr (.inr 7)), (1, .inl a), (2, .inr (.inr b)), (3, .inl z7)]) (st' := [.inl 16, .inl z7]) rfl ?_
    refine h_ige (off := 15) (t := 60) rfl rfl (by omega) (by decide) (fun c16 => ?_) (fun c16 => ?_)
    · refine k_run 0 (pc' := 60) (l' := [(0, .inr (.inr 7)), (1, .inl a), (2, .inr (.inr b)), (3, .inl z7)]) (st' := []) rfl ?_
      refine k_run 1 (pc' := 61) (l' := [(0, .inr (.inr 7)), (1, .inl a), (2, .inr (.inr b)), (3, .inl z7)]) (st' := [.inl (-1)]) rfl ?_
      refine h_reti (x := (-1)) rfl rfl ?_
      exact ⟨_, rfl, (by omega), (by exfalso; omega), rfl⟩
    · refine k_run 0 (pc' := 48) (l' := [(0, .inr (.inr 7)), (1, .inl a), (2, .inr (.inr b)), (3, .inl z7)]) (st' := []) rfl ?_
      refine k_run 4 (pc' := 56) (l' := [(0, .inr (.inr 7)), (1, .inl a), (2, .inr (.inr b)), (3, .inl z7)]) (st' := [.inl z7, .inr (.inr 15)]) rfl ?_
      refine k_ild (c := 15) (j := (z7).toNat) (i := z7) (x := kx_15) rfl rfl (by decide) rfl (by decide) (by omega) (by omega) ?_
      have g17 : -2 ≤ (H.1 15 (z7).toNat) ∧ (H.1 15 (z7).toNat) ≤ 100 := kn (x := kx_15) hI rfl (z7).toNat
      refine k_run 0 (pc' := 57) (l' := [(0, .inr (.inr 7)), (1, .inl a), (2, .inr (.inr b)), (3, .inl z7)]) (st' := [.inl (H.1 15 (z7).toNat)]) rfl ?_
      refine k_run 1 (pc' := 61) (l' := [(0, .inr (.inr 7)), (1, .inl a), (2, .inr (.inr b)), (3, .inl z7)]) (st' := [.inl (H.1 15 (z7).toNat)]) rfl ?_
      refine h_reti (x := (H.1 15 (z7).toNat)) rfl rfl ?_
      exact ⟨_, rfl, (by omega), (by first | (exfalso; omega) | exact ⟨fun q9 => (by rw [hx6]), fun q9 => absurd q9 (by omega)⟩ | exact ⟨fun q9 => absurd q9 (by omega), fun q9 => (by rw [hx6])⟩), rfl⟩
  · refine h_tin (k := 1) (t := 62) rfl (by omega) (show z14 = 1 + ((1 : Nat) : Int) by omega) (by decide) rfl rfl ?_
    refine k_run 4 (pc' := 70) (l' := [(0, .inr (.inr 7)), (1, .inl a), (2, .inr (.inr b)), (3, .inl z7)]) (st' := [.inr (.inr 20), .inl z7]) rfl ?_
    refine k_alen (c := 20) (x := kx_20) rfl rfl (by decide) rfl ?_
    refine k_run 0 (pc' := 71) (l' := [(0, .inr (.inr 7)), (1, .inl a), (2, .inr (.inr b)), (3, .inl z7)]) (st' := [.inl 16, .inl z7]) rfl ?_
    refine h_ige (off := 15) (t := 86) rfl rfl (by omega) (by decide) (fun c18 => ?_) (fun c18 => ?_)
    · refine k_run 0 (pc' := 86) (l' := [(0, .inr (.inr 7)), (1, .inl a), (2, .inr (.inr b)), (3, .inl z7)]) (st' := []) rfl ?_
      refine k_run 1 (pc' := 87) (l' := [(0, .inr (.inr 7)), (1, .inl a), (2, .inr (.inr b)), (3, .inl z7)]) (st' := [.inl (-1)]) rfl ?_
      refine h_reti (x := (-1)) rfl rfl ?_
      exact ⟨_, rfl, (by omega), (by exfalso; omega), rfl⟩
    · refine k_run 0 (pc' := 74) (l' := [(0, .inr (.inr 7)), (1, .inl a), (2, .inr (.inr b)), (3, .inl z7)]) (st' := []) rfl ?_
      refine k_run 4 (pc' := 82) (l' := [(0, .inr (.inr 7)), (1, .inl a), (2, .inr (.inr b)), (3, .inl z7)]) (st' := [.inl z7, .inr (.inr 20)]) rfl ?_
      refine k_ild (c := 20) (j := (z7).toNat) (i := z7) (x := kx_20) rfl rfl (by decide) rfl (by decide) (by omega) (by omega) ?_
      have g19 : -2 ≤ (H.1 20 (z7).toNat) ∧ (H.1 20 (z7).toNat) ≤ 100 := kn (x := kx_20) hI rfl (z7).toNat
      refine k_run 0 (pc' := 83) (l' := [(0, .inr (.inr 7)), (1, .inl a), (2, .inr (.inr b)), (3, .inl z7)]) (st' := [.inl (H.1 20 (z7).toNat)]) rfl ?_
      refine k_run 1 (pc' := 87) (l' := [(0, .inr (.inr 7)), (1, .inl a), (2, .inr (.inr b)), (3, .inl z7)]) (st' := [.inl (H.1 20 (z7).toNat)]) rfl ?_
      refine h_reti (x := (H.1 20 (z7).toNat)) rfl rfl ?_
      exact ⟨_, rfl, (by omega), (by first | (exfalso; omega) | exact ⟨fun q9 => (by rw [hx6]), fun q9 => absurd q9 (by omega)⟩ | exact ⟨fun q9 => absurd q9 (by omega), fun q9 => (by rw [hx6])⟩), rfl⟩
  · refine h_tin (k := 2) (t := 88) rfl (by omega) (show z14 = 1 + ((2 : Nat) : Int) by omega) (by decide) rfl rfl ?_
    refine k_run 2 (pc' := 90) (l' := [(0, .inr (.inr 7)), (1, .inl a), (2, .inr (.inr b)), (3, .inl z7)]) (st' := [.inr (.inr b), .inl z7]) rfl ?_
    refine h_alen (c := b) rfl (iAs hb) ?_
    refine k_run 0 (pc' := 91) (l' := [(0, .inr (.inr 7)), (1, .inl a), (2, .inr (.inr b)), (3, .inl z7)]) (st' := [.inl (n : Int), .inl z7]) rfl ?_
    refine h_ige (off := 9) (t := 100) rfl rfl (by omega) (by omega) (fun c20 => ?_) (fun c20 => ?_)
    · refine k_run 0 (pc' := 100) (l' := [(0, .inr (.inr 7)), (1, .inl a), (2, .inr (.inr b)), (3, .inl z7)]) (st' := []) rfl ?_
      refine k_run 1 (pc' := 101) (l' := [(0, .inr (.inr 7)), (1, .inl a), (2, .inr (.inr b)), (3, .inl z7)]) (st' := [.inl (-1)]) rfl ?_
      refine h_reti (x := (-1)) rfl rfl ?_
      exact ⟨_, rfl, (by omega), (by exfalso; omega), rfl⟩
    · refine k_run 0 (pc' := 94) (l' := [(0, .inr (.inr 7)), (1, .inl a), (2, .inr (.inr b)), (3, .inl z7)]) (st' := []) rfl ?_
      refine k_run 2 (pc' := 96) (l' := [(0, .inr (.inr 7)), (1, .inl a), (2, .inr (.inr b)), (3, .inl z7)]) (st' := [.inl z7, .inr (.inr b)]) rfl ?_
      refine h_ild (c := b) (j := (z7).toNat) (i := z7) rfl (iAs hb) (by omega) (by omega) (by omega) ?_
      have g21 : -2 ≤ (H.1 b (z7).toNat) ∧ (H.1 b (z7).toNat) ≤ 100 := iAz hI hb (z7).toNat
      refine k_run 0 (pc' := 97) (l' := [(0, .inr (.inr 7)), (1, .inl a), (2, .inr (.inr b)), (3, .inl z7)]) (st' := [.inl (H.1 b (z7).toNat)]) rfl ?_
      refine k_run 1 (pc' := 101) (l' := [(0, .inr (.inr 7)), (1, .inl a), (2, .inr (.inr b)), (3, .inl z7)]) (st' := [.inl (H.1 b (z7).toNat)]) rfl ?_
      refine h_reti (x := (H.1 b (z7).toNat)) rfl rfl ?_
      exact ⟨_, rfl, (by omega), (by first | (exfalso; omega) | exact ⟨fun q9 => (by rw [hx6]), fun q9 => absurd q9 (by omega)⟩ | exact ⟨fun q9 => absurd q9 (by omega), fun q9 => (by rw [hx6])⟩), rfl⟩

/-! Program.hasLawNamed -/
set_option maxRecDepth 100000 in
theorem q_Program_hasLawNamed_cut {d : Nat} (hd : 1 ≤ d) {H : hp} (hI : Inv H) {a : Int} (hp0 : -9223372036854775808 ≤ a ∧ a ≤ 9223372036854775807) (hE : ER H) : ∀ w : Nat, (∀ (x3 : Int) , (-2147483648 ≤ x3 ∧ x3 ≤ 2147483647) → (0 ≤ x3) → (fndA (fun l => H.1 (265 + 6 * l) 5) a (H.1 7 6 - x3).toNat x3.toNat = fnd (fun l => H.1 (265 + 6 * l) 5) (H.1 7 6) a) → (((100 - x3).toNat) < w) → hG (zs zK) d mt_36 2 [(0, .inr (.inr 7)), (1, .inr (.inl a)), (3, .inl x3)] [] H (fun r9 H9 => ∃ z : Int, r9 = some (.inl z) ∧ ((0 ≤ z ∧ z ≤ 1)) ∧ (z = 1 ↔ 0 ≤ fnd (fun l => H.1 (265 + 6 * l) 5) (H.1 7 6) a) ∧ H = H9)) := by
  intro w
  induction w with
  | zero => exact fun _ _ _ _ h => absurd h (Nat.not_lt_zero _)
  | succ w ih =>
    intro x3 hx3 hi0 hi1 hw
    obtain ⟨Q9, hQ9⟩ : ∃ Q9 : Option zv → hp → Prop, Q9 = (fun r9 H9 => ∃ z : Int, r9 = some (.inl z) ∧ ((0 ≤ z ∧ z ≤ 1)) ∧ (z = 1 ↔ 0 ≤ fnd (fun l => H.1 (265 + 6 * l) 5) (H.1 7 6) a) ∧ H = H9) := ⟨_, rfl⟩
    rw [← hQ9]
    have g2 : 0 ≤ (H.1 7 6) ∧ (H.1 7 6) ≤ 16 := kn (x := kx_7) hI rfl 6
    refine k_run 3 (pc' := 7) (l' := [(0, .inr (.inr 7)), (1, .inr (.inl a)), (3, .inl x3)]) (st' := [.inl (H.1 7 6), .inl x3]) rfl ?_
    refine h_ige (off := 25) (t := 32) rfl rfl (by omega) (by omega) (fun c3 => ?_) (fun c3 => ?_)
    · refine k_run 0 (pc' := 32) (l' := [(0, .inr (.inr 7)), (1, .inr (.inl a)), (3, .inl x3)]) (st' := []) rfl ?_
      refine k_run 1 (pc' := 33) (l' := [(0, .inr (.inr 7)), (1, .inr (.inl a)), (3, .inl x3)]) (st' := [.inl 0]) rfl ?_
      refine h_retz (x := 0) rfl rfl (by decide) ?_
      rw [hQ9]
      exact ⟨_, rfl, (by omega), (by first | (exfalso; omega) | exact ⟨fun q9 => absurd q9 (by decide), fun q9 => (by rw [← hi1, fnd_end (by omega)] at q9; exact absurd q9 (by decide))⟩), rfl⟩
    · refine k_run 0 (pc' := 10) (l' := [(0, .inr (.inr 7)), (1, .inr (.inl a)), (3, .inl x3)]) (st' := []) rfl ?_
      refine k_run 3 (pc' := 15) (l' := [(0, .inr (.inr 7)), (1, .inr (.inl a)), (3, .inl x3)]) (st' := [.inl x3, .inr (.inr 24)]) rfl ?_
      refine k_ald (c := 24) (j := (x3).toNat) (i := x3) (x := kx_24) rfl rfl (by decide) rfl (by decide) (by omega) (by omega) hI (fun h4 => ?_)
      obtain ⟨t5, et7⟩ : ∃ t9, t9 = H.2 24 (x3).toNat := ⟨_, rfl⟩
      rw [← et7] at h4 ⊢
      have k6 : isE t5 := h4
      refine k_run 0 (pc' := 16) (l' := [(0, .inr (.inr 7)), (1, .inr (.inl a)), (3, .inl x3)]) (st' := [.inr (.inr t5)]) rfl ?_
      refine k_get (a := t5) (x := (kEo t5)) (v := .inr (.inl (H.1 t5 5))) rfl rfl k6.1 (iE0 k6) rfl rfl rfl ?_
      have g8 : -9223372036854775808 ≤ (H.1 t5 5) ∧ (H.1 t5 5) ≤ 9223372036854775807 := kn hI k6.1 5
      refine k_run 0 (pc' := 19) (l' := [(0, .inr (.inr 7)), (1, .inr (.inl a)), (3, .inl x3)]) (st' := [.inr (.inl (H.1 t5 5))]) rfl ?_
      refine k_run 2 (pc' := 21) (l' := [(0, .inr (.inr 7)), (1, .inr (.inl a)), (3, .inl x3)]) (st' := [.inl (z_cmp (H.1 t5 5) a)]) rfl ?_
      refine h_zne (off := 5) (t := 26) rfl rfl (z_int _) (fun c9 => ?_) (fun c9 => ?_)
      · replace c9 : (H.1 t5 5) ≠ a := fun q9 => c9 ((z_cmp_eq (by omega) (by omega)).mpr q9)
        refine k_run 0 (pc' := 26) (l' := [(0, .inr (.inr 7)), (1, .inr (.inl a)), (3, .inl x3)]) (st' := []) rfl ?_
        refine k_run 2 (pc' := 2) (l' := [(0, .inr (.inr 7)), (1, .inr (.inl a)), (3, .inl (x3 + 1))]) (st' := []) rfl ?_
        rw [hQ9]
        exact ih (x3 + 1) (by omega) (by omega) ((fnd_go hi0 (by omega) (by show H.1 (265 + 6 * x3.toNat) 5 ≠ a; rw [← hE.2 x3.toNat (by omega), ← et7]; omega)).trans hi1) (by omega)
      · replace c9 : (H.1 t5 5) = a := (z_cmp_eq (by omega) (by omega)).mp c9
        refine k_run 0 (pc' := 24) (l' := [(0, .inr (.inr 7)), (1, .inr (.inl a)), (3, .inl x3)]) (st' := []) rfl ?_
        refine k_run 1 (pc' := 25) (l' := [(0, .inr (.inr 7)), (1, .inr (.inl a)), (3, .inl x3)]) (st' := [.inl 1]) rfl ?_
        refine h_retz (x := 1) rfl rfl (by decide) ?_
        rw [hQ9]
        exact ⟨_, rfl, (by omega), (by first | (exfalso; omega) | exact ⟨fun _ => (by rw [← hi1, fnd_hit hi0 (by omega) (by show H.1 (265 + 6 * x3.toNat) 5 = a; rw [← hE.2 x3.toNat (by omega), ← et7]; omega)]; exact hi0), fun _ => rfl⟩), rfl⟩
set_option maxRecDepth 100000 in
theorem q_Program_hasLawNamed {d : Nat} (hd : 1 ≤ d) {H : hp} (hI : Inv H) {a : Int} (hp0 : -9223372036854775808 ≤ a ∧ a ≤ 9223372036854775807) (hE : ER H) : hG (zs zK) d mt_36 0 (zargs 0 [.inr (.inr 7), .inr (.inl a)]) [] H (fun r9 H9 => ∃ z : Int, r9 = some (.inl z) ∧ ((0 ≤ z ∧ z ≤ 1)) ∧ (z = 1 ↔ 0 ≤ fnd (fun l => H.1 (265 + 6 * l) 5) (H.1 7 6) a) ∧ H = H9) := by
  obtain ⟨Q9, hQ9⟩ : ∃ Q9 : Option zv → hp → Prop, Q9 = (fun r9 H9 => ∃ z : Int, r9 = some (.inl z) ∧ ((0 ≤ z ∧ z ≤ 1)) ∧ (z = 1 ↔ 0 ≤ fnd (fun l => H.1 (265 + 6 * l) 5) (H.1 7 6) a) ∧ H = H9) := ⟨_, rfl⟩
  rw [← hQ9]
  refine k_run 0 (pc' := 0) (l' := [(0, .inr (.inr 7)), (1, .inr (.inl a))]) (st' := []) rfl ?_
  refine k_run 2 (pc' := 2) (l' := [(0, .inr (.inr 7)), (1, .inr (.inl a)), (3, .inl 0)]) (st' := []) rfl ?_
  have g1 : 0 ≤ (H.1 7 6) ∧ (H.1 7 6) ≤ 16 := kn (x := kx_7) hI rfl 6
  rw [hQ9]
  exact (q_Program_hasLawNamed_cut hd hI hp0 hE _) (0 : Int) (by decide) (by omega) (by rw [Int.sub_zero]; rfl) (Nat.lt_succ_self _)
