/-! the reference reads texts: types, functions -/
/-- how long reading can go on -/
def mu (wk tok at9 sz : Int) : Nat := if wk = 0 then 2 * (sz - at9).toNat + (if tok = 0 then 1 else 2) else 0
theorem mu_lt {wk tok a sz wk' tok' a' : Int} {w : Nat} (hw : mu wk tok a sz < w + 1) (h0 : wk = 0) (h : wk' ≠ 0 ∨ (a ≤ a' ∧ a' ≤ sz ∧ ((tok' = 0 ∧ tok ≠ 0) ∨ a < a'))) : mu wk' tok' a' sz < w := by
  unfold mu at hw ⊢
  rw [if_pos h0] at hw
  by_cases h1 : wk' = 0
  · rw [if_pos h1]
    by_cases h2 : tok' = 0
    · rw [if_pos h2]
      by_cases h3 : tok = 0
      · rw [if_pos h3] at hw
        omega
      · rw [if_neg h3] at hw
        omega
    · rw [if_neg h2]
      by_cases h3 : tok = 0
      · rw [if_pos h3] at hw
        omega
      · rw [if_neg h3] at hw
        omega
  · rw [if_neg h1]
    have : 1 ≤ if tok = 0 then 1 else 2 := by
      split <;> omega
    omega

/-! put -/
set_option maxRecDepth 100000 in
theorem m_put1 {zC : Nat → Option zsh} {d : Nat} (hd : 2 ≤ d) {H : hp} {x : Int} (hw : (H.1 1826 35) = 0) (hr : 0 ≤ (H.1 1826 43) ∧ (H.1 1826 43) ≤ 47) (hx : -2147483648 ≤ x ∧ x ≤ 2147483647) : hG (zs zC) d mt_169 0 (zargs 0 [.inr (.inr 1826), .inl x]) [] H (fun r H2 => r = none ∧ H2 = zu (zu H 1851 (up (H.1 1851) (H.1 1826 43).toNat x)) 1826 (up (H.1 1826) 43 ((H.1 1826 43) + 1))) := by
  refine h_rng (fun hrg0 => ?_)
  refine h_run 0 (pc' := 0) (l' := [(0, .inr (.inr 1826)), (1, .inl x)]) (st' := []) rfl ?_
  refine h_run 1 (pc' := 1) (l' := [(0, .inr (.inr 1826)), (1, .inl x)]) (st' := [.inr (.inr 1826)]) rfl ?_
  have g1 : -2147483648 ≤ (H.1 1826 35) ∧ (H.1 1826 35) ≤ 2147483647 := hrg0.1 1826 13 35 _ .int rfl rfl
  refine h_cv (i := 293) (j := 158) (b := 1826) (M' := mt_158) (xs := []) (rest := []) rfl rfl rfl rfl rfl rfl (Nat.le_of_ble_eq_true rfl) (Nat.le_of_ble_eq_true rfl) (by omega) (m_good1 (by omega) (by omega : (H.1 1826 35) = 0)) ?_
  rintro _ _ ⟨rfl, rfl⟩
  refine h_run 0 (pc' := 4) (l' := [(0, .inr (.inr 1826)), (1, .inl x)]) (st' := [.inl 1]) rfl ?_
  refine h_zeq (off := 23) (t := 27) rfl rfl (by decide) (fun c => absurd c (by decide)) (fun _ => ?_)
  refine h_run 4 (pc' := 15) (l' := [(0, .inr (.inr 1826)), (1, .inl x)]) (st' := [.inl (H.1 1826 43), .inr (.inr 1851)]) rfl ?_
  have g2 : -2147483648 ≤ (H.1 1826 43) ∧ (H.1 1826 43) ≤ 2147483647 := hrg0.1 1826 13 43 _ .int rfl rfl
  refine h_run 1 (pc' := 16) (l' := [(0, .inr (.inr 1826)), (1, .inl x)]) (st' := [.inl x, .inl (H.1 1826 43), .inr (.inr 1851)]) rfl ?_
  refine h_ist (c := 1851) (j := ((H.1 1826 43)).toNat) (i := (H.1 1826 43)) (x := x) rfl rfl (by decide) (by decide) (by omega) (by omega) (by omega) ?_
  refine h_run 3 (pc' := 22) (l' := [(0, .inr (.inr 1826)), (1, .inl x)]) (st' := [.inl (H.1 1826 43), .inr (.inr 1826)]) rfl ?_
  refine h_run 2 (pc' := 24) (l' := [(0, .inr (.inr 1826)), (1, .inl x)]) (st' := [.inl ((H.1 1826 43) + 1), .inr (.inr 1826)]) rfl ?_
  refine h_puti (i := 303) (ci := 13) (k := 43) (a := 1826) (x := ((H.1 1826 43) + 1)) rfl rfl rfl rfl rfl rfl (by decide) (by omega) ?_
  refine h_ret rfl rfl ?_
  exact ⟨rfl, rfl⟩

/-! put -/
set_option maxRecDepth 100000 in
theorem m_put0 {zC : Nat → Option zsh} {d : Nat} (hd : 2 ≤ d) {H : hp} {x : Int} (hw : (H.1 1826 35) ≠ 0) : hG (zs zC) d mt_169 0 (zargs 0 [.inr (.inr 1826), .inl x]) [] H (fun r H2 => r = none ∧ H = H2) := by
  refine h_rng (fun hrg0 => ?_)
  refine h_run 0 (pc' := 0) (l' := [(0, .inr (.inr 1826)), (1, .inl x)]) (st' := []) rfl ?_
  refine h_run 1 (pc' := 1) (l' := [(0, .inr (.inr 1826)), (1, .inl x)]) (st' := [.inr (.inr 1826)]) rfl ?_
  have g1 : -2147483648 ≤ (H.1 1826 35) ∧ (H.1 1826 35) ≤ 2147483647 := hrg0.1 1826 13 35 _ .int rfl rfl
  refine h_cv (i := 293) (j := 158) (b := 1826) (M' := mt_158) (xs := []) (rest := []) rfl rfl rfl rfl rfl rfl (Nat.le_of_ble_eq_true rfl) (Nat.le_of_ble_eq_true rfl) (by omega) (m_good0 (by omega) (by omega : (H.1 1826 35) ≠ 0)) ?_
  rintro _ _ ⟨rfl, rfl⟩
  refine h_run 0 (pc' := 4) (l' := [(0, .inr (.inr 1826)), (1, .inl x)]) (st' := [.inl 0]) rfl ?_
  refine h_zeq (off := 23) (t := 27) rfl rfl (by decide) (fun _ => ?_) (fun c => absurd c (by decide))
  refine h_ret rfl rfl ?_
  exact ⟨rfl, rfl⟩

/-! deeper -/
set_option maxRecDepth 100000 in
theorem m_deepA {zC : Nat → Option zsh} {d : Nat} (hd : 3 ≤ d) {H : hp}  (hw : (H.1 1826 35) = 0) (hn : 0 ≤ (H.1 1826 41) ∧ (H.1 1826 41) ≤ 1000) (h4 : (H.1 1826 41) ≠ 10) : hG (zs zC) d mt_176 0 (zargs 0 [.inr (.inr 1826)]) [] H (fun r H2 => r = none ∧ H2 = zu H 1826 (up (H.1 1826) 41 ((H.1 1826 41) + 1))) := by
  refine h_rng (fun hrg0 => ?_)
  refine h_run 0 (pc' := 0) (l' := [(0, .inr (.inr 1826))]) (st' := []) rfl ?_
  refine h_run 1 (pc' := 1) (l' := [(0, .inr (.inr 1826))]) (st' := [.inr (.inr 1826)]) rfl ?_
  have g1 : -2147483648 ≤ (H.1 1826 35) ∧ (H.1 1826 35) ≤ 2147483647 := hrg0.1 1826 13 35 _ .int rfl rfl
  refine h_cv (i := 293) (j := 158) (b := 1826) (M' := mt_158) (xs := []) (rest := []) rfl rfl rfl rfl rfl rfl (Nat.le_of_ble_eq_true rfl) (Nat.le_of_ble_eq_true rfl) (by omega) (m_good1 (by omega) (by omega : (H.1 1826 35) = 0)) ?_
  rintro _ _ ⟨rfl, rfl⟩
  refine h_run 0 (pc' := 4) (l' := [(0, .inr (.inr 1826))]) (st' := [.inl 1]) rfl ?_
  refine h_zeq (off := 17) (t := 21) rfl rfl (by decide) (fun c => absurd c (by decide)) (fun _ => ?_)
  refine h_run 2 (pc' := 11) (l' := [(0, .inr (.inr 1826))]) (st' := [.inl (H.1 1826 41)]) rfl ?_
  have g2 : -2147483648 ≤ (H.1 1826 41) ∧ (H.1 1826 41) ≤ 2147483647 := hrg0.1 1826 13 41 _ .int rfl rfl
  refine h_run 1 (pc' := 13) (l' := [(0, .inr (.inr 1826))]) (st' := [.inl 10, .inl (H.1 1826 41)]) rfl ?_
  refine h_ine (off := 8) (t := 21) rfl rfl (by omega) (by decide) (fun c3 => ?_) (fun c3 => ?_)
  · refine h_run 3 (pc' := 26) (l' := [(0, .inr (.inr 1826))]) (st' := [.inl (H.1 1826 41), .inr (.inr 1826)]) rfl ?_
    refine h_run 2 (pc' := 28) (l' := [(0, .inr (.inr 1826))]) (st' := [.inl ((H.1 1826 41) + 1), .inr (.inr 1826)]) rfl ?_
    refine h_puti (i := 335) (ci := 13) (k := 41) (a := 1826) (x := ((H.1 1826 41) + 1)) rfl rfl rfl rfl rfl rfl (by decide) (by omega) ?_
    refine h_ret rfl rfl ?_
    exact ⟨rfl, rfl⟩
  · exfalso
    omega

/-! deeper -/
set_option maxRecDepth 100000 in
theorem m_deepB {zC : Nat → Option zsh} {d : Nat} (hd : 3 ≤ d) {H : hp}  (hw : (H.1 1826 35) = 0) (h4 : (H.1 1826 41) = 10) : hG (zs zC) d mt_176 0 (zargs 0 [.inr (.inr 1826)]) [] H (fun r H2 => r = none ∧ H2 = zu (zu (zu H 1826 (up (H.1 1826) 35 5)) 1826 (up ((zu H 1826 (up (H.1 1826) 35 5)).1 1826) 36 (H.1 1826 32))) 1826 (up ((zu (zu H 1826 (up (H.1 1826) 35 5)) 1826 (up ((zu H 1826 (up (H.1 1826) 35 5)).1 1826) 36 (H.1 1826 32))).1 1826) 41 ((H.1 1826 41) + 1))) := by
  refine h_rng (fun hrg0 => ?_)
  refine h_run 0 (pc' := 0) (l' := [(0, .inr (.inr 1826))]) (st' := []) rfl ?_
  refine h_run 1 (pc' := 1) (l' := [(0, .inr (.inr 1826))]) (st' := [.inr (.inr 1826)]) rfl ?_
  have g1 : -2147483648 ≤ (H.1 1826 35) ∧ (H.1 1826 35) ≤ 2147483647 := hrg0.1 1826 13 35 _ .int rfl rfl
  refine h_cv (i := 293) (j := 158) (b := 1826) (M' := mt_158) (xs := []) (rest := []) rfl rfl rfl rfl rfl rfl (Nat.le_of_ble_eq_true rfl) (Nat.le_of_ble_eq_true rfl) (by omega) (m_good1 (by omega) (by omega : (H.1 1826 35) = 0)) ?_
  rintro _ _ ⟨rfl, rfl⟩
  refine h_run 0 (pc' := 4) (l' := [(0, .inr (.inr 1826))]) (st' := [.inl 1]) rfl ?_
  refine h_zeq (off := 17) (t := 21) rfl rfl (by decide) (fun c => absurd c (by decide)) (fun _ => ?_)
  refine h_run 2 (pc' := 11) (l' := [(0, .inr (.inr 1826))]) (st' := [.inl (H.1 1826 41)]) rfl ?_
  have g2 : -2147483648 ≤ (H.1 1826 41) ∧ (H.1 1826 41) ≤ 2147483647 := hrg0.1 1826 13 41 _ .int rfl rfl
  refine h_run 1 (pc' := 13) (l' := [(0, .inr (.inr 1826))]) (st' := [.inl 10, .inl (H.1 1826 41)]) rfl ?_
  refine h_ine (off := 8) (t := 21) rfl rfl (by omega) (by decide) (fun c3 => ?_) (fun c3 => ?_)
  · exfalso
    omega
  · refine h_run 2 (pc' := 18) (l' := [(0, .inr (.inr 1826))]) (st' := [.inl 5, .inr (.inr 1826)]) rfl ?_
    refine h_cv (i := 278) (j := 159) (b := 1826) (M' := mt_159) (xs := [.inl 5]) (rest := []) rfl rfl rfl rfl rfl rfl (Nat.le_of_ble_eq_true rfl) (Nat.le_of_ble_eq_true rfl) (by omega) (m_bad0 (by omega) (by omega) (by omega : (H.1 1826 35) = 0)) ?_
    rintro _ _ ⟨rfl, rfl⟩
    refine h_run 0 (pc' := 21) (l' := [(0, .inr (.inr 1826))]) (st' := []) rfl ?_
    refine h_run 3 (pc' := 26) (l' := [(0, .inr (.inr 1826))]) (st' := [.inl (H.1 1826 41), .inr (.inr 1826)]) rfl ?_
    refine h_run 2 (pc' := 28) (l' := [(0, .inr (.inr 1826))]) (st' := [.inl ((H.1 1826 41) + 1), .inr (.inr 1826)]) rfl ?_
    refine h_puti (i := 335) (ci := 13) (k := 41) (a := 1826) (x := ((H.1 1826 41) + 1)) rfl rfl rfl rfl rfl rfl (by decide) (by omega) ?_
    refine h_ret rfl rfl ?_
    exact ⟨rfl, rfl⟩

/-! deeper -/
set_option maxRecDepth 100000 in
theorem m_deepC {zC : Nat → Option zsh} {d : Nat} (hd : 3 ≤ d) {H : hp}  (hw : (H.1 1826 35) ≠ 0) (hn : 0 ≤ (H.1 1826 41) ∧ (H.1 1826 41) ≤ 1000) : hG (zs zC) d mt_176 0 (zargs 0 [.inr (.inr 1826)]) [] H (fun r H2 => r = none ∧ H2 = zu H 1826 (up (H.1 1826) 41 ((H.1 1826 41) + 1))) := by
  refine h_rng (fun hrg0 => ?_)
  refine h_run 0 (pc' := 0) (l' := [(0, .inr (.inr 1826))]) (st' := []) rfl ?_
  refine h_run 1 (pc' := 1) (l' := [(0, .inr (.inr 1826))]) (st' := [.inr (.inr 1826)]) rfl ?_
  have g1 : -2147483648 ≤ (H.1 1826 35) ∧ (H.1 1826 35) ≤ 2147483647 := hrg0.1 1826 13 35 _ .int rfl rfl
  refine h_cv (i := 293) (j := 158) (b := 1826) (M' := mt_158) (xs := []) (rest := []) rfl rfl rfl rfl rfl rfl (Nat.le_of_ble_eq_true rfl) (Nat.le_of_ble_eq_true rfl) (by omega) (m_good0 (by omega) (by omega : (H.1 1826 35) ≠ 0)) ?_
  rintro _ _ ⟨rfl, rfl⟩
  refine h_run 0 (pc' := 4) (l' := [(0, .inr (.inr 1826))]) (st' := [.inl 0]) rfl ?_
  refine h_zeq (off := 17) (t := 21) rfl rfl (by decide) (fun _ => ?_) (fun c => absurd c (by decide))
  refine h_run 3 (pc' := 26) (l' := [(0, .inr (.inr 1826))]) (st' := [.inl (H.1 1826 41), .inr (.inr 1826)]) rfl ?_
  have g2 : -2147483648 ≤ (H.1 1826 41) ∧ (H.1 1826 41) ≤ 2147483647 := hrg0.1 1826 13 41 _ .int rfl rfl
  refine h_run 2 (pc' := 28) (l' := [(0, .inr (.inr 1826))]) (st' := [.inl ((H.1 1826 41) + 1), .inr (.inr 1826)]) rfl ?_
  refine h_puti (i := 335) (ci := 13) (k := 41) (a := 1826) (x := ((H.1 1826 41) + 1)) rfl rfl rfl rfl rfl rfl (by decide) (by omega) ?_
  refine h_ret rfl rfl ?_
  exact ⟨rfl, rfl⟩

/-! addVariable -/
set_option maxRecDepth 100000 in
theorem m_addVariable {zC : Nat → Option zsh} {d : Nat} (hd : 1 ≤ d) {H : hp} {x : Int} (hv : 0 ≤ (H.1 1826 39) ∧ (H.1 1826 39) ≤ 47) (hx : -2147483648 ≤ x ∧ x ≤ 2147483647) : hG (zs zC) d mt_177 0 (zargs 0 [.inr (.inr 1826), .inl x]) [] H (fun r H2 => r = some (.inl ((H.1 1826 39) + 1 - 1)) ∧ H2 = zu (zu (zu H 1849 (up (H.1 1849) (H.1 1826 39).toNat (H.1 1826 33))) 1850 (up (H.1 1850) (H.1 1826 39).toNat x)) 1826 (up (H.1 1826) 39 ((H.1 1826 39) + 1))) := by
  refine h_rng (fun hrg0 => ?_)
  refine h_run 0 (pc' := 0) (l' := [(0, .inr (.inr 1826)), (1, .inl x)]) (st' := []) rfl ?_
  refine h_run 4 (pc' := 8) (l' := [(0, .inr (.inr 1826)), (1, .inl x)]) (st' := [.inl (H.1 1826 39), .inr (.inr 1849)]) rfl ?_
  have g1 : -2147483648 ≤ (H.1 1826 39) ∧ (H.1 1826 39) ≤ 2147483647 := hrg0.1 1826 13 39 _ .int rfl rfl
  refine h_run 2 (pc' := 12) (l' := [(0, .inr (.inr 1826)), (1, .inl x)]) (st' := [.inr (.inl (H.1 1826 33)), .inl (H.1 1826 39), .inr (.inr 1849)]) rfl ?_
  have g2 : -9223372036854775808 ≤ (H.1 1826 33) ∧ (H.1 1826 33) ≤ 9223372036854775807 := hrg0.1 1826 13 33 _ .long rfl rfl
  refine h_lst (c := 1849) (j := ((H.1 1826 39)).toNat) (i := (H.1 1826 39)) (x := (H.1 1826 33)) rfl rfl (by decide) (by decide) (by omega) (by omega) (by first | omega | exact z_long _) ?_
  refine h_run 4 (pc' := 21) (l' := [(0, .inr (.inr 1826)), (1, .inl x)]) (st' := [.inl (H.1 1826 39), .inr (.inr 1850)]) rfl ?_
  refine h_run 1 (pc' := 22) (l' := [(0, .inr (.inr 1826)), (1, .inl x)]) (st' := [.inl x, .inl (H.1 1826 39), .inr (.inr 1850)]) rfl ?_
  refine h_ist (c := 1850) (j := ((H.1 1826 39)).toNat) (i := (H.1 1826 39)) (x := x) rfl rfl (by decide) (by decide) (by omega) (by omega) (by omega) ?_
  refine h_run 3 (pc' := 28) (l' := [(0, .inr (.inr 1826)), (1, .inl x)]) (st' := [.inl (H.1 1826 39), .inr (.inr 1826)]) rfl ?_
  refine h_run 2 (pc' := 30) (l' := [(0, .inr (.inr 1826)), (1, .inl x)]) (st' := [.inl ((H.1 1826 39) + 1), .inr (.inr 1826)]) rfl ?_
  refine h_puti (i := 338) (ci := 13) (k := 39) (a := 1826) (x := ((H.1 1826 39) + 1)) rfl rfl rfl rfl rfl rfl (by decide) (by omega) ?_
  refine h_run 4 (pc' := 39) (l' := [(0, .inr (.inr 1826)), (1, .inl x)]) (st' := [.inl (((H.1 1826 39) + 1) - 1)]) rfl ?_
  refine h_reti (x := (((H.1 1826 39) + 1) - 1)) rfl rfl ?_
  exact ⟨rfl, rfl⟩

/-! enter -/
set_option maxRecDepth 100000 in
theorem m_enter {zC : Nat → Option zsh} {d : Nat} (hd : 1 ≤ d) {H : hp} {x y : Int} (hv : 0 ≤ (H.1 1826 47) ∧ (H.1 1826 47) ≤ 63) (hx : -2147483648 ≤ x ∧ x ≤ 2147483647) (hy : -2147483648 ≤ y ∧ y ≤ 2147483647) : hG (zs zC) d mt_181 0 (zargs 0 [.inr (.inr 1826), .inl x, .inl y]) [] H (fun r H2 => r = none ∧ H2 = zu (zu (zu (zu H 1852 (up (H.1 1852) (H.1 1826 47).toNat x)) 1853 (up (H.1 1853) (H.1 1826 47).toNat 0)) 1854 (up (H.1 1854) (H.1 1826 47).toNat y)) 1826 (up (H.1 1826) 47 ((H.1 1826 47) + 1))) := by
  refine h_rng (fun hrg0 => ?_)
  refine h_run 0 (pc' := 0) (l' := [(0, .inr (.inr 1826)), (1, .inl x), (2, .inl y)]) (st' := []) rfl ?_
  refine h_run 4 (pc' := 8) (l' := [(0, .inr (.inr 1826)), (1, .inl x), (2, .inl y)]) (st' := [.inl (H.1 1826 47), .inr (.inr 1852)]) rfl ?_
  have g1 : -2147483648 ≤ (H.1 1826 47) ∧ (H.1 1826 47) ≤ 2147483647 := hrg0.1 1826 13 47 _ .int rfl rfl
  refine h_run 1 (pc' := 9) (l' := [(0, .inr (.inr 1826)), (1, .inl x), (2, .inl y)]) (st' := [.inl x, .inl (H.1 1826 47), .inr (.inr 1852)]) rfl ?_
  refine h_ist (c := 1852) (j := ((H.1 1826 47)).toNat) (i := (H.1 1826 47)) (x := x) rfl rfl (by decide) (by decide) (by omega) (by omega) (by omega) ?_
  refine h_run 4 (pc' := 18) (l' := [(0, .inr (.inr 1826)), (1, .inl x), (2, .inl y)]) (st' := [.inl (H.1 1826 47), .inr (.inr 1853)]) rfl ?_
  refine h_run 1 (pc' := 19) (l' := [(0, .inr (.inr 1826)), (1, .inl x), (2, .inl y)]) (st' := [.inl 0, .inl (H.1 1826 47), .inr (.inr 1853)]) rfl ?_
  refine h_ist (c := 1853) (j := ((H.1 1826 47)).toNat) (i := (H.1 1826 47)) (x := 0) rfl rfl (by decide) (by decide) (by omega) (by omega) (by decide) ?_
  refine h_run 4 (pc' := 28) (l' := [(0, .inr (.inr 1826)), (1, .inl x), (2, .inl y)]) (st' := [.inl (H.1 1826 47), .inr (.inr 1854)]) rfl ?_
  refine h_run 1 (pc' := 29) (l' := [(0, .inr (.inr 1826)), (1, .inl x), (2, .inl y)]) (st' := [.inl y, .inl (H.1 1826 47), .inr (.inr 1854)]) rfl ?_
  refine h_ist (c := 1854) (j := ((H.1 1826 47)).toNat) (i := (H.1 1826 47)) (x := y) rfl rfl (by decide) (by decide) (by omega) (by omega) (by omega) ?_
  refine h_run 3 (pc' := 35) (l' := [(0, .inr (.inr 1826)), (1, .inl x), (2, .inl y)]) (st' := [.inl (H.1 1826 47), .inr (.inr 1826)]) rfl ?_
  refine h_run 2 (pc' := 37) (l' := [(0, .inr (.inr 1826)), (1, .inl x), (2, .inl y)]) (st' := [.inl ((H.1 1826 47) + 1), .inr (.inr 1826)]) rfl ?_
  refine h_puti (i := 328) (ci := 13) (k := 47) (a := 1826) (x := ((H.1 1826 47) + 1)) rfl rfl rfl rfl rfl rfl (by decide) (by omega) ?_
  refine h_ret rfl rfl ?_
  exact ⟨rfl, rfl⟩

/-! beginTerm -/
set_option maxRecDepth 100000 in
theorem m_beginTerm {zC : Nat → Option zsh} {d : Nat} (hd : 1 ≤ d) {H : hp}   : hG (zs zC) d mt_185 0 (zargs 0 [.inr (.inr 1826)]) [] H (fun r H2 => r = none ∧ H2 = zu (zu (zu (zu H 1826 (up (H.1 1826) 39 0)) 1826 (up (up (H.1 1826) 39 0) 40 0)) 1826 (up (up (up (H.1 1826) 39 0) 40 0) 41 0)) 1826 (up (up (up (up (H.1 1826) 39 0) 40 0) 41 0) 43 0)) := by
  refine h_rng (fun hrg0 => ?_)
  refine h_run 0 (pc' := 0) (l' := [(0, .inr (.inr 1826))]) (st' := []) rfl ?_
  refine h_run 2 (pc' := 2) (l' := [(0, .inr (.inr 1826))]) (st' := [.inl 0, .inr (.inr 1826)]) rfl ?_
  refine h_puti (i := 338) (ci := 13) (k := 39) (a := 1826) (x := 0) rfl rfl rfl rfl rfl rfl (by decide) (by decide) ?_
  refine h_run 2 (pc' := 7) (l' := [(0, .inr (.inr 1826))]) (st' := [.inl 0, .inr (.inr 1826)]) rfl ?_
  refine h_puti (i := 300) (ci := 13) (k := 40) (a := 1826) (x := 0) rfl rfl rfl rfl rfl rfl (by decide) (by decide) ?_
  refine h_run 2 (pc' := 12) (l' := [(0, .inr (.inr 1826))]) (st' := [.inl 0, .inr (.inr 1826)]) rfl ?_
  refine h_puti (i := 335) (ci := 13) (k := 41) (a := 1826) (x := 0) rfl rfl rfl rfl rfl rfl (by decide) (by decide) ?_
  refine h_run 2 (pc' := 17) (l' := [(0, .inr (.inr 1826))]) (st' := [.inl 0, .inr (.inr 1826)]) rfl ?_
  refine h_puti (i := 303) (ci := 13) (k := 43) (a := 1826) (x := 0) rfl rfl rfl rfl rfl rfl (by decide) (by decide) ?_
  refine h_ret rfl rfl ?_
  exact ⟨rfl, rfl⟩

/-- the type of an argument of a sign -/
def aty (H : hp) (s i : Int) : Int := if 100 ≤ s then (H.1 1834) (4 * (s - 100) + i).toNat else (H.1 1831) (3 * (s - 1) + i).toNat

/-! argType -/
set_option maxRecDepth 100000 in
theorem m_argType {zC : Nat → Option zsh} {d : Nat} (hd : 1 ≤ d) {H : hp} {s x : Int} (hs : (100 ≤ s ∧ s ≤ 115 ∧ 0 ≤ x ∧ x ≤ 3) ∨ (1 ≤ s ∧ s ≤ 16 ∧ 0 ≤ x ∧ x ≤ 2)) : hG (zs zC) d mt_175 0 (zargs 0 [.inr (.inr 1826), .inl s, .inl x]) [] H (fun r H2 => r = some (.inl (aty H s x)) ∧ H = H2) := by
  refine h_rng (fun hrg0 => ?_)
  refine h_run 0 (pc' := 0) (l' := [(0, .inr (.inr 1826)), (1, .inl s), (2, .inl x)]) (st' := []) rfl ?_
  refine h_run 2 (pc' := 3) (l' := [(0, .inr (.inr 1826)), (1, .inl s), (2, .inl x)]) (st' := [.inl 100, .inl s]) rfl ?_
  refine h_ilt (off := 19) (t := 22) rfl rfl (by omega) (by decide) (fun c1 => ?_) (fun c1 => ?_)
  · refine h_run 9 (pc' := 33) (l' := [(0, .inr (.inr 1826)), (1, .inl s), (2, .inl x)]) (st' := [.inl ((3 * (s - 1)) + x), .inr (.inr 1831)]) rfl ?_
    refine h_ild (c := 1831) (j := (((3 * (s - 1)) + x)).toNat) (i := ((3 * (s - 1)) + x)) rfl rfl (by decide) (by omega) (by omega) ?_
    have g2 : -2147483648 ≤ (H.1 1831 (((3 * (s - 1)) + x)).toNat) ∧ (H.1 1831 (((3 * (s - 1)) + x)).toNat) ≤ 2147483647 := hrg0.2 1831 (((3 * (s - 1)) + x)).toNat 48 .int rfl (by omega)
    refine h_run 0 (pc' := 34) (l' := [(0, .inr (.inr 1826)), (1, .inl s), (2, .inl x)]) (st' := [.inl (H.1 1831 (((3 * (s - 1)) + x)).toNat)]) rfl ?_
    refine h_reti (x := (H.1 1831 (((3 * (s - 1)) + x)).toNat)) rfl rfl ?_
    exact ⟨congrArg (fun z => some (Sum.inl z)) (by first | exact (if_pos (by omega)).symm | exact (if_neg (by omega)).symm), rfl⟩
  · refine h_run 9 (pc' := 18) (l' := [(0, .inr (.inr 1826)), (1, .inl s), (2, .inl x)]) (st' := [.inl ((4 * (s - 100)) + x), .inr (.inr 1834)]) rfl ?_
    refine h_ild (c := 1834) (j := (((4 * (s - 100)) + x)).toNat) (i := ((4 * (s - 100)) + x)) rfl rfl (by decide) (by omega) (by omega) ?_
    have g3 : -2147483648 ≤ (H.1 1834 (((4 * (s - 100)) + x)).toNat) ∧ (H.1 1834 (((4 * (s - 100)) + x)).toNat) ≤ 2147483647 := hrg0.2 1834 (((4 * (s - 100)) + x)).toNat 64 .int rfl (by omega)
    refine h_run 0 (pc' := 19) (l' := [(0, .inr (.inr 1826)), (1, .inl s), (2, .inl x)]) (st' := [.inl (H.1 1834 (((4 * (s - 100)) + x)).toNat)]) rfl ?_
    refine h_run 1 (pc' := 34) (l' := [(0, .inr (.inr 1826)), (1, .inl s), (2, .inl x)]) (st' := [.inl (H.1 1834 (((4 * (s - 100)) + x)).toNat)]) rfl ?_
    refine h_reti (x := (H.1 1834 (((4 * (s - 100)) + x)).toNat)) rfl rfl ?_
    exact ⟨congrArg (fun z => some (Sum.inl z)) (by first | exact (if_pos (by omega)).symm | exact (if_neg (by omega)).symm), rfl⟩

/-! type -/
set_option maxRecDepth 100000 in
theorem m_type {zC : Nat → Option zsh} {d : Nat} (hd : 3 ≤ d) {H : hp}  (hw : 0 ≤ (H.1 1826 35) ∧ (H.1 1826 35) ≤ 5) (ht : 0 ≤ (H.1 1826 1) ∧ (H.1 1826 1) ≤ 6) : hG (zs zC) d mt_172 0 (zargs 0 [.inr (.inr 1826)]) [] H (fun r H2 => ∃ t : Int, r = some (.inl t) ∧ fr [35, 36] [] H H2 ∧ (0 ≤ (H2.1 1826 35) ∧ (H2.1 1826 35) ≤ 5) ∧ ((H.1 1826 35) ≠ 0 → (H2.1 1826 35) = (H.1 1826 35)) ∧ ((H2.1 1826 35) = 0 → (H.1 1826 35) = 0 ∧ (H.1 1826 31) = 2 ∧ 0 ≤ t ∧ t < (H.1 1826 1)) ∧ (-1 ≤ t ∧ t ≤ 6)) := by
  refine h_rng (fun hrg0 => ?_)
  refine h_run 0 (pc' := 0) (l' := [(0, .inr (.inr 1826))]) (st' := []) rfl ?_
  refine h_run 1 (pc' := 1) (l' := [(0, .inr (.inr 1826))]) (st' := [.inr (.inr 1826)]) rfl ?_
  have g1 : -2147483648 ≤ (H.1 1826 35) ∧ (H.1 1826 35) ≤ 2147483647 := hrg0.1 1826 13 35 _ .int rfl rfl
  refine h_cv (i := 293) (j := 158) (b := 1826) (M' := mt_158) (xs := []) (rest := []) rfl rfl rfl rfl rfl rfl (Nat.le_of_ble_eq_true rfl) (Nat.le_of_ble_eq_true rfl) (by omega) (m_good (by omega)) ?_
  rintro _ _ ⟨⟨rfl, b2⟩ | ⟨rfl, b2⟩, rfl⟩
  · have b2x : (H.1 1826 35) = 0 := b2
    refine h_run 0 (pc' := 4) (l' := [(0, .inr (.inr 1826))]) (st' := [.inl 1]) rfl ?_
    refine h_zeq (off := 16) (t := 20) rfl rfl (by decide) (fun c => absurd c (by decide)) (fun _ => ?_)
    refine h_run 2 (pc' := 11) (l' := [(0, .inr (.inr 1826))]) (st' := [.inl (H.1 1826 31)]) rfl ?_
    have g3 : -2147483648 ≤ (H.1 1826 31) ∧ (H.1 1826 31) ≤ 2147483647 := hrg0.1 1826 13 31 _ .int rfl rfl
    refine h_run 1 (pc' := 12) (l' := [(0, .inr (.inr 1826))]) (st' := [.inl 2, .inl (H.1 1826 31)]) rfl ?_
    refine h_ieq (off := 8) (t := 20) rfl rfl (by omega) (by decide) (fun c4 => ?_) (fun c4 => ?_)
    · refine h_run 1 (pc' := 21) (l' := [(0, .inr (.inr 1826))]) (st' := [.inr (.inr 1826)]) rfl ?_
      refine h_cv (i := 293) (j := 158) (b := 1826) (M' := mt_158) (xs := []) (rest := []) rfl rfl rfl rfl rfl rfl (Nat.le_of_ble_eq_true rfl) (Nat.le_of_ble_eq_true rfl) (by omega) (m_good1 (by omega) (by omega : (H.1 1826 35) = 0)) ?_
      rintro _ _ ⟨rfl, rfl⟩
      refine h_run 0 (pc' := 24) (l' := [(0, .inr (.inr 1826))]) (st' := [.inl 1]) rfl ?_
      refine h_zeq (off := 21) (t := 45) rfl rfl (by decide) (fun c => absurd c (by decide)) (fun _ => ?_)
      refine h_run 4 (pc' := 35) (l' := [(0, .inr (.inr 1826))]) (st' := [.inl (H.1 1826 1), .inr (.inr 1827)]) rfl ?_
      have g5 : -2147483648 ≤ (H.1 1826 1) ∧ (H.1 1826 1) ≤ 2147483647 := hrg0.1 1826 13 1 _ .int rfl rfl
      refine h_run 2 (pc' := 39) (l' := [(0, .inr (.inr 1826))]) (st' := [.inr (.inl (H.1 1826 33)), .inl (H.1 1826 1), .inr (.inr 1827)]) rfl ?_
      have g6 : -9223372036854775808 ≤ (H.1 1826 33) ∧ (H.1 1826 33) ≤ 9223372036854775807 := hrg0.1 1826 13 33 _ .long rfl rfl
      refine h_cs (i := 309) (j := 167) (M' := mt_167) (xs := [.inr (.inl (H.1 1826 33)), .inl (H.1 1826 1), .inr (.inr 1827)]) (rest := []) rfl rfl rfl rfl rfl (Nat.le_of_ble_eq_true rfl) (Nat.le_of_ble_eq_true rfl) (by omega) (m_find (by omega) (m := 6) rfl (by omega : 0 ≤ (H.1 1826 1) ∧ (H.1 1826 1) ≤ ((6 : Nat) : Int) ∧ 6 ≤ 100) (by omega)) ?_
      rintro _ _ ⟨⟨k7, rfl, f8, f8x⟩ | ⟨rfl, f8⟩, rfl⟩
      · refine h_run 0 (pc' := 42) (l' := [(0, .inr (.inr 1826))]) (st' := [.inl (k7 : Int)]) rfl ?_
        refine h_run 3 (pc' := 48) (l' := [(0, .inr (.inr 1826)), (1, .inl (k7 : Int))]) (st' := [.inr (.inr 1826)]) rfl ?_
        refine h_cv (i := 293) (j := 158) (b := 1826) (M' := mt_158) (xs := []) (rest := []) rfl rfl rfl rfl rfl rfl (Nat.le_of_ble_eq_true rfl) (Nat.le_of_ble_eq_true rfl) (by omega) (m_good1 (by omega) (by omega : (H.1 1826 35) = 0)) ?_
        rintro _ _ ⟨rfl, rfl⟩
        refine h_run 0 (pc' := 51) (l' := [(0, .inr (.inr 1826)), (1, .inl (k7 : Int))]) (st' := [.inl 1]) rfl ?_
        refine h_zeq (off := 13) (t := 64) rfl rfl (by decide) (fun c => absurd c (by decide)) (fun _ => ?_)
        refine h_run 2 (pc' := 56) (l' := [(0, .inr (.inr 1826)), (1, .inl (k7 : Int))]) (st' := [.inl (-1), .inl (k7 : Int)]) rfl ?_
        refine h_ine (off := 8) (t := 64) rfl rfl (by omega) (by decide) (fun c9 => ?_) (fun c9 => ?_)
        · refine h_run 1 (pc' := 65) (l' := [(0, .inr (.inr 1826)), (1, .inl (k7 : Int))]) (st' := [.inl (k7 : Int)]) rfl ?_
          refine h_reti (x := (k7 : Int)) rfl rfl ?_
          exact ⟨(k7 : Int), rfl, (fr_rf _ _ _), (by omega : 0 ≤ (H.1 1826 35) ∧ (H.1 1826 35) ≤ 5), (by omega : (H.1 1826 35) ≠ 0 → (H.1 1826 35) = (H.1 1826 35)), (by omega : (H.1 1826 35) = 0 → (H.1 1826 35) = 0 ∧ (H.1 1826 31) = 2 ∧ 0 ≤ (k7 : Int) ∧ (k7 : Int) < (H.1 1826 1)), (by omega)⟩
        · refine h_run 2 (pc' := 61) (l' := [(0, .inr (.inr 1826)), (1, .inl (k7 : Int))]) (st' := [.inl 3, .inr (.inr 1826)]) rfl ?_
          refine h_cv (i := 278) (j := 159) (b := 1826) (M' := mt_159) (xs := [.inl 3]) (rest := []) rfl rfl rfl rfl rfl rfl (Nat.le_of_ble_eq_true rfl) (Nat.le_of_ble_eq_true rfl) (by omega) (m_bad0 (by omega) (by omega) (by omega : (H.1 1826 35) = 0)) ?_
          rintro _ _ ⟨rfl, rfl⟩
          refine h_run 0 (pc' := 64) (l' := [(0, .inr (.inr 1826)), (1, .inl (k7 : Int))]) (st' := []) rfl ?_
          refine h_run 1 (pc' := 65) (l' := [(0, .inr (.inr 1826)), (1, .inl (k7 : Int))]) (st' := [.inl (k7 : Int)]) rfl ?_
          refine h_reti (x := (k7 : Int)) rfl rfl ?_
          exact ⟨(k7 : Int), rfl, (fr_o (fr_o (fr_rf _ _ _) (by decide)) (by decide)), (by omega : 0 ≤ (3 : Int) ∧ (3 : Int) ≤ 5), (by omega : (H.1 1826 35) ≠ 0 → (3 : Int) = (H.1 1826 35)), (by omega : (3 : Int) = 0 → (H.1 1826 35) = 0 ∧ (H.1 1826 31) = 2 ∧ 0 ≤ (k7 : Int) ∧ (k7 : Int) < (H.1 1826 1)), (by omega)⟩
      · refine h_run 0 (pc' := 42) (l' := [(0, .inr (.inr 1826))]) (st' := [.inl (-1)]) rfl ?_
        refine h_run 3 (pc' := 48) (l' := [(0, .inr (.inr 1826)), (1, .inl (-1))]) (st' := [.inr (.inr 1826)]) rfl ?_
        refine h_cv (i := 293) (j := 158) (b := 1826) (M' := mt_158) (xs := []) (rest := []) rfl rfl rfl rfl rfl rfl (Nat.le_of_ble_eq_true rfl) (Nat.le_of_ble_eq_true rfl) (by omega) (m_good1 (by omega) (by omega : (H.1 1826 35) = 0)) ?_
        rintro _ _ ⟨rfl, rfl⟩
        refine h_run 0 (pc' := 51) (l' := [(0, .inr (.inr 1826)), (1, .inl (-1))]) (st' := [.inl 1]) rfl ?_
        refine h_zeq (off := 13) (t := 64) rfl rfl (by decide) (fun c => absurd c (by decide)) (fun _ => ?_)
        refine h_run 2 (pc' := 56) (l' := [(0, .inr (.inr 1826)), (1, .inl (-1))]) (st' := [.inl (-1), .inl (-1)]) rfl ?_
        refine h_ine (off := 8) (t := 64) rfl rfl (by decide) (by decide) (fun c => absurd c (by decide)) (fun _ => ?_)
        refine h_run 2 (pc' := 61) (l' := [(0, .inr (.inr 1826)), (1, .inl (-1))]) (st' := [.inl 3, .inr (.inr 1826)]) rfl ?_
        refine h_cv (i := 278) (j := 159) (b := 1826) (M' := mt_159) (xs := [.inl 3]) (rest := []) rfl rfl rfl rfl rfl rfl (Nat.le_of_ble_eq_true rfl) (Nat.le_of_ble_eq_true rfl) (by omega) (m_bad0 (by omega) (by omega) (by omega : (H.1 1826 35) = 0)) ?_
        rintro _ _ ⟨rfl, rfl⟩
        refine h_run 0 (pc' := 64) (l' := [(0, .inr (.inr 1826)), (1, .inl (-1))]) (st' := []) rfl ?_
        refine h_run 1 (pc' := 65) (l' := [(0, .inr (.inr 1826)), (1, .inl (-1))]) (st' := [.inl (-1)]) rfl ?_
        refine h_reti (x := (-1)) rfl rfl ?_
        exact ⟨(-1), rfl, (fr_o (fr_o (fr_rf _ _ _) (by decide)) (by decide)), (by omega : 0 ≤ (3 : Int) ∧ (3 : Int) ≤ 5), (by omega : (H.1 1826 35) ≠ 0 → (3 : Int) = (H.1 1826 35)), (by omega : (3 : Int) = 0 → (H.1 1826 35) = 0 ∧ (H.1 1826 31) = 2 ∧ 0 ≤ (-1) ∧ (-1) < (H.1 1826 1)), (by omega)⟩
    · refine h_run 2 (pc' := 17) (l' := [(0, .inr (.inr 1826))]) (st' := [.inl 2, .inr (.inr 1826)]) rfl ?_
      refine h_cv (i := 278) (j := 159) (b := 1826) (M' := mt_159) (xs := [.inl 2]) (rest := []) rfl rfl rfl rfl rfl rfl (Nat.le_of_ble_eq_true rfl) (Nat.le_of_ble_eq_true rfl) (by omega) (m_bad0 (by omega) (by omega) (by omega : (H.1 1826 35) = 0)) ?_
      rintro _ _ ⟨rfl, rfl⟩
      refine h_run 0 (pc' := 20) (l' := [(0, .inr (.inr 1826))]) (st' := []) rfl ?_
      refine h_run 1 (pc' := 21) (l' := [(0, .inr (.inr 1826))]) (st' := [.inr (.inr 1826)]) rfl ?_
      refine h_cv (i := 293) (j := 158) (b := 1826) (M' := mt_158) (xs := []) (rest := []) rfl rfl rfl rfl rfl rfl (Nat.le_of_ble_eq_true rfl) (Nat.le_of_ble_eq_true rfl) (by omega) (m_good0 (by omega) (by omega : (2 : Int) ≠ 0)) ?_
      rintro _ _ ⟨rfl, rfl⟩
      refine h_run 0 (pc' := 24) (l' := [(0, .inr (.inr 1826))]) (st' := [.inl 0]) rfl ?_
      refine h_zeq (off := 21) (t := 45) rfl rfl (by decide) (fun _ => ?_) (fun c => absurd c (by decide))
      refine h_run 3 (pc' := 48) (l' := [(0, .inr (.inr 1826)), (1, .inl (-1))]) (st' := [.inr (.inr 1826)]) rfl ?_
      refine h_cv (i := 293) (j := 158) (b := 1826) (M' := mt_158) (xs := []) (rest := []) rfl rfl rfl rfl rfl rfl (Nat.le_of_ble_eq_true rfl) (Nat.le_of_ble_eq_true rfl) (by omega) (m_good0 (by omega) (by omega : (2 : Int) ≠ 0)) ?_
      rintro _ _ ⟨rfl, rfl⟩
      refine h_run 0 (pc' := 51) (l' := [(0, .inr (.inr 1826)), (1, .inl (-1))]) (st' := [.inl 0]) rfl ?_
      refine h_zeq (off := 13) (t := 64) rfl rfl (by decide) (fun _ => ?_) (fun c => absurd c (by decide))
      refine h_run 1 (pc' := 65) (l' := [(0, .inr (.inr 1826)), (1, .inl (-1))]) (st' := [.inl (-1)]) rfl ?_
      refine h_reti (x := (-1)) rfl rfl ?_
      have g10 : -2147483648 ≤ (H.1 1826 1) ∧ (H.1 1826 1) ≤ 2147483647 := hrg0.1 1826 13 1 _ .int rfl rfl
      exact ⟨(-1), rfl, (fr_o (fr_o (fr_rf _ _ _) (by decide)) (by decide)), (by omega : 0 ≤ (2 : Int) ∧ (2 : Int) ≤ 5), (by omega : (H.1 1826 35) ≠ 0 → (2 : Int) = (H.1 1826 35)), (by omega : (2 : Int) = 0 → (H.1 1826 35) = 0 ∧ (H.1 1826 31) = 2 ∧ 0 ≤ (-1) ∧ (-1) < (H.1 1826 1)), (by omega)⟩
  · have b2x : (H.1 1826 35) ≠ 0 := b2
    refine h_run 0 (pc' := 4) (l' := [(0, .inr (.inr 1826))]) (st' := [.inl 0]) rfl ?_
    refine h_zeq (off := 16) (t := 20) rfl rfl (by decide) (fun _ => ?_) (fun c => absurd c (by decide))
    refine h_run 1 (pc' := 21) (l' := [(0, .inr (.inr 1826))]) (st' := [.inr (.inr 1826)]) rfl ?_
    refine h_cv (i := 293) (j := 158) (b := 1826) (M' := mt_158) (xs := []) (rest := []) rfl rfl rfl rfl rfl rfl (Nat.le_of_ble_eq_true rfl) (Nat.le_of_ble_eq_true rfl) (by omega) (m_good0 (by omega) (by omega : (H.1 1826 35) ≠ 0)) ?_
    rintro _ _ ⟨rfl, rfl⟩
    refine h_run 0 (pc' := 24) (l' := [(0, .inr (.inr 1826))]) (st' := [.inl 0]) rfl ?_
    refine h_zeq (off := 21) (t := 45) rfl rfl (by decide) (fun _ => ?_) (fun c => absurd c (by decide))
    refine h_run 3 (pc' := 48) (l' := [(0, .inr (.inr 1826)), (1, .inl (-1))]) (st' := [.inr (.inr 1826)]) rfl ?_
    refine h_cv (i := 293) (j := 158) (b := 1826) (M' := mt_158) (xs := []) (rest := []) rfl rfl rfl rfl rfl rfl (Nat.le_of_ble_eq_true rfl) (Nat.le_of_ble_eq_true rfl) (by omega) (m_good0 (by omega) (by omega : (H.1 1826 35) ≠ 0)) ?_
    rintro _ _ ⟨rfl, rfl⟩
    refine h_run 0 (pc' := 51) (l' := [(0, .inr (.inr 1826)), (1, .inl (-1))]) (st' := [.inl 0]) rfl ?_
    refine h_zeq (off := 13) (t := 64) rfl rfl (by decide) (fun _ => ?_) (fun c => absurd c (by decide))
    refine h_run 1 (pc' := 65) (l' := [(0, .inr (.inr 1826)), (1, .inl (-1))]) (st' := [.inl (-1)]) rfl ?_
    refine h_reti (x := (-1)) rfl rfl ?_
    have g11 : -2147483648 ≤ (H.1 1826 31) ∧ (H.1 1826 31) ≤ 2147483647 := hrg0.1 1826 13 31 _ .int rfl rfl
    have g12 : -2147483648 ≤ (H.1 1826 1) ∧ (H.1 1826 1) ≤ 2147483647 := hrg0.1 1826 13 1 _ .int rfl rfl
    exact ⟨(-1), rfl, (fr_rf _ _ _), (by omega : 0 ≤ (H.1 1826 35) ∧ (H.1 1826 35) ≤ 5), (by omega : (H.1 1826 35) ≠ 0 → (H.1 1826 35) = (H.1 1826 35)), (by omega : (H.1 1826 35) = 0 → (H.1 1826 35) = 0 ∧ (H.1 1826 31) = 2 ∧ 0 ≤ (-1) ∧ (-1) < (H.1 1826 1)), (by omega)⟩
