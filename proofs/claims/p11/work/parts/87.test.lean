/-! the reference reads terms: head, term -/
theorem TT_ou {H : hp} {w : Int} (h : TT H w) : 0 ≤ (H.1 1826 47) ∧ (H.1 1826 47) ≤ 60 := by
  obtain ⟨n, m, k, ⟨a1, a2, a3, a4⟩, ⟨b1, b2, b3⟩, -, -, -, -⟩ := h
  omega

/-! head -/
set_option maxRecDepth 100000 in
theorem m_head {zC : Nat → Option zsh} {d : Nat} (hd : 6 ≤ d) {H : hp} {t h : Int} (h0 : 0 ≤ (H.1 1826 30) ∧ (H.1 1826 30) ≤ (H.1 1826 29) ∧ (H.1 1826 29) ≤ 1000) (hw : 0 ≤ (H.1 1826 35) ∧ (H.1 1826 35) ≤ 5) (hst : 0 ≤ (H.1 1826 32) ∧ (H.1 1826 32) ≤ 1000) (hw0 : (H.1 1826 35) = 0) (hP : PWc H) (hTT : TT H 1) (hso : 1 ≤ (H.1 1826 44) ∧ (H.1 1826 44) ≤ 3) (ht : -1 ≤ t ∧ t < (H.1 1826 1)) (hh : 0 ≤ h ∧ h ≤ 1) : hG (zs zC) d mt_182 0 (zargs 0 [.inr (.inr 1826), .inl t, .inl h]) [] H (fun r H2 => (∃ r0 : Int, r = some (.inl r0) ∧ -1 ≤ r0 ∧ r0 < (H.1 1826 1)) ∧ fr [30, 31, 32, 33, 35, 36, 39, 40, 41, 43, 47] [1849, 1850, 1851, 1852, 1853, 1854] H H2 ∧ ((H.1 1826 30) ≤ (H2.1 1826 30) ∧ (H2.1 1826 30) ≤ (H.1 1826 29)) ∧ (0 ≤ (H2.1 1826 35) ∧ (H2.1 1826 35) ≤ 5) ∧ (0 ≤ (H2.1 1826 32) ∧ (H2.1 1826 32) ≤ 1000) ∧ ((H2.1 1826 35) = 0 → (H.1 1826 31) ≠ 0 ∧ ((H2.1 1826 31) = 0 ∨ (H.1 1826 30) < (H2.1 1826 30))) ∧ (((H.1 1826 44) ≠ 2 → (H2.1 1826 39) = (H.1 1826 39)) ∧ (H.1 1826 39) ≤ (H2.1 1826 39)) ∧ hid ((H2.1 1826 35) = 0 → TT H2 0)) := by
  refine h_rng (fun hrg0 => ?_)
  refine h_run 0 (pc' := 0) (l' := [(0, .inr (.inr 1826)), (1, .inl t), (2, .inl h)]) (st' := []) rfl ?_
  obtain ⟨⟨pb1, pb2, pb3, pb4, pb5⟩, pw1, pw2, pw3, pw4⟩ := (id hP : PW H (H.1 1826 1) (H.1 1826 3) (H.1 1826 8) (H.1 1826 13) (H.1 1826 19))
  obtain ⟨n, m, k, ⟨ta1, ta2, ta3, ta4⟩, ⟨tb1, tb2, tb3⟩, ⟨tc1, tc2, tc3⟩, -, -, -⟩ := id hTT
  have tcb := cb_nn (ou := (H.1 1852)) (n := n)
  refine h_run 2 (pc' := 4) (l' := [(0, .inr (.inr 1826)), (1, .inl t), (2, .inl h)]) (st' := [.inl (H.1 1826 31)]) rfl ?_
  have g1 : -2147483648 ≤ (H.1 1826 31) ∧ (H.1 1826 31) ≤ 2147483647 := hrg0.1 1826 13 31 _ .int rfl rfl
  refine h_run 1 (pc' := 6) (l' := [(0, .inr (.inr 1826)), (1, .inl t), (2, .inl h)]) (st' := [.inl 40, .inl (H.1 1826 31)]) rfl ?_
  refine h_ine (off := 28) (t := 34) rfl rfl (by omega) (by decide) (fun c2 => ?_) (fun c2 => ?_)
  · refine h_run 2 (pc' := 38) (l' := [(0, .inr (.inr 1826)), (1, .inl t), (2, .inl h)]) (st' := [.inl (H.1 1826 31)]) rfl ?_
    refine h_run 1 (pc' := 40) (l' := [(0, .inr (.inr 1826)), (1, .inl t), (2, .inl h)]) (st' := [.inl 95, .inl (H.1 1826 31)]) rfl ?_
    refine h_ine (off := 43) (t := 83) rfl rfl (by omega) (by decide) (fun c3 => ?_) (fun c3 => ?_)
    · refine h_run 2 (pc' := 87) (l' := [(0, .inr (.inr 1826)), (1, .inl t), (2, .inl h)]) (st' := [.inl (H.1 1826 31)]) rfl ?_
      refine h_run 1 (pc' := 88) (l' := [(0, .inr (.inr 1826)), (1, .inl t), (2, .inl h)]) (st' := [.inl 1, .inl (H.1 1826 31)]) rfl ?_
      refine h_ieq (off := 18) (t := 106) rfl rfl (by omega) (by decide) (fun c4 => ?_) (fun c4 => ?_)
      · refine h_run 2 (pc' := 110) (l' := [(0, .inr (.inr 1826)), (1, .inl t), (2, .inl h)]) (st' := [.inl (H.1 1826 31)]) rfl ?_
        refine h_run 1 (pc' := 111) (l' := [(0, .inr (.inr 1826)), (1, .inl t), (2, .inl h)]) (st' := [.inl 2, .inl (H.1 1826 31)]) rfl ?_
        refine h_ine (off := 12) (t := 123) rfl rfl (by omega) (by decide) (fun c5 => ?_) (fun c5 => ?_)
        · refine h_run 3 (pc' := 126) (l' := [(0, .inr (.inr 1826)), (1, .inl t), (2, .inl h)]) (st' := [.inl h, .inl t, .inr (.inr 1826)]) rfl ?_
          have g6 : -2147483648 ≤ (H.1 1826 30) ∧ (H.1 1826 30) ≤ 2147483647 := hrg0.1 1826 13 30 _ .int rfl rfl
          have g7 : -2147483648 ≤ (H.1 1826 29) ∧ (H.1 1826 29) ≤ 2147483647 := hrg0.1 1826 13 29 _ .int rfl rfl
          have g8 : -2147483648 ≤ (H.1 1826 35) ∧ (H.1 1826 35) ≤ 2147483647 := hrg0.1 1826 13 35 _ .int rfl rfl
          have g9 : -2147483648 ≤ (H.1 1826 44) ∧ (H.1 1826 44) ≤ 2147483647 := hrg0.1 1826 13 44 _ .int rfl rfl
          have g10 : -2147483648 ≤ (H.1 1826 1) ∧ (H.1 1826 1) ≤ 2147483647 := hrg0.1 1826 13 1 _ .int rfl rfl
          have g12 : -2147483648 ≤ (H.1 1826 39) ∧ (H.1 1826 39) ≤ 2147483647 := hrg0.1 1826 13 39 _ .int rfl rfl
          have g13 : -2147483648 ≤ (H.1 1826 32) ∧ (H.1 1826 32) ≤ 2147483647 := hrg0.1 1826 13 32 _ .int rfl rfl
          refine h_cv (i := 373) (j := 184) (b := 1826) (M' := mt_184) (xs := [.inl h, .inl t]) (rest := []) rfl rfl rfl rfl rfl rfl (Nat.le_of_ble_eq_true rfl) (Nat.le_of_ble_eq_true rfl) (by omega) (m_small (by omega) (by omega : 0 ≤ (H.1 1826 30) ∧ (H.1 1826 30) ≤ (H.1 1826 29) ∧ (H.1 1826 29) ≤ 1000) (by omega : 0 ≤ (H.1 1826 35) ∧ (H.1 1826 35) ≤ 5) (by omega : 0 ≤ (H.1 1826 32) ∧ (H.1 1826 32) ≤ 1000) (by omega : (H.1 1826 35) = 0) hP hTT (by omega : 1 ≤ (H.1 1826 44) ∧ (H.1 1826 44) ≤ 3) (by omega) (by omega)) ?_
          rintro _ H11 ⟨⟨hx11r, rfl, hx11x, hx11y⟩, hx11f, hx11a, hx11c, hx11e, hx11g, hx11v, hx11p⟩
          refine h_rng (fun hrg14 => ?_)
          have hf15 : fr [30, 31, 32, 33, 35, 36, 39, 40, 41, 43, 47] [1849, 1850, 1851, 1852, 1853, 1854] H H11 := fr_t (fr_rf _ _ _) hx11f (by decide) (by decide)
          replace hx11y : hx11r < (H.1 1826 1) := hx11y
          replace hx11a : (H.1 1826 30) ≤ (H11.1 1826 30) ∧ (H11.1 1826 30) ≤ (H.1 1826 29) := hx11a
          replace hx11g : (H11.1 1826 35) = 0 → ((H11.1 1826 31) = 0 ∨ (H.1 1826 30) < (H11.1 1826 30)) := hx11g
          have hx11o : (H11.1 1826 35) = 0 → 0 ≤ (H11.1 1826 47) ∧ (H11.1 1826 47) ≤ 60 := fun q => TT_ou (hx11p q)
          replace hx11v : ((H.1 1826 44) ≠ 2 → (H11.1 1826 39) = (H.1 1826 39)) ∧ (H.1 1826 39) ≤ (H11.1 1826 39) := hx11v
          refine h_run 0 (pc' := 129) (l' := [(0, .inr (.inr 1826)), (1, .inl t), (2, .inl h)]) (st' := [.inl hx11r]) rfl ?_
          refine h_reti (x := hx11r) rfl rfl ?_
          have g16 : -2147483648 ≤ (H11.1 1826 30) ∧ (H11.1 1826 30) ≤ 2147483647 := hrg14.1 1826 13 30 _ .int rfl rfl
          have g17 : -2147483648 ≤ (H11.1 1826 35) ∧ (H11.1 1826 35) ≤ 2147483647 := hrg14.1 1826 13 35 _ .int rfl rfl
          have g18 : -2147483648 ≤ (H11.1 1826 32) ∧ (H11.1 1826 32) ≤ 2147483647 := hrg14.1 1826 13 32 _ .int rfl rfl
          have g19 : -2147483648 ≤ (H11.1 1826 29) ∧ (H11.1 1826 29) ≤ 2147483647 := hrg14.1 1826 13 29 _ .int rfl rfl
          have e20 : (H11.1 1826 29) = (H.1 1826 29) := hx11f.2.2 29 (by decide)
          have g21 : -2147483648 ≤ (H11.1 1826 31) ∧ (H11.1 1826 31) ≤ 2147483647 := hrg14.1 1826 13 31 _ .int rfl rfl
          have g22 : -2147483648 ≤ (H11.1 1826 1) ∧ (H11.1 1826 1) ≤ 2147483647 := hrg14.1 1826 13 1 _ .int rfl rfl
          have e23 : (H11.1 1826 1) = (H.1 1826 1) := hx11f.2.2 1 (by decide)
          have g24 : -2147483648 ≤ (H11.1 1826 39) ∧ (H11.1 1826 39) ≤ 2147483647 := hrg14.1 1826 13 39 _ .int rfl rfl
          have g25 : -2147483648 ≤ (H11.1 1826 44) ∧ (H11.1 1826 44) ≤ 2147483647 := hrg14.1 1826 13 44 _ .int rfl rfl
          have e26 : (H11.1 1826 44) = (H.1 1826 44) := hx11f.2.2 44 (by decide)
          exact ⟨⟨hx11r, rfl, by omega, by omega⟩, hf15, (by omega : (H.1 1826 30) ≤ (H11.1 1826 30) ∧ (H11.1 1826 30) ≤ (H.1 1826 29)), (by omega : 0 ≤ (H11.1 1826 35) ∧ (H11.1 1826 35) ≤ 5), (by omega : 0 ≤ (H11.1 1826 32) ∧ (H11.1 1826 32) ≤ 1000), (by omega : (H11.1 1826 35) = 0 → (H.1 1826 31) ≠ 0 ∧ ((H11.1 1826 31) = 0 ∨ (H.1 1826 30) < (H11.1 1826 30))), (by omega : ((H.1 1826 44) ≠ 2 → (H11.1 1826 39) = (H.1 1826 39)) ∧ (H.1 1826 39) ≤ (H11.1 1826 39)), hx11p⟩
        · refine h_run 3 (pc' := 117) (l' := [(0, .inr (.inr 1826)), (1, .inl t), (2, .inl h)]) (st' := [.inl h, .inl t, .inr (.inr 1826)]) rfl ?_
          have g27 : -2147483648 ≤ (H.1 1826 30) ∧ (H.1 1826 30) ≤ 2147483647 := hrg0.1 1826 13 30 _ .int rfl rfl
          have g28 : -2147483648 ≤ (H.1 1826 29) ∧ (H.1 1826 29) ≤ 2147483647 := hrg0.1 1826 13 29 _ .int rfl rfl
          have g29 : -2147483648 ≤ (H.1 1826 35) ∧ (H.1 1826 35) ≤ 2147483647 := hrg0.1 1826 13 35 _ .int rfl rfl
          have g30 : -2147483648 ≤ (H.1 1826 44) ∧ (H.1 1826 44) ≤ 2147483647 := hrg0.1 1826 13 44 _ .int rfl rfl
          have g31 : -2147483648 ≤ (H.1 1826 1) ∧ (H.1 1826 1) ≤ 2147483647 := hrg0.1 1826 13 1 _ .int rfl rfl
          have g33 : -2147483648 ≤ (H.1 1826 39) ∧ (H.1 1826 39) ≤ 2147483647 := hrg0.1 1826 13 39 _ .int rfl rfl
          have g34 : -2147483648 ≤ (H.1 1826 32) ∧ (H.1 1826 32) ≤ 2147483647 := hrg0.1 1826 13 32 _ .int rfl rfl
          refine h_cv (i := 370) (j := 183) (b := 1826) (M' := mt_183) (xs := [.inl h, .inl t]) (rest := []) rfl rfl rfl rfl rfl rfl (Nat.le_of_ble_eq_true rfl) (Nat.le_of_ble_eq_true rfl) (by omega) (m_great (by omega) (by omega : 0 ≤ (H.1 1826 30) ∧ (H.1 1826 30) ≤ (H.1 1826 29) ∧ (H.1 1826 29) ≤ 1000) (by omega : 0 ≤ (H.1 1826 35) ∧ (H.1 1826 35) ≤ 5) (by omega : 0 ≤ (H.1 1826 32) ∧ (H.1 1826 32) ≤ 1000) (by omega : (H.1 1826 35) = 0) hP hTT (by omega : 1 ≤ (H.1 1826 44) ∧ (H.1 1826 44) ≤ 3) (by omega) (by omega)) ?_
          rintro _ H32 ⟨⟨hx32r, rfl, hx32x, hx32y⟩, hx32f, hx32a, hx32c, hx32e, hx32g, hx32v, hx32p⟩
          refine h_rng (fun hrg35 => ?_)
          have hf36 : fr [30, 31, 32, 33, 35, 36, 39, 40, 41, 43, 47] [1849, 1850, 1851, 1852, 1853, 1854] H H32 := fr_t (fr_rf _ _ _) hx32f (by decide) (by decide)
          replace hx32y : hx32r < (H.1 1826 1) := hx32y
          replace hx32a : (H.1 1826 30) ≤ (H32.1 1826 30) ∧ (H32.1 1826 30) ≤ (H.1 1826 29) := hx32a
          replace hx32g : (H32.1 1826 35) = 0 → ((H32.1 1826 31) = 0 ∨ (H.1 1826 30) < (H32.1 1826 30)) := hx32g
          have hx32o : (H32.1 1826 35) = 0 → 0 ≤ (H32.1 1826 47) ∧ (H32.1 1826 47) ≤ 60 := fun q => TT_ou (hx32p q)
          replace hx32v : ((H.1 1826 44) ≠ 2 → (H32.1 1826 39) = (H.1 1826 39)) ∧ (H.1 1826 39) ≤ (H32.1 1826 39) := hx32v
          refine h_run 0 (pc' := 120) (l' := [(0, .inr (.inr 1826)), (1, .inl t), (2, .inl h)]) (st' := [.inl hx32r]) rfl ?_
          refine h_run 1 (pc' := 129) (l' := [(0, .inr (.inr 1826)), (1, .inl t), (2, .inl h)]) (st' := [.inl hx32r]) rfl ?_
          refine h_reti (x := hx32r) rfl rfl ?_
          have g37 : -2147483648 ≤ (H32.1 1826 30) ∧ (H32.1 1826 30) ≤ 2147483647 := hrg35.1 1826 13 30 _ .int rfl rfl
          have g38 : -2147483648 ≤ (H32.1 1826 35) ∧ (H32.1 1826 35) ≤ 2147483647 := hrg35.1 1826 13 35 _ .int rfl rfl
          have g39 : -2147483648 ≤ (H32.1 1826 32) ∧ (H32.1 1826 32) ≤ 2147483647 := hrg35.1 1826 13 32 _ .int rfl rfl
          have g40 : -2147483648 ≤ (H32.1 1826 29) ∧ (H32.1 1826 29) ≤ 2147483647 := hrg35.1 1826 13 29 _ .int rfl rfl
          have e41 : (H32.1 1826 29) = (H.1 1826 29) := hx32f.2.2 29 (by decide)
          have g42 : -2147483648 ≤ (H32.1 1826 31) ∧ (H32.1 1826 31) ≤ 2147483647 := hrg35.1 1826 13 31 _ .int rfl rfl
          have g43 : -2147483648 ≤ (H32.1 1826 1) ∧ (H32.1 1826 1) ≤ 2147483647 := hrg35.1 1826 13 1 _ .int rfl rfl
          have e44 : (H32.1 1826 1) = (H.1 1826 1) := hx32f.2.2 1 (by decide)
          have g45 : -2147483648 ≤ (H32.1 1826 39) ∧ (H32.1 1826 39) ≤ 2147483647 := hrg35.1 1826 13 39 _ .int rfl rfl
          have g46 : -2147483648 ≤ (H32.1 1826 44) ∧ (H32.1 1826 44) ≤ 2147483647 := hrg35.1 1826 13 44 _ .int rfl rfl
          have e47 : (H32.1 1826 44) = (H.1 1826 44) := hx32f.2.2 44 (by decide)
          exact ⟨⟨hx32r, rfl, by omega, by omega⟩, hf36, (by omega : (H.1 1826 30) ≤ (H32.1 1826 30) ∧ (H32.1 1826 30) ≤ (H.1 1826 29)), (by omega : 0 ≤ (H32.1 1826 35) ∧ (H32.1 1826 35) ≤ 5), (by omega : 0 ≤ (H32.1 1826 32) ∧ (H32.1 1826 32) ≤ 1000), (by omega : (H32.1 1826 35) = 0 → (H.1 1826 31) ≠ 0 ∧ ((H32.1 1826 31) = 0 ∨ (H.1 1826 30) < (H32.1 1826 30))), (by omega : ((H.1 1826 44) ≠ 2 → (H32.1 1826 39) = (H.1 1826 39)) ∧ (H.1 1826 39) ≤ (H32.1 1826 39)), hx32p⟩
      · refine h_run 2 (pc' := 95) (l' := [(0, .inr (.inr 1826)), (1, .inl t), (2, .inl h)]) (st' := [.inl (H.1 1826 31)]) rfl ?_
        refine h_run 1 (pc' := 96) (l' := [(0, .inr (.inr 1826)), (1, .inl t), (2, .inl h)]) (st' := [.inl 2, .inl (H.1 1826 31)]) rfl ?_
        refine h_ieq (off := 10) (t := 106) rfl rfl (by omega) (by decide) (fun c48 => ?_) (fun c48 => ?_)
        · refine h_run 2 (pc' := 110) (l' := [(0, .inr (.inr 1826)), (1, .inl t), (2, .inl h)]) (st' := [.inl (H.1 1826 31)]) rfl ?_
          refine h_run 1 (pc' := 111) (l' := [(0, .inr (.inr 1826)), (1, .inl t), (2, .inl h)]) (st' := [.inl 2, .inl (H.1 1826 31)]) rfl ?_
          refine h_ine (off := 12) (t := 123) rfl rfl (by omega) (by decide) (fun c49 => ?_) (fun c49 => ?_)
          · exfalso
            omega
          · refine h_run 3 (pc' := 117) (l' := [(0, .inr (.inr 1826)), (1, .inl t), (2, .inl h)]) (st' := [.inl h, .inl t, .inr (.inr 1826)]) rfl ?_
            have g50 : -2147483648 ≤ (H.1 1826 30) ∧ (H.1 1826 30) ≤ 2147483647 := hrg0.1 1826 13 30 _ .int rfl rfl
            have g51 : -2147483648 ≤ (H.1 1826 29) ∧ (H.1 1826 29) ≤ 2147483647 := hrg0.1 1826 13 29 _ .int rfl rfl
            have g52 : -2147483648 ≤ (H.1 1826 35) ∧ (H.1 1826 35) ≤ 2147483647 := hrg0.1 1826 13 35 _ .int rfl rfl
            have g53 : -2147483648 ≤ (H.1 1826 44) ∧ (H.1 1826 44) ≤ 2147483647 := hrg0.1 1826 13 44 _ .int rfl rfl
            have g54 : -2147483648 ≤ (H.1 1826 1) ∧ (H.1 1826 1) ≤ 2147483647 := hrg0.1 1826 13 1 _ .int rfl rfl
            have g56 : -2147483648 ≤ (H.1 1826 39) ∧ (H.1 1826 39) ≤ 2147483647 := hrg0.1 1826 13 39 _ .int rfl rfl
            have g57 : -2147483648 ≤ (H.1 1826 32) ∧ (H.1 1826 32) ≤ 2147483647 := hrg0.1 1826 13 32 _ .int rfl rfl
            refine h_cv (i := 370) (j := 183) (b := 1826) (M' := mt_183) (xs := [.inl h, .inl t]) (rest := []) rfl rfl rfl rfl rfl rfl (Nat.le_of_ble_eq_true rfl) (Nat.le_of_ble_eq_true rfl) (by omega) (m_great (by omega) (by omega : 0 ≤ (H.1 1826 30) ∧ (H.1 1826 30) ≤ (H.1 1826 29) ∧ (H.1 1826 29) ≤ 1000) (by omega : 0 ≤ (H.1 1826 35) ∧ (H.1 1826 35) ≤ 5) (by omega : 0 ≤ (H.1 1826 32) ∧ (H.1 1826 32) ≤ 1000) (by omega : (H.1 1826 35) = 0) hP hTT (by omega : 1 ≤ (H.1 1826 44) ∧ (H.1 1826 44) ≤ 3) (by omega) (by omega)) ?_
            rintro _ H55 ⟨⟨hx55r, rfl, hx55x, hx55y⟩, hx55f, hx55a, hx55c, hx55e, hx55g, hx55v, hx55p⟩
            refine h_rng (fun hrg58 => ?_)
            have hf59 : fr [30, 31, 32, 33, 35, 36, 39, 40, 41, 43, 47] [1849, 1850, 1851, 1852, 1853, 1854] H H55 := fr_t (fr_rf _ _ _) hx55f (by decide) (by decide)
            replace hx55y : hx55r < (H.1 1826 1) := hx55y
            replace hx55a : (H.1 1826 30) ≤ (H55.1 1826 30) ∧ (H55.1 1826 30) ≤ (H.1 1826 29) := hx55a
            replace hx55g : (H55.1 1826 35) = 0 → ((H55.1 1826 31) = 0 ∨ (H.1 1826 30) < (H55.1 1826 30)) := hx55g
            have hx55o : (H55.1 1826 35) = 0 → 0 ≤ (H55.1 1826 47) ∧ (H55.1 1826 47) ≤ 60 := fun q => TT_ou (hx55p q)
            replace hx55v : ((H.1 1826 44) ≠ 2 → (H55.1 1826 39) = (H.1 1826 39)) ∧ (H.1 1826 39) ≤ (H55.1 1826 39) := hx55v
            refine h_run 0 (pc' := 120) (l' := [(0, .inr (.inr 1826)), (1, .inl t), (2, .inl h)]) (st' := [.inl hx55r]) rfl ?_
            refine h_run 1 (pc' := 129) (l' := [(0, .inr (.inr 1826)), (1, .inl t), (2, .inl h)]) (st' := [.inl hx55r]) rfl ?_
            refine h_reti (x := hx55r) rfl rfl ?_
            have g60 : -2147483648 ≤ (H55.1 1826 30) ∧ (H55.1 1826 30) ≤ 2147483647 := hrg58.1 1826 13 30 _ .int rfl rfl
            have g61 : -2147483648 ≤ (H55.1 1826 35) ∧ (H55.1 1826 35) ≤ 2147483647 := hrg58.1 1826 13 35 _ .int rfl rfl
            have g62 : -2147483648 ≤ (H55.1 1826 32) ∧ (H55.1 1826 32) ≤ 2147483647 := hrg58.1 1826 13 32 _ .int rfl rfl
            have g63 : -2147483648 ≤ (H55.1 1826 29) ∧ (H55.1 1826 29) ≤ 2147483647 := hrg58.1 1826 13 29 _ .int rfl rfl
            have e64 : (H55.1 1826 29) = (H.1 1826 29) := hx55f.2.2 29 (by decide)
            have g65 : -2147483648 ≤ (H55.1 1826 31) ∧ (H55.1 1826 31) ≤ 2147483647 := hrg58.1 1826 13 31 _ .int rfl rfl
            have g66 : -2147483648 ≤ (H55.1 1826 1) ∧ (H55.1 1826 1) ≤ 2147483647 := hrg58.1 1826 13 1 _ .int rfl rfl
            have e67 : (H55.1 1826 1) = (H.1 1826 1) := hx55f.2.2 1 (by decide)
            have g68 : -2147483648 ≤ (H55.1 1826 39) ∧ (H55.1 1826 39) ≤ 2147483647 := hrg58.1 1826 13 39 _ .int rfl rfl
            have g69 : -2147483648 ≤ (H55.1 1826 44) ∧ (H55.1 1826 44) ≤ 2147483647 := hrg58.1 1826 13 44 _ .int rfl rfl
            have e70 : (H55.1 1826 44) = (H.1 1826 44) := hx55f.2.2 44 (by decide)
            exact ⟨⟨hx55r, rfl, by omega, by omega⟩, hf59, (by omega : (H.1 1826 30) ≤ (H55.1 1826 30) ∧ (H55.1 1826 30) ≤ (H.1 1826 29)), (by omega : 0 ≤ (H55.1 1826 35) ∧ (H55.1 1826 35) ≤ 5), (by omega : 0 ≤ (H55.1 1826 32) ∧ (H55.1 1826 32) ≤ 1000), (by omega : (H55.1 1826 35) = 0 → (H.1 1826 31) ≠ 0 ∧ ((H55.1 1826 31) = 0 ∨ (H.1 1826 30) < (H55.1 1826 30))), (by omega : ((H.1 1826 44) ≠ 2 → (H55.1 1826 39) = (H.1 1826 39)) ∧ (H.1 1826 39) ≤ (H55.1 1826 39)), hx55p⟩
        · refine h_run 2 (pc' := 101) (l' := [(0, .inr (.inr 1826)), (1, .inl t), (2, .inl h)]) (st' := [.inl 2, .inr (.inr 1826)]) rfl ?_
          have g71 : -2147483648 ≤ (H.1 1826 35) ∧ (H.1 1826 35) ≤ 2147483647 := hrg0.1 1826 13 35 _ .int rfl rfl
          refine h_cv (i := 278) (j := 159) (b := 1826) (M' := mt_159) (xs := [.inl 2]) (rest := []) rfl rfl rfl rfl rfl rfl (Nat.le_of_ble_eq_true rfl) (Nat.le_of_ble_eq_true rfl) (by omega) (m_bad0 (by omega) (by omega) (by omega : (H.1 1826 35) = 0)) ?_
          rintro _ _ ⟨rfl, rfl⟩
          refine h_run 0 (pc' := 104) (l' := [(0, .inr (.inr 1826)), (1, .inl t), (2, .inl h)]) (st' := []) rfl ?_
          refine h_run 1 (pc' := 105) (l' := [(0, .inr (.inr 1826)), (1, .inl t), (2, .inl h)]) (st' := [.inl (-1)]) rfl ?_
          refine h_reti (x := (-1)) rfl rfl ?_
          have g72 : -2147483648 ≤ (H.1 1826 30) ∧ (H.1 1826 30) ≤ 2147483647 := hrg0.1 1826 13 30 _ .int rfl rfl
          have g73 : -2147483648 ≤ (H.1 1826 32) ∧ (H.1 1826 32) ≤ 2147483647 := hrg0.1 1826 13 32 _ .int rfl rfl
          have g74 : -2147483648 ≤ (H.1 1826 29) ∧ (H.1 1826 29) ≤ 2147483647 := hrg0.1 1826 13 29 _ .int rfl rfl
          have g75 : -2147483648 ≤ (H.1 1826 1) ∧ (H.1 1826 1) ≤ 2147483647 := hrg0.1 1826 13 1 _ .int rfl rfl
          have g76 : -2147483648 ≤ (H.1 1826 39) ∧ (H.1 1826 39) ≤ 2147483647 := hrg0.1 1826 13 39 _ .int rfl rfl
          have g77 : -2147483648 ≤ (H.1 1826 44) ∧ (H.1 1826 44) ≤ 2147483647 := hrg0.1 1826 13 44 _ .int rfl rfl
          exact ⟨⟨(-1), rfl, by omega, by omega⟩, (fr_o (fr_o (fr_rf _ _ _) (by decide)) (by decide)), (by omega : (H.1 1826 30) ≤ (H.1 1826 30) ∧ (H.1 1826 30) ≤ (H.1 1826 29)), (by omega : 0 ≤ (2 : Int) ∧ (2 : Int) ≤ 5), (by omega : 0 ≤ (H.1 1826 32) ∧ (H.1 1826 32) ≤ 1000), (by omega : (2 : Int) = 0 → (H.1 1826 31) ≠ 0 ∧ ((H.1 1826 31) = 0 ∨ (H.1 1826 30) < (H.1 1826 30))), (by omega : ((H.1 1826 44) ≠ 2 → (H.1 1826 39) = (H.1 1826 39)) ∧ (H.1 1826 39) ≤ (H.1 1826 39)), (fun (q : (2 : Int) = 0) => absurd q (by omega))⟩
    · refine h_run 2 (pc' := 47) (l' := [(0, .inr (.inr 1826)), (1, .inl t), (2, .inl h)]) (st' := [.inl (H.1 1826 44)]) rfl ?_
      have g78 : -2147483648 ≤ (H.1 1826 44) ∧ (H.1 1826 44) ≤ 2147483647 := hrg0.1 1826 13 44 _ .int rfl rfl
      refine h_run 1 (pc' := 48) (l' := [(0, .inr (.inr 1826)), (1, .inl t), (2, .inl h)]) (st' := [.inl 2, .inl (H.1 1826 44)]) rfl ?_
      refine h_ine (off := 13) (t := 61) rfl rfl (by omega) (by decide) (fun c79 => ?_) (fun c79 => ?_)
      · refine h_run 1 (pc' := 62) (l' := [(0, .inr (.inr 1826)), (1, .inl t), (2, .inl h)]) (st' := [.inr (.inr 1826)]) rfl ?_
        have g80 : -2147483648 ≤ (H.1 1826 35) ∧ (H.1 1826 35) ≤ 2147483647 := hrg0.1 1826 13 35 _ .int rfl rfl
        have g81 : -2147483648 ≤ (H.1 1826 40) ∧ (H.1 1826 40) ≤ 2147483647 := hrg0.1 1826 13 40 _ .int rfl rfl
        by_cases b82 : (H.1 1826 40) = 40
        · refine h_cv (i := 344) (j := 168) (b := 1826) (M' := mt_168) (xs := []) (rest := []) rfl rfl rfl rfl rfl rfl (Nat.le_of_ble_eq_true rfl) (Nat.le_of_ble_eq_true rfl) (by omega) (m_countB (by omega) (by omega : (H.1 1826 35) = 0) (by omega : (H.1 1826 40) = 40)) ?_
          rintro _ _ ⟨rfl, rfl⟩
          refine h_run 0 (pc' := 65) (l' := [(0, .inr (.inr 1826)), (1, .inl t), (2, .inl h)]) (st' := []) rfl ?_
          refine h_run 2 (pc' := 67) (l' := [(0, .inr (.inr 1826)), (1, .inl t), (2, .inl h)]) (st' := [.inl 0, .inr (.inr 1826)]) rfl ?_
          refine h_cv (i := 350) (j := 169) (b := 1826) (M' := mt_169) (xs := [.inl 0]) (rest := []) rfl rfl rfl rfl rfl rfl (Nat.le_of_ble_eq_true rfl) (Nat.le_of_ble_eq_true rfl) (by omega) (m_put0 (by omega) (by omega : (5 : Int) ≠ 0)) ?_
          rintro _ _ ⟨rfl, rfl⟩
          refine h_run 0 (pc' := 70) (l' := [(0, .inr (.inr 1826)), (1, .inl t), (2, .inl h)]) (st' := []) rfl ?_
          refine h_run 1 (pc' := 71) (l' := [(0, .inr (.inr 1826)), (1, .inl t), (2, .inl h)]) (st' := [.inr (.inr 1826)]) rfl ?_
          refine h_cv (i := 293) (j := 158) (b := 1826) (M' := mt_158) (xs := []) (rest := []) rfl rfl rfl rfl rfl rfl (Nat.le_of_ble_eq_true rfl) (Nat.le_of_ble_eq_true rfl) (by omega) (m_good0 (by omega) (by omega : (5 : Int) ≠ 0)) ?_
          rintro _ _ ⟨rfl, rfl⟩
          refine h_run 0 (pc' := 74) (l' := [(0, .inr (.inr 1826)), (1, .inl t), (2, .inl h)]) (st' := [.inl 0]) rfl ?_
          refine h_zeq (off := 7) (t := 81) rfl rfl (by decide) (fun _ => ?_) (fun c => absurd c (by decide))
          refine h_run 1 (pc' := 82) (l' := [(0, .inr (.inr 1826)), (1, .inl t), (2, .inl h)]) (st' := [.inl t]) rfl ?_
          refine h_reti (x := t) rfl rfl ?_
          have g83 : -2147483648 ≤ (H.1 1826 30) ∧ (H.1 1826 30) ≤ 2147483647 := hrg0.1 1826 13 30 _ .int rfl rfl
          have g84 : -2147483648 ≤ (H.1 1826 32) ∧ (H.1 1826 32) ≤ 2147483647 := hrg0.1 1826 13 32 _ .int rfl rfl
          have g85 : -2147483648 ≤ (H.1 1826 29) ∧ (H.1 1826 29) ≤ 2147483647 := hrg0.1 1826 13 29 _ .int rfl rfl
          have g86 : -2147483648 ≤ (H.1 1826 1) ∧ (H.1 1826 1) ≤ 2147483647 := hrg0.1 1826 13 1 _ .int rfl rfl
          have g87 : -2147483648 ≤ (H.1 1826 39) ∧ (H.1 1826 39) ≤ 2147483647 := hrg0.1 1826 13 39 _ .int rfl rfl
          exact ⟨⟨t, rfl, by omega, by omega⟩, (fr_o (fr_o (fr_o (fr_rf _ _ _) (by decide)) (by decide)) (by decide)), (by omega : (H.1 1826 30) ≤ (H.1 1826 30) ∧ (H.1 1826 30) ≤ (H.1 1826 29)), (by omega : 0 ≤ (5 : Int) ∧ (5 : Int) ≤ 5), (by omega : 0 ≤ (H.1 1826 32) ∧ (H.1 1826 32) ≤ 1000), (by omega : (5 : Int) = 0 → (H.1 1826 31) ≠ 0 ∧ ((H.1 1826 31) = 0 ∨ (H.1 1826 30) < (H.1 1826 30))), (by omega : ((H.1 1826 44) ≠ 2 → (H.1 1826 39) = (H.1 1826 39)) ∧ (H.1 1826 39) ≤ (H.1 1826 39)), (fun (q : (5 : Int) = 0) => absurd q (by omega))⟩
        · refine h_cv (i := 344) (j := 168) (b := 1826) (M' := mt_168) (xs := []) (rest := []) rfl rfl rfl rfl rfl rfl (Nat.le_of_ble_eq_true rfl) (Nat.le_of_ble_eq_true rfl) (by omega) (m_countA (by omega) (by omega : (H.1 1826 35) = 0) (by omega : 0 ≤ (H.1 1826 40) ∧ (H.1 1826 40) ≤ 1000) (by omega : (H.1 1826 40) ≠ 40)) ?_
          rintro _ _ ⟨rfl, rfl⟩
          refine h_run 0 (pc' := 65) (l' := [(0, .inr (.inr 1826)), (1, .inl t), (2, .inl h)]) (st' := []) rfl ?_
          refine h_run 2 (pc' := 67) (l' := [(0, .inr (.inr 1826)), (1, .inl t), (2, .inl h)]) (st' := [.inl 0, .inr (.inr 1826)]) rfl ?_
          have g88 : -2147483648 ≤ (H.1 1826 43) ∧ (H.1 1826 43) ≤ 2147483647 := hrg0.1 1826 13 43 _ .int rfl rfl
          refine h_cv (i := 350) (j := 169) (b := 1826) (M' := mt_169) (xs := [.inl 0]) (rest := []) rfl rfl rfl rfl rfl rfl (Nat.le_of_ble_eq_true rfl) (Nat.le_of_ble_eq_true rfl) (by omega) (m_put1 (by omega) (by omega : (H.1 1826 35) = 0) (by omega : 0 ≤ (H.1 1826 43) ∧ (H.1 1826 43) ≤ 47) (by omega)) ?_
          rintro _ _ ⟨rfl, rfl⟩
          refine h_run 0 (pc' := 70) (l' := [(0, .inr (.inr 1826)), (1, .inl t), (2, .inl h)]) (st' := []) rfl ?_
          refine h_run 1 (pc' := 71) (l' := [(0, .inr (.inr 1826)), (1, .inl t), (2, .inl h)]) (st' := [.inr (.inr 1826)]) rfl ?_
          refine h_cv (i := 293) (j := 158) (b := 1826) (M' := mt_158) (xs := []) (rest := []) rfl rfl rfl rfl rfl rfl (Nat.le_of_ble_eq_true rfl) (Nat.le_of_ble_eq_true rfl) (by omega) (m_good1 (by omega) (by omega : (H.1 1826 35) = 0)) ?_
          rintro _ _ ⟨rfl, rfl⟩
          refine h_run 0 (pc' := 74) (l' := [(0, .inr (.inr 1826)), (1, .inl t), (2, .inl h)]) (st' := [.inl 1]) rfl ?_
          refine h_zeq (off := 7) (t := 81) rfl rfl (by decide) (fun c => absurd c (by decide)) (fun _ => ?_)
          refine h_run 1 (pc' := 78) (l' := [(0, .inr (.inr 1826)), (1, .inl t), (2, .inl h)]) (st' := [.inr (.inr 1826)]) rfl ?_
          have g89 : -2147483648 ≤ (H.1 1826 30) ∧ (H.1 1826 30) ≤ 2147483647 := hrg0.1 1826 13 30 _ .int rfl rfl
          have g90 : -2147483648 ≤ (H.1 1826 29) ∧ (H.1 1826 29) ≤ 2147483647 := hrg0.1 1826 13 29 _ .int rfl rfl
          have g91 : -2147483648 ≤ (H.1 1826 32) ∧ (H.1 1826 32) ≤ 2147483647 := hrg0.1 1826 13 32 _ .int rfl rfl
          refine h_cv (i := 297) (j := 165) (b := 1826) (M' := mt_165) (xs := []) (rest := []) rfl rfl rfl rfl rfl rfl (Nat.le_of_ble_eq_true rfl) (Nat.le_of_ble_eq_true rfl) (by omega) (m_next (by omega) (by omega : 0 ≤ (H.1 1826 30) ∧ (H.1 1826 30) ≤ (H.1 1826 29) ∧ (H.1 1826 29) ≤ 1000) (by omega : 0 ≤ (H.1 1826 35) ∧ (H.1 1826 35) ≤ 5) (by omega : 0 ≤ (H.1 1826 32) ∧ (H.1 1826 32) ≤ 1000)) ?_
          rintro _ H92 ⟨rfl, hx92f, hx92a, hx92b, hx92c, -, hx92e, hx92g⟩
          refine h_rng (fun hrg93 => ?_)
          have hf94 : fr [30, 31, 32, 33, 35, 36, 39, 40, 41, 43, 47] [1849, 1850, 1851, 1852, 1853, 1854] H H92 := fr_t (fr_o (fr_a (fr_o (fr_rf _ _ _) (by decide)) (by decide)) (by decide)) hx92f (by decide) (by decide)
          replace hx92a : (H.1 1826 30) ≤ (H92.1 1826 30) := hx92a
          replace hx92b : (H92.1 1826 30) ≤ (H.1 1826 29) := hx92b
          replace hx92g : (H92.1 1826 35) = 0 → ((H92.1 1826 31) = 0 ∨ (H.1 1826 30) < (H92.1 1826 30)) := hx92g
          refine h_run 0 (pc' := 81) (l' := [(0, .inr (.inr 1826)), (1, .inl t), (2, .inl h)]) (st' := []) rfl ?_
          refine h_run 1 (pc' := 82) (l' := [(0, .inr (.inr 1826)), (1, .inl t), (2, .inl h)]) (st' := [.inl t]) rfl ?_
          refine h_reti (x := t) rfl rfl ?_
          have g95 : -2147483648 ≤ (H92.1 1826 30) ∧ (H92.1 1826 30) ≤ 2147483647 := hrg93.1 1826 13 30 _ .int rfl rfl
          have g96 : -2147483648 ≤ (H92.1 1826 35) ∧ (H92.1 1826 35) ≤ 2147483647 := hrg93.1 1826 13 35 _ .int rfl rfl
          have g97 : -2147483648 ≤ (H92.1 1826 32) ∧ (H92.1 1826 32) ≤ 2147483647 := hrg93.1 1826 13 32 _ .int rfl rfl
          have g98 : -2147483648 ≤ (H92.1 1826 29) ∧ (H92.1 1826 29) ≤ 2147483647 := hrg93.1 1826 13 29 _ .int rfl rfl
          have e99 : (H92.1 1826 29) = (H.1 1826 29) := hx92f.2.2 29 (by decide)
          have g100 : -2147483648 ≤ (H92.1 1826 31) ∧ (H92.1 1826 31) ≤ 2147483647 := hrg93.1 1826 13 31 _ .int rfl rfl
          have g101 : -2147483648 ≤ (H92.1 1826 1) ∧ (H92.1 1826 1) ≤ 2147483647 := hrg93.1 1826 13 1 _ .int rfl rfl
          have e102 : (H92.1 1826 1) = (H.1 1826 1) := hx92f.2.2 1 (by decide)
          have g103 : -2147483648 ≤ (H92.1 1826 39) ∧ (H92.1 1826 39) ≤ 2147483647 := hrg93.1 1826 13 39 _ .int rfl rfl
          have e104 : (H92.1 1826 39) = (H.1 1826 39) := hx92f.2.2 39 (by decide)
          have g105 : -2147483648 ≤ (H92.1 1826 44) ∧ (H92.1 1826 44) ≤ 2147483647 := hrg93.1 1826 13 44 _ .int rfl rfl
          have e106 : (H92.1 1826 44) = (H.1 1826 44) := hx92f.2.2 44 (by decide)
          exact ⟨⟨t, rfl, by omega, by omega⟩, hf94, (by omega : (H.1 1826 30) ≤ (H92.1 1826 30) ∧ (H92.1 1826 30) ≤ (H.1 1826 29)), (by omega : 0 ≤ (H92.1 1826 35) ∧ (H92.1 1826 35) ≤ 5), (by omega : 0 ≤ (H92.1 1826 32) ∧ (H92.1 1826 32) ≤ 1000), (by omega : (H92.1 1826 35) = 0 → (H.1 1826 31) ≠ 0 ∧ ((H92.1 1826 31) = 0 ∨ (H.1 1826 30) < (H92.1 1826 30))), (by omega : ((H.1 1826 44) ≠ 2 → (H92.1 1826 39) = (H.1 1826 39)) ∧ (H.1 1826 39) ≤ (H92.1 1826 39)), fun _ => TT_sign (s := 0) (q := 0) hP hTT ⟨⟨(hx92f.2.2 1 (by decide)), (hx92f.2.2 3 (by decide)), (hx92f.2.2 8 (by decide)), (hx92f.2.2 44 (by decide))⟩, (hx92f.2.1 1833 (by decide) (by decide)), (hx92f.2.1 1830 (by decide) (by decide))⟩ (Or.inl rfl) (ma_0 (by omega)) (by omega) (by omega) ⟨(hx92f.2.2 40 (by decide)), (hx92f.2.2 43 (by decide)), (hx92f.2.2 41 (by decide))⟩ (hx92f.2.1 1851 (by decide) (by decide)) (Or.inl ⟨(hx92f.2.2 39 (by decide)), (hx92f.2.1 1850 (by decide) (by decide))⟩) (Or.inl ⟨rfl, (hx92f.2.2 47 (by decide)), (hx92f.2.1 1852 (by decide) (by decide)), (hx92f.2.1 1853 (by decide) (by decide)), (hx92f.2.1 1854 (by decide) (by decide))⟩)⟩
      · refine h_run 2 (pc' := 53) (l' := [(0, .inr (.inr 1826)), (1, .inl t), (2, .inl h)]) (st' := [.inl (-1), .inl t]) rfl ?_
        refine h_ine (off := 8) (t := 61) rfl rfl (by omega) (by decide) (fun c107 => ?_) (fun c107 => ?_)
        · refine h_run 1 (pc' := 62) (l' := [(0, .inr (.inr 1826)), (1, .inl t), (2, .inl h)]) (st' := [.inr (.inr 1826)]) rfl ?_
          have g108 : -2147483648 ≤ (H.1 1826 35) ∧ (H.1 1826 35) ≤ 2147483647 := hrg0.1 1826 13 35 _ .int rfl rfl
          have g109 : -2147483648 ≤ (H.1 1826 40) ∧ (H.1 1826 40) ≤ 2147483647 := hrg0.1 1826 13 40 _ .int rfl rfl
          by_cases b110 : (H.1 1826 40) = 40
          · refine h_cv (i := 344) (j := 168) (b := 1826) (M' := mt_168) (xs := []) (rest := []) rfl rfl rfl rfl rfl rfl (Nat.le_of_ble_eq_true rfl) (Nat.le_of_ble_eq_true rfl) (by omega) (m_countB (by omega) (by omega : (H.1 1826 35) = 0) (by omega : (H.1 1826 40) = 40)) ?_
            rintro _ _ ⟨rfl, rfl⟩
            refine h_run 0 (pc' := 65) (l' := [(0, .inr (.inr 1826)), (1, .inl t), (2, .inl h)]) (st' := []) rfl ?_
            refine h_run 2 (pc' := 67) (l' := [(0, .inr (.inr 1826)), (1, .inl t), (2, .inl h)]) (st' := [.inl 0, .inr (.inr 1826)]) rfl ?_
            refine h_cv (i := 350) (j := 169) (b := 1826) (M' := mt_169) (xs := [.inl 0]) (rest := []) rfl rfl rfl rfl rfl rfl (Nat.le_of_ble_eq_true rfl) (Nat.le_of_ble_eq_true rfl) (by omega) (m_put0 (by omega) (by omega : (5 : Int) ≠ 0)) ?_
            rintro _ _ ⟨rfl, rfl⟩
            refine h_run 0 (pc' := 70) (l' := [(0, .inr (.inr 1826)), (1, .inl t), (2, .inl h)]) (st' := []) rfl ?_
            refine h_run 1 (pc' := 71) (l' := [(0, .inr (.inr 1826)), (1, .inl t), (2, .inl h)]) (st' := [.inr (.inr 1826)]) rfl ?_
            refine h_cv (i := 293) (j := 158) (b := 1826) (M' := mt_158) (xs := []) (rest := []) rfl rfl rfl rfl rfl rfl (Nat.le_of_ble_eq_true rfl) (Nat.le_of_ble_eq_true rfl) (by omega) (m_good0 (by omega) (by omega : (5 : Int) ≠ 0)) ?_
            rintro _ _ ⟨rfl, rfl⟩
            refine h_run 0 (pc' := 74) (l' := [(0, .inr (.inr 1826)), (1, .inl t), (2, .inl h)]) (st' := [.inl 0]) rfl ?_
            refine h_zeq (off := 7) (t := 81) rfl rfl (by decide) (fun _ => ?_) (fun c => absurd c (by decide))
            refine h_run 1 (pc' := 82) (l' := [(0, .inr (.inr 1826)), (1, .inl t), (2, .inl h)]) (st' := [.inl t]) rfl ?_
            refine h_reti (x := t) rfl rfl ?_
            have g111 : -2147483648 ≤ (H.1 1826 30) ∧ (H.1 1826 30) ≤ 2147483647 := hrg0.1 1826 13 30 _ .int rfl rfl
            have g112 : -2147483648 ≤ (H.1 1826 32) ∧ (H.1 1826 32) ≤ 2147483647 := hrg0.1 1826 13 32 _ .int rfl rfl
            have g113 : -2147483648 ≤ (H.1 1826 29) ∧ (H.1 1826 29) ≤ 2147483647 := hrg0.1 1826 13 29 _ .int rfl rfl
            have g114 : -2147483648 ≤ (H.1 1826 1) ∧ (H.1 1826 1) ≤ 2147483647 := hrg0.1 1826 13 1 _ .int rfl rfl
            have g115 : -2147483648 ≤ (H.1 1826 39) ∧ (H.1 1826 39) ≤ 2147483647 := hrg0.1 1826 13 39 _ .int rfl rfl
            exact ⟨⟨t, rfl, by omega, by omega⟩, (fr_o (fr_o (fr_o (fr_rf _ _ _) (by decide)) (by decide)) (by decide)), (by omega : (H.1 1826 30) ≤ (H.1 1826 30) ∧ (H.1 1826 30) ≤ (H.1 1826 29)), (by omega : 0 ≤ (5 : Int) ∧ (5 : Int) ≤ 5), (by omega : 0 ≤ (H.1 1826 32) ∧ (H.1 1826 32) ≤ 1000), (by omega : (5 : Int) = 0 → (H.1 1826 31) ≠ 0 ∧ ((H.1 1826 31) = 0 ∨ (H.1 1826 30) < (H.1 1826 30))), (by omega : ((H.1 1826 44) ≠ 2 → (H.1 1826 39) = (H.1 1826 39)) ∧ (H.1 1826 39) ≤ (H.1 1826 39)), (fun (q : (5 : Int) = 0) => absurd q (by omega))⟩
          · refine h_cv (i := 344) (j := 168) (b := 1826) (M' := mt_168) (xs := []) (rest := []) rfl rfl rfl rfl rfl rfl (Nat.le_of_ble_eq_true rfl) (Nat.le_of_ble_eq_true rfl) (by omega) (m_countA (by omega) (by omega : (H.1 1826 35) = 0) (by omega : 0 ≤ (H.1 1826 40) ∧ (H.1 1826 40) ≤ 1000) (by omega : (H.1 1826 40) ≠ 40)) ?_
            rintro _ _ ⟨rfl, rfl⟩
            refine h_run 0 (pc' := 65) (l' := [(0, .inr (.inr 1826)), (1, .inl t), (2, .inl h)]) (st' := []) rfl ?_
            refine h_run 2 (pc' := 67) (l' := [(0, .inr (.inr 1826)), (1, .inl t), (2, .inl h)]) (st' := [.inl 0, .inr (.inr 1826)]) rfl ?_
            have g116 : -2147483648 ≤ (H.1 1826 43) ∧ (H.1 1826 43) ≤ 2147483647 := hrg0.1 1826 13 43 _ .int rfl rfl
            refine h_cv (i := 350) (j := 169) (b := 1826) (M' := mt_169) (xs := [.inl 0]) (rest := []) rfl rfl rfl rfl rfl rfl (Nat.le_of_ble_eq_true rfl) (Nat.le_of_ble_eq_true rfl) (by omega) (m_put1 (by omega) (by omega : (H.1 1826 35) = 0) (by omega : 0 ≤ (H.1 1826 43) ∧ (H.1 1826 43) ≤ 47) (by omega)) ?_
            rintro _ _ ⟨rfl, rfl⟩
            refine h_run 0 (pc' := 70) (l' := [(0, .inr (.inr 1826)), (1, .inl t), (2, .inl h)]) (st' := []) rfl ?_
            refine h_run 1 (pc' := 71) (l' := [(0, .inr (.inr 1826)), (1, .inl t), (2, .inl h)]) (st' := [.inr (.inr 1826)]) rfl ?_
            refine h_cv (i := 293) (j := 158) (b := 1826) (M' := mt_158) (xs := []) (rest := []) rfl rfl rfl rfl rfl rfl (Nat.le_of_ble_eq_true rfl) (Nat.le_of_ble_eq_true rfl) (by omega) (m_good1 (by omega) (by omega : (H.1 1826 35) = 0)) ?_
            rintro _ _ ⟨rfl, rfl⟩
            refine h_run 0 (pc' := 74) (l' := [(0, .inr (.inr 1826)), (1, .inl t), (2, .inl h)]) (st' := [.inl 1]) rfl ?_
            refine h_zeq (off := 7) (t := 81) rfl rfl (by decide) (fun c => absurd c (by decide)) (fun _ => ?_)
            refine h_run 1 (pc' := 78) (l' := [(0, .inr (.inr 1826)), (1, .inl t), (2, .inl h)]) (st' := [.inr (.inr 1826)]) rfl ?_
            have g117 : -2147483648 ≤ (H.1 1826 30) ∧ (H.1 1826 30) ≤ 2147483647 := hrg0.1 1826 13 30 _ .int rfl rfl
            have g118 : -2147483648 ≤ (H.1 1826 29) ∧ (H.1 1826 29) ≤ 2147483647 := hrg0.1 1826 13 29 _ .int rfl rfl
            have g119 : -2147483648 ≤ (H.1 1826 32) ∧ (H.1 1826 32) ≤ 2147483647 := hrg0.1 1826 13 32 _ .int rfl rfl
            refine h_cv (i := 297) (j := 165) (b := 1826) (M' := mt_165) (xs := []) (rest := []) rfl rfl rfl rfl rfl rfl (Nat.le_of_ble_eq_true rfl) (Nat.le_of_ble_eq_true rfl) (by omega) (m_next (by omega) (by omega : 0 ≤ (H.1 1826 30) ∧ (H.1 1826 30) ≤ (H.1 1826 29) ∧ (H.1 1826 29) ≤ 1000) (by omega : 0 ≤ (H.1 1826 35) ∧ (H.1 1826 35) ≤ 5) (by omega : 0 ≤ (H.1 1826 32) ∧ (H.1 1826 32) ≤ 1000)) ?_
            rintro _ H120 ⟨rfl, hx120f, hx120a, hx120b, hx120c, -, hx120e, hx120g⟩
            refine h_rng (fun hrg121 => ?_)
            have hf122 : fr [30, 31, 32, 33, 35, 36, 39, 40, 41, 43, 47] [1849, 1850, 1851, 1852, 1853, 1854] H H120 := fr_t (fr_o (fr_a (fr_o (fr_rf _ _ _) (by decide)) (by decide)) (by decide)) hx120f (by decide) (by decide)
            replace hx120a : (H.1 1826 30) ≤ (H120.1 1826 30) := hx120a
            replace hx120b : (H120.1 1826 30) ≤ (H.1 1826 29) := hx120b
            replace hx120g : (H120.1 1826 35) = 0 → ((H120.1 1826 31) = 0 ∨ (H.1 1826 30) < (H120.1 1826 30)) := hx120g
            refine h_run 0 (pc' := 81) (l' := [(0, .inr (.inr 1826)), (1, .inl t), (2, .inl h)]) (st' := []) rfl ?_
            refine h_run 1 (pc' := 82) (l' := [(0, .inr (.inr 1826)), (1, .inl t), (2, .inl h)]) (st' := [.inl t]) rfl ?_
            refine h_reti (x := t) rfl rfl ?_
            have g123 : -2147483648 ≤ (H120.1 1826 30) ∧ (H120.1 1826 30) ≤ 2147483647 := hrg121.1 1826 13 30 _ .int rfl rfl
            have g124 : -2147483648 ≤ (H120.1 1826 35) ∧ (H120.1 1826 35) ≤ 2147483647 := hrg121.1 1826 13 35 _ .int rfl rfl
            have g125 : -2147483648 ≤ (H120.1 1826 32) ∧ (H120.1 1826 32) ≤ 2147483647 := hrg121.1 1826 13 32 _ .int rfl rfl
            have g126 : -2147483648 ≤ (H120.1 1826 29) ∧ (H120.1 1826 29) ≤ 2147483647 := hrg121.1 1826 13 29 _ .int rfl rfl
            have e127 : (H120.1 1826 29) = (H.1 1826 29) := hx120f.2.2 29 (by decide)
            have g128 : -2147483648 ≤ (H120.1 1826 31) ∧ (H120.1 1826 31) ≤ 2147483647 := hrg121.1 1826 13 31 _ .int rfl rfl
            have g129 : -2147483648 ≤ (H120.1 1826 1) ∧ (H120.1 1826 1) ≤ 2147483647 := hrg121.1 1826 13 1 _ .int rfl rfl
            have e130 : (H120.1 1826 1) = (H.1 1826 1) := hx120f.2.2 1 (by decide)
            have g131 : -2147483648 ≤ (H120.1 1826 39) ∧ (H120.1 1826 39) ≤ 2147483647 := hrg121.1 1826 13 39 _ .int rfl rfl
            have e132 : (H120.1 1826 39) = (H.1 1826 39) := hx120f.2.2 39 (by decide)
            have g133 : -2147483648 ≤ (H120.1 1826 44) ∧ (H120.1 1826 44) ≤ 2147483647 := hrg121.1 1826 13 44 _ .int rfl rfl
            have e134 : (H120.1 1826 44) = (H.1 1826 44) := hx120f.2.2 44 (by decide)
            exact ⟨⟨t, rfl, by omega, by omega⟩, hf122, (by omega : (H.1 1826 30) ≤ (H120.1 1826 30) ∧ (H120.1 1826 30) ≤ (H.1 1826 29)), (by omega : 0 ≤ (H120.1 1826 35) ∧ (H120.1 1826 35) ≤ 5), (by omega : 0 ≤ (H120.1 1826 32) ∧ (H120.1 1826 32) ≤ 1000), (by omega : (H120.1 1826 35) = 0 → (H.1 1826 31) ≠ 0 ∧ ((H120.1 1826 31) = 0 ∨ (H.1 1826 30) < (H120.1 1826 30))), (by omega : ((H.1 1826 44) ≠ 2 → (H120.1 1826 39) = (H.1 1826 39)) ∧ (H.1 1826 39) ≤ (H120.1 1826 39)), fun _ => TT_sign (s := 0) (q := 0) hP hTT ⟨⟨(hx120f.2.2 1 (by decide)), (hx120f.2.2 3 (by decide)), (hx120f.2.2 8 (by decide)), (hx120f.2.2 44 (by decide))⟩, (hx120f.2.1 1833 (by decide) (by decide)), (hx120f.2.1 1830 (by decide) (by decide))⟩ (Or.inl rfl) (ma_0 (by omega)) (by omega) (by omega) ⟨(hx120f.2.2 40 (by decide)), (hx120f.2.2 43 (by decide)), (hx120f.2.2 41 (by decide))⟩ (hx120f.2.1 1851 (by decide) (by decide)) (Or.inl ⟨(hx120f.2.2 39 (by decide)), (hx120f.2.1 1850 (by decide) (by decide))⟩) (Or.inl ⟨rfl, (hx120f.2.2 47 (by decide)), (hx120f.2.1 1852 (by decide) (by decide)), (hx120f.2.1 1853 (by decide) (by decide)), (hx120f.2.1 1854 (by decide) (by decide))⟩)⟩
        · refine h_run 2 (pc' := 58) (l' := [(0, .inr (.inr 1826)), (1, .inl t), (2, .inl h)]) (st' := [.inl 2, .inr (.inr 1826)]) rfl ?_
          have g135 : -2147483648 ≤ (H.1 1826 35) ∧ (H.1 1826 35) ≤ 2147483647 := hrg0.1 1826 13 35 _ .int rfl rfl
          refine h_cv (i := 278) (j := 159) (b := 1826) (M' := mt_159) (xs := [.inl 2]) (rest := []) rfl rfl rfl rfl rfl rfl (Nat.le_of_ble_eq_true rfl) (Nat.le_of_ble_eq_true rfl) (by omega) (m_bad0 (by omega) (by omega) (by omega : (H.1 1826 35) = 0)) ?_
          rintro _ _ ⟨rfl, rfl⟩
          refine h_run 0 (pc' := 61) (l' := [(0, .inr (.inr 1826)), (1, .inl t), (2, .inl h)]) (st' := []) rfl ?_
          refine h_run 1 (pc' := 62) (l' := [(0, .inr (.inr 1826)), (1, .inl t), (2, .inl h)]) (st' := [.inr (.inr 1826)]) rfl ?_
          have g136 : -2147483648 ≤ (H.1 1826 40) ∧ (H.1 1826 40) ≤ 2147483647 := hrg0.1 1826 13 40 _ .int rfl rfl
          refine h_cv (i := 344) (j := 168) (b := 1826) (M' := mt_168) (xs := []) (rest := []) rfl rfl rfl rfl rfl rfl (Nat.le_of_ble_eq_true rfl) (Nat.le_of_ble_eq_true rfl) (by omega) (m_countC (by omega) (by omega : (2 : Int) ≠ 0) (by omega : 0 ≤ (H.1 1826 40) ∧ (H.1 1826 40) ≤ 1000)) ?_
          rintro _ _ ⟨rfl, rfl⟩
          refine h_run 0 (pc' := 65) (l' := [(0, .inr (.inr 1826)), (1, .inl t), (2, .inl h)]) (st' := []) rfl ?_
          refine h_run 2 (pc' := 67) (l' := [(0, .inr (.inr 1826)), (1, .inl t), (2, .inl h)]) (st' := [.inl 0, .inr (.inr 1826)]) rfl ?_
          refine h_cv (i := 350) (j := 169) (b := 1826) (M' := mt_169) (xs := [.inl 0]) (rest := []) rfl rfl rfl rfl rfl rfl (Nat.le_of_ble_eq_true rfl) (Nat.le_of_ble_eq_true rfl) (by omega) (m_put0 (by omega) (by omega : (2 : Int) ≠ 0)) ?_
          rintro _ _ ⟨rfl, rfl⟩
          refine h_run 0 (pc' := 70) (l' := [(0, .inr (.inr 1826)), (1, .inl t), (2, .inl h)]) (st' := []) rfl ?_
          refine h_run 1 (pc' := 71) (l' := [(0, .inr (.inr 1826)), (1, .inl t), (2, .inl h)]) (st' := [.inr (.inr 1826)]) rfl ?_
          refine h_cv (i := 293) (j := 158) (b := 1826) (M' := mt_158) (xs := []) (rest := []) rfl rfl rfl rfl rfl rfl (Nat.le_of_ble_eq_true rfl) (Nat.le_of_ble_eq_true rfl) (by omega) (m_good0 (by omega) (by omega : (2 : Int) ≠ 0)) ?_
          rintro _ _ ⟨rfl, rfl⟩
          refine h_run 0 (pc' := 74) (l' := [(0, .inr (.inr 1826)), (1, .inl t), (2, .inl h)]) (st' := [.inl 0]) rfl ?_
          refine h_zeq (off := 7) (t := 81) rfl rfl (by decide) (fun _ => ?_) (fun c => absurd c (by decide))
          refine h_run 1 (pc' := 82) (l' := [(0, .inr (.inr 1826)), (1, .inl t), (2, .inl h)]) (st' := [.inl t]) rfl ?_
          refine h_reti (x := t) rfl rfl ?_
          have g137 : -2147483648 ≤ (H.1 1826 30) ∧ (H.1 1826 30) ≤ 2147483647 := hrg0.1 1826 13 30 _ .int rfl rfl
          have g138 : -2147483648 ≤ (H.1 1826 32) ∧ (H.1 1826 32) ≤ 2147483647 := hrg0.1 1826 13 32 _ .int rfl rfl
          have g139 : -2147483648 ≤ (H.1 1826 29) ∧ (H.1 1826 29) ≤ 2147483647 := hrg0.1 1826 13 29 _ .int rfl rfl
          have g140 : -2147483648 ≤ (H.1 1826 1) ∧ (H.1 1826 1) ≤ 2147483647 := hrg0.1 1826 13 1 _ .int rfl rfl
          have g141 : -2147483648 ≤ (H.1 1826 39) ∧ (H.1 1826 39) ≤ 2147483647 := hrg0.1 1826 13 39 _ .int rfl rfl
          exact ⟨⟨t, rfl, by omega, by omega⟩, (fr_o (fr_o (fr_o (fr_rf _ _ _) (by decide)) (by decide)) (by decide)), (by omega : (H.1 1826 30) ≤ (H.1 1826 30) ∧ (H.1 1826 30) ≤ (H.1 1826 29)), (by omega : 0 ≤ (2 : Int) ∧ (2 : Int) ≤ 5), (by omega : 0 ≤ (H.1 1826 32) ∧ (H.1 1826 32) ≤ 1000), (by omega : (2 : Int) = 0 → (H.1 1826 31) ≠ 0 ∧ ((H.1 1826 31) = 0 ∨ (H.1 1826 30) < (H.1 1826 30))), (by omega : ((H.1 1826 44) ≠ 2 → (H.1 1826 39) = (H.1 1826 39)) ∧ (H.1 1826 39) ≤ (H.1 1826 39)), (fun (q : (2 : Int) = 0) => absurd q (by omega))⟩
  · refine h_run 1 (pc' := 10) (l' := [(0, .inr (.inr 1826)), (1, .inl t), (2, .inl h)]) (st' := [.inr (.inr 1826)]) rfl ?_
    have g142 : -2147483648 ≤ (H.1 1826 35) ∧ (H.1 1826 35) ≤ 2147483647 := hrg0.1 1826 13 35 _ .int rfl rfl
    have g143 : -2147483648 ≤ (H.1 1826 41) ∧ (H.1 1826 41) ≤ 2147483647 := hrg0.1 1826 13 41 _ .int rfl rfl
    by_cases b144 : (H.1 1826 41) = 10
    · refine h_cv (i := 357) (j := 176) (b := 1826) (M' := mt_176) (xs := []) (rest := []) rfl rfl rfl rfl rfl rfl (Nat.le_of_ble_eq_true rfl) (Nat.le_of_ble_eq_true rfl) (by omega) (m_deepB (by omega) (by omega : (H.1 1826 35) = 0) (by omega : (H.1 1826 41) = 10)) ?_
      rintro _ _ ⟨rfl, rfl⟩
      refine h_run 0 (pc' := 13) (l' := [(0, .inr (.inr 1826)), (1, .inl t), (2, .inl h)]) (st' := []) rfl ?_
      refine h_run 1 (pc' := 14) (l' := [(0, .inr (.inr 1826)), (1, .inl t), (2, .inl h)]) (st' := [.inr (.inr 1826)]) rfl ?_
      refine h_cv (i := 293) (j := 158) (b := 1826) (M' := mt_158) (xs := []) (rest := []) rfl rfl rfl rfl rfl rfl (Nat.le_of_ble_eq_true rfl) (Nat.le_of_ble_eq_true rfl) (by omega) (m_good0 (by omega) (by omega : (5 : Int) ≠ 0)) ?_
      rintro _ _ ⟨rfl, rfl⟩
      refine h_run 0 (pc' := 17) (l' := [(0, .inr (.inr 1826)), (1, .inl t), (2, .inl h)]) (st' := [.inl 0]) rfl ?_
      refine h_zeq (off := 15) (t := 32) rfl rfl (by decide) (fun _ => ?_) (fun c => absurd c (by decide))
      refine h_run 1 (pc' := 33) (l' := [(0, .inr (.inr 1826)), (1, .inl t), (2, .inl h)]) (st' := [.inl t]) rfl ?_
      refine h_reti (x := t) rfl rfl ?_
      have g145 : -2147483648 ≤ (H.1 1826 30) ∧ (H.1 1826 30) ≤ 2147483647 := hrg0.1 1826 13 30 _ .int rfl rfl
      have g146 : -2147483648 ≤ (H.1 1826 32) ∧ (H.1 1826 32) ≤ 2147483647 := hrg0.1 1826 13 32 _ .int rfl rfl
      have g147 : -2147483648 ≤ (H.1 1826 29) ∧ (H.1 1826 29) ≤ 2147483647 := hrg0.1 1826 13 29 _ .int rfl rfl
      have g148 : -2147483648 ≤ (H.1 1826 1) ∧ (H.1 1826 1) ≤ 2147483647 := hrg0.1 1826 13 1 _ .int rfl rfl
      have g149 : -2147483648 ≤ (H.1 1826 39) ∧ (H.1 1826 39) ≤ 2147483647 := hrg0.1 1826 13 39 _ .int rfl rfl
      have g150 : -2147483648 ≤ (H.1 1826 44) ∧ (H.1 1826 44) ≤ 2147483647 := hrg0.1 1826 13 44 _ .int rfl rfl
      exact ⟨⟨t, rfl, by omega, by omega⟩, (fr_o (fr_o (fr_o (fr_rf _ _ _) (by decide)) (by decide)) (by decide)), (by omega : (H.1 1826 30) ≤ (H.1 1826 30) ∧ (H.1 1826 30) ≤ (H.1 1826 29)), (by omega : 0 ≤ (5 : Int) ∧ (5 : Int) ≤ 5), (by omega : 0 ≤ (H.1 1826 32) ∧ (H.1 1826 32) ≤ 1000), (by omega : (5 : Int) = 0 → (H.1 1826 31) ≠ 0 ∧ ((H.1 1826 31) = 0 ∨ (H.1 1826 30) < (H.1 1826 30))), (by omega : ((H.1 1826 44) ≠ 2 → (H.1 1826 39) = (H.1 1826 39)) ∧ (H.1 1826 39) ≤ (H.1 1826 39)), (fun (q : (5 : Int) = 0) => absurd q (by omega))⟩
    · refine h_cv (i := 357) (j := 176) (b := 1826) (M' := mt_176) (xs := []) (rest := []) rfl rfl rfl rfl rfl rfl (Nat.le_of_ble_eq_true rfl) (Nat.le_of_ble_eq_true rfl) (by omega) (m_deepA (by omega) (by omega : (H.1 1826 35) = 0) (by omega : 0 ≤ (H.1 1826 41) ∧ (H.1 1826 41) ≤ 1000) (by omega : (H.1 1826 41) ≠ 10)) ?_
      rintro _ _ ⟨rfl, rfl⟩
      refine h_run 0 (pc' := 13) (l' := [(0, .inr (.inr 1826)), (1, .inl t), (2, .inl h)]) (st' := []) rfl ?_
      refine h_run 1 (pc' := 14) (l' := [(0, .inr (.inr 1826)), (1, .inl t), (2, .inl h)]) (st' := [.inr (.inr 1826)]) rfl ?_
      refine h_cv (i := 293) (j := 158) (b := 1826) (M' := mt_158) (xs := []) (rest := []) rfl rfl rfl rfl rfl rfl (Nat.le_of_ble_eq_true rfl) (Nat.le_of_ble_eq_true rfl) (by omega) (m_good1 (by omega) (by omega : (H.1 1826 35) = 0)) ?_
      rintro _ _ ⟨rfl, rfl⟩
      refine h_run 0 (pc' := 17) (l' := [(0, .inr (.inr 1826)), (1, .inl t), (2, .inl h)]) (st' := [.inl 1]) rfl ?_
      refine h_zeq (off := 15) (t := 32) rfl rfl (by decide) (fun c => absurd c (by decide)) (fun _ => ?_)
      refine h_run 3 (pc' := 25) (l' := [(0, .inr (.inr 1826)), (1, .inl t), (2, .inl h)]) (st' := [.inl t, .inl 5000, .inr (.inr 1826)]) rfl ?_
      have g151 : -2147483648 ≤ (H.1 1826 47) ∧ (H.1 1826 47) ≤ 2147483647 := hrg0.1 1826 13 47 _ .int rfl rfl
      refine h_cv (i := 364) (j := 181) (b := 1826) (M' := mt_181) (xs := [.inl t, .inl 5000]) (rest := []) rfl rfl rfl rfl rfl rfl (Nat.le_of_ble_eq_true rfl) (Nat.le_of_ble_eq_true rfl) (by omega) (m_enter (by omega) (by omega : 0 ≤ (H.1 1826 47) ∧ (H.1 1826 47) ≤ 63) (by omega) (by omega)) ?_
      rintro _ _ ⟨rfl, rfl⟩
      refine h_run 0 (pc' := 28) (l' := [(0, .inr (.inr 1826)), (1, .inl t), (2, .inl h)]) (st' := []) rfl ?_
      refine h_run 1 (pc' := 29) (l' := [(0, .inr (.inr 1826)), (1, .inl t), (2, .inl h)]) (st' := [.inr (.inr 1826)]) rfl ?_
      have g152 : -2147483648 ≤ (H.1 1826 30) ∧ (H.1 1826 30) ≤ 2147483647 := hrg0.1 1826 13 30 _ .int rfl rfl
      have g153 : -2147483648 ≤ (H.1 1826 29) ∧ (H.1 1826 29) ≤ 2147483647 := hrg0.1 1826 13 29 _ .int rfl rfl
      have g154 : -2147483648 ≤ (H.1 1826 32) ∧ (H.1 1826 32) ≤ 2147483647 := hrg0.1 1826 13 32 _ .int rfl rfl
      refine h_cv (i := 297) (j := 165) (b := 1826) (M' := mt_165) (xs := []) (rest := []) rfl rfl rfl rfl rfl rfl (Nat.le_of_ble_eq_true rfl) (Nat.le_of_ble_eq_true rfl) (by omega) (m_next (by omega) (by omega : 0 ≤ (H.1 1826 30) ∧ (H.1 1826 30) ≤ (H.1 1826 29) ∧ (H.1 1826 29) ≤ 1000) (by omega : 0 ≤ (H.1 1826 35) ∧ (H.1 1826 35) ≤ 5) (by omega : 0 ≤ (H.1 1826 32) ∧ (H.1 1826 32) ≤ 1000)) ?_
      rintro _ H155 ⟨rfl, hx155f, hx155a, hx155b, hx155c, -, hx155e, hx155g⟩
      refine h_rng (fun hrg156 => ?_)
      have hf157 : fr [30, 31, 32, 33, 35, 36, 39, 40, 41, 43, 47] [1849, 1850, 1851, 1852, 1853, 1854] H H155 := fr_t (fr_o (fr_a (fr_a (fr_a (fr_o (fr_rf _ _ _) (by decide)) (by decide)) (by decide)) (by decide)) (by decide)) hx155f (by decide) (by decide)
      replace hx155a : (H.1 1826 30) ≤ (H155.1 1826 30) := hx155a
      replace hx155b : (H155.1 1826 30) ≤ (H.1 1826 29) := hx155b
      replace hx155g : (H155.1 1826 35) = 0 → ((H155.1 1826 31) = 0 ∨ (H.1 1826 30) < (H155.1 1826 30)) := hx155g
      refine h_run 0 (pc' := 32) (l' := [(0, .inr (.inr 1826)), (1, .inl t), (2, .inl h)]) (st' := []) rfl ?_
      refine h_run 1 (pc' := 33) (l' := [(0, .inr (.inr 1826)), (1, .inl t), (2, .inl h)]) (st' := [.inl t]) rfl ?_
      refine h_reti (x := t) rfl rfl ?_
      have g158 : -2147483648 ≤ (H155.1 1826 30) ∧ (H155.1 1826 30) ≤ 2147483647 := hrg156.1 1826 13 30 _ .int rfl rfl
      have g159 : -2147483648 ≤ (H155.1 1826 35) ∧ (H155.1 1826 35) ≤ 2147483647 := hrg156.1 1826 13 35 _ .int rfl rfl
      have g160 : -2147483648 ≤ (H155.1 1826 32) ∧ (H155.1 1826 32) ≤ 2147483647 := hrg156.1 1826 13 32 _ .int rfl rfl
      have g161 : -2147483648 ≤ (H155.1 1826 29) ∧ (H155.1 1826 29) ≤ 2147483647 := hrg156.1 1826 13 29 _ .int rfl rfl
      have e162 : (H155.1 1826 29) = (H.1 1826 29) := hx155f.2.2 29 (by decide)
      have g163 : -2147483648 ≤ (H155.1 1826 31) ∧ (H155.1 1826 31) ≤ 2147483647 := hrg156.1 1826 13 31 _ .int rfl rfl
      have g164 : -2147483648 ≤ (H155.1 1826 1) ∧ (H155.1 1826 1) ≤ 2147483647 := hrg156.1 1826 13 1 _ .int rfl rfl
      have e165 : (H155.1 1826 1) = (H.1 1826 1) := hx155f.2.2 1 (by decide)
      have g166 : -2147483648 ≤ (H155.1 1826 39) ∧ (H155.1 1826 39) ≤ 2147483647 := hrg156.1 1826 13 39 _ .int rfl rfl
      have e167 : (H155.1 1826 39) = (H.1 1826 39) := hx155f.2.2 39 (by decide)
      have g168 : -2147483648 ≤ (H155.1 1826 44) ∧ (H155.1 1826 44) ≤ 2147483647 := hrg156.1 1826 13 44 _ .int rfl rfl
      have e169 : (H155.1 1826 44) = (H.1 1826 44) := hx155f.2.2 44 (by decide)
      exact ⟨⟨t, rfl, by omega, by omega⟩, hf157, (by omega : (H.1 1826 30) ≤ (H155.1 1826 30) ∧ (H155.1 1826 30) ≤ (H.1 1826 29)), (by omega : 0 ≤ (H155.1 1826 35) ∧ (H155.1 1826 35) ≤ 5), (by omega : 0 ≤ (H155.1 1826 32) ∧ (H155.1 1826 32) ≤ 1000), (by omega : (H155.1 1826 35) = 0 → (H.1 1826 31) ≠ 0 ∧ ((H155.1 1826 31) = 0 ∨ (H.1 1826 30) < (H155.1 1826 30))), (by omega : ((H.1 1826 44) ≠ 2 → (H155.1 1826 39) = (H.1 1826 39)) ∧ (H.1 1826 39) ≤ (H155.1 1826 39)), fun _ => TT_open (t := t) hTT ⟨⟨(hx155f.2.2 1 (by decide)), (hx155f.2.2 3 (by decide)), (hx155f.2.2 8 (by decide)), (hx155f.2.2 44 (by decide))⟩, (hx155f.2.1 1833 (by decide) (by decide)), (hx155f.2.1 1830 (by decide) (by decide))⟩ (by omega) (by omega) ⟨(hx155f.2.2 40 (by decide)), (hx155f.2.2 43 (by decide)), (hx155f.2.2 41 (by decide))⟩ (hx155f.2.1 1851 (by decide) (by decide)) ⟨(hx155f.2.2 39 (by decide)), (hx155f.2.1 1850 (by decide) (by decide))⟩ (hx155f.2.2 47 (by decide)) (hx155f.2.1 1852 (by decide) (by decide)) (hx155f.2.1 1853 (by decide) (by decide)) (hx155f.2.1 1854 (by decide) (by decide))⟩

/-- how long reading a term can go on: 0 at the outer loop's head, 1 at the inner one's with a term wanted, 2 without -/
def mv (wk tok a sz ou : Int) (b : Nat) : Nat := if wk = 0 then 1000 * mu wk tok a sz + (if b = 0 then 1 else if b = 1 then 2 else 2 * ou.toNat + 3) else b
theorem mu_pos {wk tok a sz : Int} (h : wk = 0) : 1 ≤ mu wk tok a sz := by
  unfold mu
  rw [if_pos h]
  have : 1 ≤ if tok = 0 then 1 else 2 := by
    split <;> omega
  omega
theorem mv_0 {wk tok a sz ou : Int} (h : wk = 0) : mv wk tok a sz ou 0 = 1000 * mu wk tok a sz + 1 := by
  unfold mv
  rw [if_pos h]
  rfl
theorem mv_1 {wk tok a sz ou : Int} (h : wk = 0) : mv wk tok a sz ou 1 = 1000 * mu wk tok a sz + 2 := by
  unfold mv
  rw [if_pos h]
  rfl
theorem mv_2 {wk tok a sz ou : Int} (h : wk = 0) : mv wk tok a sz ou 2 = 1000 * mu wk tok a sz + (2 * ou.toNat + 3) := by
  unfold mv
  rw [if_pos h]
  rfl
theorem mv_b {wk tok a sz ou : Int} {b : Nat} (h : wk ≠ 0) : mv wk tok a sz ou b = b := by
  unfold mv
  rw [if_neg h]
/-- tokens were used up, or there is a fault -/
theorem mv_tok {wk tok a sz ou wk' tok' a' ou' : Int} {b w : Nat} (hw : mv wk tok a sz ou b < w + 1) (hb : b = 0 ∨ b = 2) (h0 : wk = 0) (h : wk' ≠ 0 ∨ (ou' ≤ 100 ∧ a ≤ a' ∧ a' ≤ sz ∧ ((tok' = 0 ∧ tok ≠ 0) ∨ a < a'))) : mv wk' tok' a' sz ou' 2 < w := by
  have hp := mu_pos (tok := tok) (a := a) (sz := sz) h0
  have h1 : 1000 * mu wk tok a sz + 1 < w + 1 := by
    rcases hb with rfl | rfl
    · rw [mv_0 h0] at hw
      exact hw
    · rw [mv_2 h0] at hw
      omega
  by_cases hk : wk' = 0
  · have h2 : mu wk' tok' a' sz < mu wk tok a sz := mu_lt (Nat.lt_succ_self _) h0 (by omega)
    rw [mv_2 hk]
    omega
  · rw [mv_b hk]
    omega
theorem mv_pop {wk tok a sz ou ou' : Int} {w : Nat} (hw : mv wk tok a sz ou 2 < w + 1) (h0 : wk = 0) (h : 0 ≤ ou' ∧ ou' < ou) : mv wk tok a sz ou' 2 < w := by
  rw [mv_2 h0] at hw ⊢
  omega
theorem mv_ask {wk tok a sz ou ou' : Int} {w : Nat} (hw : mv wk tok a sz ou 2 < w + 1) (h0 : wk = 0) : mv wk tok a sz ou' 1 < w := by
  rw [mv_2 h0] at hw
  rw [mv_1 h0]
  omega
theorem mv_out {wk tok a sz ou ou' : Int} {w : Nat} (hw : mv wk tok a sz ou 1 < w + 1) : mv wk tok a sz ou' 0 < w := by
  by_cases h0 : wk = 0
  · rw [mv_1 h0] at hw
    rw [mv_0 h0]
    omega
  · rw [mv_b h0] at hw ⊢
    omega

/-! term -/
set_option maxRecDepth 100000 in
theorem m_term_cut {zC : Nat → Option zsh} {d : Nat} (hd : 7 ≤ d) {H : hp} {t : Int} (h0 : 0 ≤ (H.1 1826 30) ∧ (H.1 1826 30) ≤ (H.1 1826 29) ∧ (H.1 1826 29) ≤ 1000) (hw : 0 ≤ (H.1 1826 35) ∧ (H.1 1826 35) ≤ 5) (hst : 0 ≤ (H.1 1826 32) ∧ (H.1 1826 32) ≤ 1000) (hP : PWc H) (hso : 1 ≤ (H.1 1826 44) ∧ (H.1 1826 44) ≤ 3) (ht : -1 ≤ t ∧ t < (H.1 1826 1)) (hop : 0 ≤ (H.1 1826 41) ∧ (H.1 1826 41) ≤ 10) (hs0 : (H.1 1826 35) = 0 → (H.1 1826 41) = 0 ∧ (H.1 1826 40) = 0 ∧ (H.1 1826 43) = 0 ∧ (0 ≤ (H.1 1826 39) ∧ (H.1 1826 39) ≤ 39 ∧ ((H.1 1826 44) = 2 → (H.1 1826 39) ≤ 6)) ∧ ((H.1 1826 44) = 2 → ∀ v : Nat, (v : Int) < (H.1 1826 39) → 0 ≤ (H.1 1850) v ∧ (H.1 1850) v < (H.1 1826 1))) : ∀ w : Nat, (∀ (H1 : hp) (fi : Int) (wt : Int) (hd9 : Int) (dp : Int), (fr [30, 31, 32, 33, 35, 36, 39, 40, 41, 43, 47] [1849, 1850, 1851, 1852, 1853, 1854] H H1) → ((H.1 1826 30) ≤ (H1.1 1826 30) ∧ (H1.1 1826 30) ≤ (H.1 1826 29)) → (0 ≤ (H1.1 1826 35) ∧ (H1.1 1826 35) ≤ 5) → (0 ≤ (H1.1 1826 32) ∧ (H1.1 1826 32) ≤ 1000) → ((H.1 1826 35) ≠ 0 → (H1.1 1826 35) ≠ 0) → (((H.1 1826 44) ≠ 2 → (H1.1 1826 39) = (H.1 1826 39)) ∧ (H.1 1826 39) ≤ (H1.1 1826 39)) → (-1 ≤ fi ∧ fi < (H.1 1826 1)) → (-1 ≤ wt ∧ wt < (H.1 1826 1)) → (0 ≤ hd9 ∧ hd9 ≤ 1) → (0 ≤ dp ∧ dp ≤ 10) → (hid ((H1.1 1826 35) = 0 → TT H1 1)) → mv (H1.1 1826 35) (H1.1 1826 31) (H1.1 1826 30) (H.1 1826 29) (H1.1 1826 47) 0 < w → hG (zs zC) d mt_180 21 [(0, .inr (.inr 1826)), (2, .inl fi), (3, .inl 1), (4, .inl wt), (5, .inl hd9), (6, .inl dp)] [] H1 (fun r H2 => (∃ r0 : Int, r = some (.inl r0) ∧ -1 ≤ r0 ∧ r0 < (H.1 1826 1)) ∧ fr [30, 31, 32, 33, 35, 36, 39, 40, 41, 43, 47] [1849, 1850, 1851, 1852, 1853, 1854] H H2 ∧ ((H.1 1826 30) ≤ (H2.1 1826 30) ∧ (H2.1 1826 30) ≤ (H.1 1826 29)) ∧ (0 ≤ (H2.1 1826 35) ∧ (H2.1 1826 35) ≤ 5) ∧ ((H.1 1826 35) ≠ 0 → (H2.1 1826 35) ≠ 0) ∧ (0 ≤ (H2.1 1826 32) ∧ (H2.1 1826 32) ≤ 1000) ∧ (((H.1 1826 44) ≠ 2 → (H2.1 1826 39) = (H.1 1826 39)) ∧ (H.1 1826 39) ≤ (H2.1 1826 39)) ∧ hid ((H2.1 1826 35) = 0 → (∃ k : Nat, (H2.1 1826 43) = k ∧ k ≤ 40 ∧ tm (ma (H2.1 1833) (H2.1 1830)) (m_sg (H2.1 1826 3) (H2.1 1826 8) (H2.1 1826 39)) (H2.1 1851) k 0 1) ∧ TT H2 0))) ∧ (∀ (H1 : hp) (fi : Int) (wt : Int) (hd9 : Int) (dp : Int) (b : Nat), (fr [30, 31, 32, 33, 35, 36, 39, 40, 41, 43, 47] [1849, 1850, 1851, 1852, 1853, 1854] H H1) → ((H.1 1826 30) ≤ (H1.1 1826 30) ∧ (H1.1 1826 30) ≤ (H.1 1826 29)) → (0 ≤ (H1.1 1826 35) ∧ (H1.1 1826 35) ≤ 5) → (0 ≤ (H1.1 1826 32) ∧ (H1.1 1826 32) ≤ 1000) → ((H.1 1826 35) ≠ 0 → (H1.1 1826 35) ≠ 0) → (((H.1 1826 44) ≠ 2 → (H1.1 1826 39) = (H.1 1826 39)) ∧ (H.1 1826 39) ≤ (H1.1 1826 39)) → (-1 ≤ fi ∧ fi < (H.1 1826 1)) → (-1 ≤ wt ∧ wt < (H.1 1826 1)) → (0 ≤ hd9 ∧ hd9 ≤ 1) → (0 ≤ dp ∧ dp ≤ 10) → (b ≤ 1) → (hid ((H1.1 1826 35) = 0 → TT H1 (b : Int))) → mv (H1.1 1826 35) (H1.1 1826 31) (H1.1 1826 30) (H.1 1826 29) (H1.1 1826 47) (2 - b) < w → hG (zs zC) d mt_180 56 [(0, .inr (.inr 1826)), (2, .inl fi), (3, .inl (b : Int)), (4, .inl wt), (5, .inl hd9), (6, .inl dp)] [] H1 (fun r H2 => (∃ r0 : Int, r = some (.inl r0) ∧ -1 ≤ r0 ∧ r0 < (H.1 1826 1)) ∧ fr [30, 31, 32, 33, 35, 36, 39, 40, 41, 43, 47] [1849, 1850, 1851, 1852, 1853, 1854] H H2 ∧ ((H.1 1826 30) ≤ (H2.1 1826 30) ∧ (H2.1 1826 30) ≤ (H.1 1826 29)) ∧ (0 ≤ (H2.1 1826 35) ∧ (H2.1 1826 35) ≤ 5) ∧ ((H.1 1826 35) ≠ 0 → (H2.1 1826 35) ≠ 0) ∧ (0 ≤ (H2.1 1826 32) ∧ (H2.1 1826 32) ≤ 1000) ∧ (((H.1 1826 44) ≠ 2 → (H2.1 1826 39) = (H.1 1826 39)) ∧ (H.1 1826 39) ≤ (H2.1 1826 39)) ∧ hid ((H2.1 1826 35) = 0 → (∃ k : Nat, (H2.1 1826 43) = k ∧ k ≤ 40 ∧ tm (ma (H2.1 1833) (H2.1 1830)) (m_sg (H2.1 1826 3) (H2.1 1826 8) (H2.1 1826 39)) (H2.1 1851) k 0 1) ∧ TT H2 0))) := by
  intro w
  induction w with
  | zero => exact ⟨fun _ _ _ _ _ _ _ _ _ _ _ _ _ _ _ _ h => absurd h (Nat.not_lt_zero _), fun _ _ _ _ _ _ _ _ _ _ _ _ _ _ _ _ _ _ h => absurd h (Nat.not_lt_zero _)⟩
  | succ w ih =>
    refine ⟨?_, ?_⟩
    · intro H1 fi wt hd9 dp hf ha hk hst1 hwk hvs hfi hwt hhd hdp hTT hw
      refine h_rng (fun hrg1 => ?_)
      have ety : (H1.1 1826 1) = (H.1 1826 1) := hf.2.2 1 (by decide)
      have eco : (H1.1 1826 3) = (H.1 1826 3) := hf.2.2 3 (by decide)
      have efu : (H1.1 1826 8) = (H.1 1826 8) := hf.2.2 8 (by decide)
      have eso : (H1.1 1826 44) = (H.1 1826 44) := hf.2.2 44 (by decide)
      have hP1 := PWc_fr hP hf (by decide) (by decide)
      refine h_run 1 (pc' := 22) (l' := [(0, .inr (.inr 1826)), (2, .inl fi), (3, .inl 1), (4, .inl wt), (5, .inl hd9), (6, .inl dp)]) (st' := [.inr (.inr 1826)]) rfl ?_
      have g2 : -2147483648 ≤ (H1.1 1826 35) ∧ (H1.1 1826 35) ≤ 2147483647 := hrg1.1 1826 13 35 _ .int rfl rfl
      refine h_cv (i := 293) (j := 158) (b := 1826) (M' := mt_158) (xs := []) (rest := []) rfl rfl rfl rfl rfl rfl (Nat.le_of_ble_eq_true rfl) (Nat.le_of_ble_eq_true rfl) (by omega) (m_good (by omega)) ?_
      rintro _ _ ⟨⟨rfl, b3⟩ | ⟨rfl, b3⟩, rfl⟩
      · have b3x : (H1.1 1826 35) = 0 := b3
        refine h_run 0 (pc' := 25) (l' := [(0, .inr (.inr 1826)), (2, .inl fi), (3, .inl 1), (4, .inl wt), (5, .inl hd9), (6, .inl dp)]) (st' := [.inl 1]) rfl ?_
        refine h_zeq (off := 227) (t := 252) rfl rfl (by decide) (fun c => absurd c (by decide)) (fun _ => ?_)
        refine h_run 1 (pc' := 29) (l' := [(0, .inr (.inr 1826)), (2, .inl fi), (3, .inl 1), (4, .inl wt), (5, .inl hd9), (6, .inl dp)]) (st' := [.inl 1]) rfl ?_
        refine h_zeq (off := 25) (t := 54) rfl rfl (by decide) (fun c => absurd c (by decide)) (fun _ => ?_)
        have hw0 : (H.1 1826 35) = 0 := by omega
        clear hwk
        have hT1 : TT H1 1 := hTT (by omega)
        obtain ⟨n, m, k, ⟨ta1, ta2, ta3, ta4⟩, ⟨tb1, tb2, tb3⟩, -, tS, -, -⟩ := id hT1
        have tcb := cb_nn (ou := (H1.1 1852)) (n := n)
        refine h_run 3 (pc' := 37) (l' := [(0, .inr (.inr 1826)), (2, .inl fi), (3, .inl 1), (4, .inl wt), (5, .inl hd9), (6, .inl dp)]) (st' := [.inl hd9, .inl wt, .inr (.inr 1826)]) rfl ?_
        have g4 : -2147483648 ≤ (H1.1 1826 30) ∧ (H1.1 1826 30) ≤ 2147483647 := hrg1.1 1826 13 30 _ .int rfl rfl
        have g5 : -2147483648 ≤ (H1.1 1826 29) ∧ (H1.1 1826 29) ≤ 2147483647 := hrg1.1 1826 13 29 _ .int rfl rfl
        have e6 : (H1.1 1826 29) = (H.1 1826 29) := hf.2.2 29 (by decide)
        have g7 : -2147483648 ≤ (H1.1 1826 44) ∧ (H1.1 1826 44) ≤ 2147483647 := hrg1.1 1826 13 44 _ .int rfl rfl
        have e8 : (H1.1 1826 44) = (H.1 1826 44) := hf.2.2 44 (by decide)
        have g9 : -2147483648 ≤ (H1.1 1826 1) ∧ (H1.1 1826 1) ≤ 2147483647 := hrg1.1 1826 13 1 _ .int rfl rfl
        have e10 : (H1.1 1826 1) = (H.1 1826 1) := hf.2.2 1 (by decide)
        have g12 : -2147483648 ≤ (H1.1 1826 31) ∧ (H1.1 1826 31) ≤ 2147483647 := hrg1.1 1826 13 31 _ .int rfl rfl
        have g13 : -2147483648 ≤ (H1.1 1826 39) ∧ (H1.1 1826 39) ≤ 2147483647 := hrg1.1 1826 13 39 _ .int rfl rfl
        have g14 : -2147483648 ≤ (H1.1 1826 32) ∧ (H1.1 1826 32) ≤ 2147483647 := hrg1.1 1826 13 32 _ .int rfl rfl
        refine h_cv (i := 360) (j := 182) (b := 1826) (M' := mt_182) (xs := [.inl hd9, .inl wt]) (rest := []) rfl rfl rfl rfl rfl rfl (Nat.le_of_ble_eq_true rfl) (Nat.le_of_ble_eq_true rfl) (by omega) (m_head (by omega) (by omega : 0 ≤ (H1.1 1826 30) ∧ (H1.1 1826 30) ≤ (H1.1 1826 29) ∧ (H1.1 1826 29) ≤ 1000) (by omega : 0 ≤ (H1.1 1826 35) ∧ (H1.1 1826 35) ≤ 5) (by omega : 0 ≤ (H1.1 1826 32) ∧ (H1.1 1826 32) ≤ 1000) (by omega : (H1.1 1826 35) = 0) hP1 hT1 (by omega : 1 ≤ (H1.1 1826 44) ∧ (H1.1 1826 44) ≤ 3) (by omega) (by omega)) ?_
        rintro _ H11 ⟨⟨hx11r, rfl, hx11x, hx11y⟩, hx11f, hx11a, hx11c, hx11e, hx11g, hx11v, hx11p⟩
        refine h_rng (fun hrg15 => ?_)
        have hf16 : fr [30, 31, 32, 33, 35, 36, 39, 40, 41, 43, 47] [1849, 1850, 1851, 1852, 1853, 1854] H H11 := fr_t hf hx11f (by decide) (by decide)
        replace hx11y : hx11r < (H1.1 1826 1) := hx11y
        replace hx11a : (H1.1 1826 30) ≤ (H11.1 1826 30) ∧ (H11.1 1826 30) ≤ (H1.1 1826 29) := hx11a
        replace hx11g : (H11.1 1826 35) = 0 → (H1.1 1826 31) ≠ 0 ∧ ((H11.1 1826 31) = 0 ∨ (H1.1 1826 30) < (H11.1 1826 30)) := hx11g
        have hx11o : (H11.1 1826 35) = 0 → 0 ≤ (H11.1 1826 47) ∧ (H11.1 1826 47) ≤ 60 := fun q => TT_ou (hx11p q)
        replace hx11v : ((H1.1 1826 44) ≠ 2 → (H11.1 1826 39) = (H1.1 1826 39)) ∧ (H1.1 1826 39) ≤ (H11.1 1826 39) := hx11v
        refine h_run 0 (pc' := 40) (l' := [(0, .inr (.inr 1826)), (2, .inl fi), (3, .inl 1), (4, .inl wt), (5, .inl hd9), (6, .inl dp)]) (st' := [.inl hx11r]) rfl ?_
        refine h_run 3 (pc' := 44) (l' := [(0, .inr (.inr 1826)), (2, .inl fi), (3, .inl 1), (4, .inl wt), (5, .inl hd9), (6, .inl dp), (7, .inl hx11r)]) (st' := [.inl (-1), .inl fi]) rfl ?_
        refine h_ine (off := 8) (t := 52) rfl rfl (by omega) (by decide) (fun c17 => ?_) (fun c17 => ?_)
        · refine h_run 4 (pc' := 56) (l' := [(0, .inr (.inr 1826)), (2, .inl fi), (3, .inl 0), (4, .inl wt), (5, .inl hd9), (6, .inl dp), (7, .inl hx11r)]) (st' := []) rfl ?_
          have g18 : -2147483648 ≤ (H11.1 1826 30) ∧ (H11.1 1826 30) ≤ 2147483647 := hrg15.1 1826 13 30 _ .int rfl rfl
          have g19 : -2147483648 ≤ (H11.1 1826 35) ∧ (H11.1 1826 35) ≤ 2147483647 := hrg15.1 1826 13 35 _ .int rfl rfl
          have g20 : -2147483648 ≤ (H11.1 1826 32) ∧ (H11.1 1826 32) ≤ 2147483647 := hrg15.1 1826 13 32 _ .int rfl rfl
          have g21 : -2147483648 ≤ (H11.1 1826 31) ∧ (H11.1 1826 31) ≤ 2147483647 := hrg15.1 1826 13 31 _ .int rfl rfl
          have g22 : -2147483648 ≤ (H11.1 1826 29) ∧ (H11.1 1826 29) ≤ 2147483647 := hrg15.1 1826 13 29 _ .int rfl rfl
          have e23 : (H11.1 1826 29) = (H1.1 1826 29) := hx11f.2.2 29 (by decide)
          have g24 : -2147483648 ≤ (H11.1 1826 47) ∧ (H11.1 1826 47) ≤ 2147483647 := hrg15.1 1826 13 47 _ .int rfl rfl
          have g25 : -2147483648 ≤ (H11.1 1826 39) ∧ (H11.1 1826 39) ≤ 2147483647 := hrg15.1 1826 13 39 _ .int rfl rfl
          have g26 : -2147483648 ≤ (H11.1 1826 44) ∧ (H11.1 1826 44) ≤ 2147483647 := hrg15.1 1826 13 44 _ .int rfl rfl
          have e27 : (H11.1 1826 44) = (H1.1 1826 44) := hx11f.2.2 44 (by decide)
          refine h_loc [0, 2, 3, 4, 5, 6] rfl ?_
          exact ih.2 _ fi wt hd9 dp 0 hf16 (by omega : (H.1 1826 30) ≤ (H11.1 1826 30) ∧ (H11.1 1826 30) ≤ (H.1 1826 29)) (by omega : 0 ≤ (H11.1 1826 35) ∧ (H11.1 1826 35) ≤ 5) (by omega : 0 ≤ (H11.1 1826 32) ∧ (H11.1 1826 32) ≤ 1000) (by omega : (H.1 1826 35) ≠ 0 → (H11.1 1826 35) ≠ 0) (by omega : ((H.1 1826 44) ≠ 2 → (H11.1 1826 39) = (H.1 1826 39)) ∧ (H.1 1826 39) ≤ (H11.1 1826 39)) (by omega : -1 ≤ fi ∧ fi < (H.1 1826 1)) (by omega : -1 ≤ wt ∧ wt < (H.1 1826 1)) (by omega : 0 ≤ hd9 ∧ hd9 ≤ 1) (by omega : 0 ≤ dp ∧ dp ≤ 10) (by omega) hx11p (mv_tok (b := 0) hw (Or.inl rfl) (by omega) (by omega : (H11.1 1826 35) ≠ 0 ∨ ((H11.1 1826 47) ≤ 100 ∧ (H1.1 1826 30) ≤ (H11.1 1826 30) ∧ (H11.1 1826 30) ≤ (H.1 1826 29) ∧ (((H11.1 1826 31) = 0 ∧ (H1.1 1826 31) ≠ 0) ∨ (H1.1 1826 30) < (H11.1 1826 30)))))
        · refine h_run 5 (pc' := 56) (l' := [(0, .inr (.inr 1826)), (2, .inl hx11r), (3, .inl 0), (4, .inl wt), (5, .inl hd9), (6, .inl dp), (7, .inl hx11r)]) (st' := []) rfl ?_
          have g28 : -2147483648 ≤ (H11.1 1826 30) ∧ (H11.1 1826 30) ≤ 2147483647 := hrg15.1 1826 13 30 _ .int rfl rfl
          have g29 : -2147483648 ≤ (H11.1 1826 35) ∧ (H11.1 1826 35) ≤ 2147483647 := hrg15.1 1826 13 35 _ .int rfl rfl
          have g30 : -2147483648 ≤ (H11.1 1826 32) ∧ (H11.1 1826 32) ≤ 2147483647 := hrg15.1 1826 13 32 _ .int rfl rfl
          have g31 : -2147483648 ≤ (H11.1 1826 31) ∧ (H11.1 1826 31) ≤ 2147483647 := hrg15.1 1826 13 31 _ .int rfl rfl
          have g32 : -2147483648 ≤ (H11.1 1826 29) ∧ (H11.1 1826 29) ≤ 2147483647 := hrg15.1 1826 13 29 _ .int rfl rfl
          have e33 : (H11.1 1826 29) = (H1.1 1826 29) := hx11f.2.2 29 (by decide)
          have g34 : -2147483648 ≤ (H11.1 1826 47) ∧ (H11.1 1826 47) ≤ 2147483647 := hrg15.1 1826 13 47 _ .int rfl rfl
          have g35 : -2147483648 ≤ (H11.1 1826 39) ∧ (H11.1 1826 39) ≤ 2147483647 := hrg15.1 1826 13 39 _ .int rfl rfl
          have g36 : -2147483648 ≤ (H11.1 1826 44) ∧ (H11.1 1826 44) ≤ 2147483647 := hrg15.1 1826 13 44 _ .int rfl rfl
          have e37 : (H11.1 1826 44) = (H1.1 1826 44) := hx11f.2.2 44 (by decide)
          refine h_loc [0, 2, 3, 4, 5, 6] rfl ?_
          exact ih.2 _ hx11r wt hd9 dp 0 hf16 (by omega : (H.1 1826 30) ≤ (H11.1 1826 30) ∧ (H11.1 1826 30) ≤ (H.1 1826 29)) (by omega : 0 ≤ (H11.1 1826 35) ∧ (H11.1 1826 35) ≤ 5) (by omega : 0 ≤ (H11.1 1826 32) ∧ (H11.1 1826 32) ≤ 1000) (by omega : (H.1 1826 35) ≠ 0 → (H11.1 1826 35) ≠ 0) (by omega : ((H.1 1826 44) ≠ 2 → (H11.1 1826 39) = (H.1 1826 39)) ∧ (H.1 1826 39) ≤ (H11.1 1826 39)) (by omega : -1 ≤ hx11r ∧ hx11r < (H.1 1826 1)) (by omega : -1 ≤ wt ∧ wt < (H.1 1826 1)) (by omega : 0 ≤ hd9 ∧ hd9 ≤ 1) (by omega : 0 ≤ dp ∧ dp ≤ 10) (by omega) hx11p (mv_tok (b := 0) hw (Or.inl rfl) (by omega) (by omega : (H11.1 1826 35) ≠ 0 ∨ ((H11.1 1826 47) ≤ 100 ∧ (H1.1 1826 30) ≤ (H11.1 1826 30) ∧ (H11.1 1826 30) ≤ (H.1 1826 29) ∧ (((H11.1 1826 31) = 0 ∧ (H1.1 1826 31) ≠ 0) ∨ (H1.1 1826 30) < (H11.1 1826 30)))))
      · have b3x : (H1.1 1826 35) ≠ 0 := b3
        refine h_run 0 (pc' := 25) (l' := [(0, .inr (.inr 1826)), (2, .inl fi), (3, .inl 1), (4, .inl wt), (5, .inl hd9), (6, .inl dp)]) (st' := [.inl 0]) rfl ?_
        refine h_zeq (off := 227) (t := 252) rfl rfl (by decide) (fun _ => ?_) (fun c => absurd c (by decide))
        refine h_run 2 (pc' := 255) (l' := [(0, .inr (.inr 1826)), (2, .inl fi), (3, .inl 1), (4, .inl wt), (5, .inl hd9), (6, .inl dp)]) (st' := [.inl dp, .inr (.inr 1826)]) rfl ?_
        refine h_puti (i := 335) (ci := 13) (k := 41) (a := 1826) (x := dp) rfl rfl rfl rfl rfl rfl (by decide) (by omega) ?_
        refine h_run 1 (pc' := 259) (l' := [(0, .inr (.inr 1826)), (2, .inl fi), (3, .inl 1), (4, .inl wt), (5, .inl hd9), (6, .inl dp)]) (st' := [.inl fi]) rfl ?_
        refine h_reti (x := fi) rfl rfl ?_
        have g38 : -2147483648 ≤ (H1.1 1826 30) ∧ (H1.1 1826 30) ≤ 2147483647 := hrg1.1 1826 13 30 _ .int rfl rfl
        have g39 : -2147483648 ≤ (H1.1 1826 32) ∧ (H1.1 1826 32) ≤ 2147483647 := hrg1.1 1826 13 32 _ .int rfl rfl
        have g40 : -2147483648 ≤ (H1.1 1826 29) ∧ (H1.1 1826 29) ≤ 2147483647 := hrg1.1 1826 13 29 _ .int rfl rfl
        have e41 : (H1.1 1826 29) = (H.1 1826 29) := hf.2.2 29 (by decide)
        have g42 : -2147483648 ≤ (H1.1 1826 1) ∧ (H1.1 1826 1) ≤ 2147483647 := hrg1.1 1826 13 1 _ .int rfl rfl
        have e43 : (H1.1 1826 1) = (H.1 1826 1) := hf.2.2 1 (by decide)
        have g44 : -2147483648 ≤ (H1.1 1826 39) ∧ (H1.1 1826 39) ≤ 2147483647 := hrg1.1 1826 13 39 _ .int rfl rfl
        have g45 : -2147483648 ≤ (H1.1 1826 44) ∧ (H1.1 1826 44) ≤ 2147483647 := hrg1.1 1826 13 44 _ .int rfl rfl
        have e46 : (H1.1 1826 44) = (H.1 1826 44) := hf.2.2 44 (by decide)
        exact ⟨⟨fi, rfl, by omega, by omega⟩, (fr_o hf (by decide)), (by omega : (H.1 1826 30) ≤ (H1.1 1826 30) ∧ (H1.1 1826 30) ≤ (H.1 1826 29)), (by omega : 0 ≤ (H1.1 1826 35) ∧ (H1.1 1826 35) ≤ 5), (by omega : (H.1 1826 35) ≠ 0 → (H1.1 1826 35) ≠ 0), (by omega : 0 ≤ (H1.1 1826 32) ∧ (H1.1 1826 32) ≤ 1000), (by omega : ((H.1 1826 44) ≠ 2 → (H1.1 1826 39) = (H.1 1826 39)) ∧ (H.1 1826 39) ≤ (H1.1 1826 39)), (fun (q : (H1.1 1826 35) = 0) => absurd q (by omega))⟩
    · intro H1 fi wt hd9 dp b hf ha hk hst1 hwk hvs hfi hwt hhd hdp hb hTT hw
      refine h_rng (fun hrg47 => ?_)
      have ety : (H1.1 1826 1) = (H.1 1826 1) := hf.2.2 1 (by decide)
      have eco : (H1.1 1826 3) = (H.1 1826 3) := hf.2.2 3 (by decide)
      have efu : (H1.1 1826 8) = (H.1 1826 8) := hf.2.2 8 (by decide)
      have eso : (H1.1 1826 44) = (H.1 1826 44) := hf.2.2 44 (by decide)
      have hP1 := PWc_fr hP hf (by decide) (by decide)
      refine h_run 1 (pc' := 57) (l' := [(0, .inr (.inr 1826)), (2, .inl fi), (3, .inl (b : Int)), (4, .inl wt), (5, .inl hd9), (6, .inl dp)]) (st' := [.inr (.inr 1826)]) rfl ?_
      have g48 : -2147483648 ≤ (H1.1 1826 35) ∧ (H1.1 1826 35) ≤ 2147483647 := hrg47.1 1826 13 35 _ .int rfl rfl
      refine h_cv (i := 293) (j := 158) (b := 1826) (M' := mt_158) (xs := []) (rest := []) rfl rfl rfl rfl rfl rfl (Nat.le_of_ble_eq_true rfl) (Nat.le_of_ble_eq_true rfl) (by omega) (m_good (by omega)) ?_
      rintro _ _ ⟨⟨rfl, b49⟩ | ⟨rfl, b49⟩, rfl⟩
      · have b49x : (H1.1 1826 35) = 0 := b49
        refine h_run 0 (pc' := 60) (l' := [(0, .inr (.inr 1826)), (2, .inl fi), (3, .inl (b : Int)), (4, .inl wt), (5, .inl hd9), (6, .inl dp)]) (st' := [.inl 1]) rfl ?_
        refine h_zeq (off := 186) (t := 246) rfl rfl (by decide) (fun c => absurd c (by decide)) (fun _ => ?_)
        refine h_run 1 (pc' := 64) (l' := [(0, .inr (.inr 1826)), (2, .inl fi), (3, .inl (b : Int)), (4, .inl wt), (5, .inl hd9), (6, .inl dp)]) (st' := [.inl (b : Int)]) rfl ?_
        refine h_zne (off := 182) (t := 246) rfl rfl (by omega) (fun c50 => ?_) (fun c50 => ?_)
        · skip
          refine h_run 1 (pc' := 247) (l' := [(0, .inr (.inr 1826)), (2, .inl fi), (3, .inl (b : Int)), (4, .inl wt), (5, .inl hd9), (6, .inl dp)]) (st' := [.inl (b : Int)]) rfl ?_
          refine h_zne (off := -226) (t := 21) rfl rfl (by omega) (fun c51 => ?_) (fun c51 => ?_)
          · have g52 : -2147483648 ≤ (H1.1 1826 30) ∧ (H1.1 1826 30) ≤ 2147483647 := hrg47.1 1826 13 30 _ .int rfl rfl
            have g53 : -2147483648 ≤ (H1.1 1826 32) ∧ (H1.1 1826 32) ≤ 2147483647 := hrg47.1 1826 13 32 _ .int rfl rfl
            have g54 : -2147483648 ≤ (H1.1 1826 31) ∧ (H1.1 1826 31) ≤ 2147483647 := hrg47.1 1826 13 31 _ .int rfl rfl
            have g55 : -2147483648 ≤ (H1.1 1826 29) ∧ (H1.1 1826 29) ≤ 2147483647 := hrg47.1 1826 13 29 _ .int rfl rfl
            have e56 : (H1.1 1826 29) = (H.1 1826 29) := hf.2.2 29 (by decide)
            have g57 : -2147483648 ≤ (H1.1 1826 47) ∧ (H1.1 1826 47) ≤ 2147483647 := hrg47.1 1826 13 47 _ .int rfl rfl
            have g58 : -2147483648 ≤ (H1.1 1826 39) ∧ (H1.1 1826 39) ≤ 2147483647 := hrg47.1 1826 13 39 _ .int rfl rfl
            have g59 : -2147483648 ≤ (H1.1 1826 44) ∧ (H1.1 1826 44) ≤ 2147483647 := hrg47.1 1826 13 44 _ .int rfl rfl
            have e60 : (H1.1 1826 44) = (H.1 1826 44) := hf.2.2 44 (by decide)
            rw [show (b : Int) = 1 by omega]
            exact ih.1 _ fi wt hd9 dp hf (by omega : (H.1 1826 30) ≤ (H1.1 1826 30) ∧ (H1.1 1826 30) ≤ (H.1 1826 29)) (by omega : 0 ≤ (H1.1 1826 35) ∧ (H1.1 1826 35) ≤ 5) (by omega : 0 ≤ (H1.1 1826 32) ∧ (H1.1 1826 32) ≤ 1000) (by omega : (H.1 1826 35) ≠ 0 → (H1.1 1826 35) ≠ 0) (by omega : ((H.1 1826 44) ≠ 2 → (H1.1 1826 39) = (H.1 1826 39)) ∧ (H.1 1826 39) ≤ (H1.1 1826 39)) (by omega : -1 ≤ fi ∧ fi < (H.1 1826 1)) (by omega : -1 ≤ wt ∧ wt < (H.1 1826 1)) (by omega : 0 ≤ hd9 ∧ hd9 ≤ 1) (by omega : 0 ≤ dp ∧ dp ≤ 10) (by have e9 : b = 1 := (by omega); rw [e9] at hTT; exact hTT) (mv_out (by have e9 : b = 1 := (by omega); rw [e9] at hw; exact hw))
          · exfalso
            omega
        · have eb : b = 0 := by omega
          have hw0 : (H.1 1826 35) = 0 := by omega
          clear hwk
          have hT1 : TT H1 0 := by have q9 : TT H1 (b : Int) := hTT (by omega); rw [eb] at q9; exact q9
          have hw2 : mv (H1.1 1826 35) (H1.1 1826 31) (H1.1 1826 30) (H.1 1826 29) (H1.1 1826 47) 2 < w + 1 := by rw [eb] at hw; exact hw
          obtain ⟨n, m, k, ⟨ta1, ta2, ta3, ta4⟩, ⟨tb1, tb2, tb3⟩, -, tS, -, -⟩ := id hT1
          have tcb := cb_nn (ou := (H1.1 1852)) (n := n)
          refine h_run 2 (pc' := 71) (l' := [(0, .inr (.inr 1826)), (2, .inl fi), (3, .inl (b : Int)), (4, .inl wt), (5, .inl hd9), (6, .inl dp)]) (st' := [.inl (H1.1 1826 47)]) rfl ?_
          have g61 : -2147483648 ≤ (H1.1 1826 47) ∧ (H1.1 1826 47) ≤ 2147483647 := hrg47.1 1826 13 47 _ .int rfl rfl
          refine h_zle (off := 175) (t := 246) rfl rfl (by omega) (fun c62 => ?_) (fun c62 => ?_)
          · skip
            refine h_run 1 (pc' := 247) (l' := [(0, .inr (.inr 1826)), (2, .inl fi), (3, .inl (b : Int)), (4, .inl wt), (5, .inl hd9), (6, .inl dp)]) (st' := [.inl (b : Int)]) rfl ?_
            refine h_zne (off := -226) (t := 21) rfl rfl (by omega) (fun c63 => ?_) (fun c63 => ?_)
            · exfalso
              omega
            · refine h_run 1 (pc' := 251) (l' := [(0, .inr (.inr 1826)), (2, .inl fi), (3, .inl (b : Int)), (4, .inl wt), (5, .inl hd9), (6, .inl dp)]) (st' := [.inl fi]) rfl ?_
              refine h_reti (x := fi) rfl rfl ?_
              have g64 : -2147483648 ≤ (H1.1 1826 30) ∧ (H1.1 1826 30) ≤ 2147483647 := hrg47.1 1826 13 30 _ .int rfl rfl
              have g65 : -2147483648 ≤ (H1.1 1826 32) ∧ (H1.1 1826 32) ≤ 2147483647 := hrg47.1 1826 13 32 _ .int rfl rfl
              have g66 : -2147483648 ≤ (H1.1 1826 29) ∧ (H1.1 1826 29) ≤ 2147483647 := hrg47.1 1826 13 29 _ .int rfl rfl
              have e67 : (H1.1 1826 29) = (H.1 1826 29) := hf.2.2 29 (by decide)
              have g68 : -2147483648 ≤ (H1.1 1826 1) ∧ (H1.1 1826 1) ≤ 2147483647 := hrg47.1 1826 13 1 _ .int rfl rfl
              have e69 : (H1.1 1826 1) = (H.1 1826 1) := hf.2.2 1 (by decide)
              have g70 : -2147483648 ≤ (H1.1 1826 39) ∧ (H1.1 1826 39) ≤ 2147483647 := hrg47.1 1826 13 39 _ .int rfl rfl
              have g71 : -2147483648 ≤ (H1.1 1826 44) ∧ (H1.1 1826 44) ≤ 2147483647 := hrg47.1 1826 13 44 _ .int rfl rfl
              have e72 : (H1.1 1826 44) = (H.1 1826 44) := hf.2.2 44 (by decide)
              exact ⟨⟨fi, rfl, by omega, by omega⟩, hf, (by omega : (H.1 1826 30) ≤ (H1.1 1826 30) ∧ (H1.1 1826 30) ≤ (H.1 1826 29)), (by omega : 0 ≤ (H1.1 1826 35) ∧ (H1.1 1826 35) ≤ 5), (by omega : (H.1 1826 35) ≠ 0 → (H1.1 1826 35) ≠ 0), (by omega : 0 ≤ (H1.1 1826 32) ∧ (H1.1 1826 32) ≤ 1000), (by omega : ((H.1 1826 44) ≠ 2 → (H1.1 1826 39) = (H.1 1826 39)) ∧ (H.1 1826 39) ≤ (H1.1 1826 39)), fun _ => ⟨TT_end hT1 (by omega), hT1⟩⟩
          · obtain ⟨to1, to2, to3⟩ := tS ((H1.1 1826 47) - 1).toNat (by omega)
            refine h_run 4 (pc' := 82) (l' := [(0, .inr (.inr 1826)), (2, .inl fi), (3, .inl (b : Int)), (4, .inl wt), (5, .inl hd9), (6, .inl dp)]) (st' := [.inl (H1.1 1826 47), .inr (.inr 1852)]) rfl ?_
            refine h_run 2 (pc' := 84) (l' := [(0, .inr (.inr 1826)), (2, .inl fi), (3, .inl (b : Int)), (4, .inl wt), (5, .inl hd9), (6, .inl dp)]) (st' := [.inl ((H1.1 1826 47) - 1), .inr (.inr 1852)]) rfl ?_
            refine h_ild (c := 1852) (j := (((H1.1 1826 47) - 1)).toNat) (i := ((H1.1 1826 47) - 1)) rfl rfl (by decide) (by omega) (by omega) ?_
            have g73 : -2147483648 ≤ (H1.1 1852 (((H1.1 1826 47) - 1)).toNat) ∧ (H1.1 1852 (((H1.1 1826 47) - 1)).toNat) ≤ 2147483647 := hrg47.2 1852 (((H1.1 1826 47) - 1)).toNat 64 .int rfl (by omega)
            refine h_run 0 (pc' := 85) (l' := [(0, .inr (.inr 1826)), (2, .inl fi), (3, .inl (b : Int)), (4, .inl wt), (5, .inl hd9), (6, .inl dp)]) (st' := [.inl (H1.1 1852 (((H1.1 1826 47) - 1)).toNat)]) rfl ?_
            refine h_run 3 (pc' := 92) (l' := [(0, .inr (.inr 1826)), (2, .inl fi), (3, .inl (b : Int)), (4, .inl wt), (5, .inl hd9), (6, .inl dp), (7, .inl (H1.1 1852 (((H1.1 1826 47) - 1)).toNat))]) (st' := [.inl 5000, .inl (H1.1 1852 (((H1.1 1826 47) - 1)).toNat)]) rfl ?_
            refine h_ine (off := 79) (t := 171) rfl rfl (by omega) (by decide) (fun c74 => ?_) (fun c74 => ?_)
            · have tar : ar5 (ma (H1.1 1833) (H1.1 1830)) ((H1.1 1852) ((H1.1 1826 47) - 1).toNat) = ma (H1.1 1833) (H1.1 1830) ((H1.1 1852) ((H1.1 1826 47) - 1).toNat) := if_neg (by omega)
              have tsg : (1 ≤ ((H1.1 1852) ((H1.1 1826 47) - 1).toNat) ∧ ((H1.1 1852) ((H1.1 1826 47) - 1).toNat) ≤ (H1.1 1826 3)) ∨ (100 ≤ ((H1.1 1852) ((H1.1 1826 47) - 1).toNat) ∧ ((H1.1 1852) ((H1.1 1826 47) - 1).toNat) < 100 + (H1.1 1826 8)) := by omega
              obtain ⟨tr1, tr2, tr3⟩ := sg_ar hP1 tsg
              refine h_run 4 (pc' := 179) (l' := [(0, .inr (.inr 1826)), (2, .inl fi), (3, .inl (b : Int)), (4, .inl wt), (5, .inl hd9), (6, .inl dp), (7, .inl (H1.1 1852 (((H1.1 1826 47) - 1)).toNat))]) (st' := [.inl (H1.1 1826 47), .inr (.inr 1853)]) rfl ?_
              refine h_run 2 (pc' := 181) (l' := [(0, .inr (.inr 1826)), (2, .inl fi), (3, .inl (b : Int)), (4, .inl wt), (5, .inl hd9), (6, .inl dp), (7, .inl (H1.1 1852 (((H1.1 1826 47) - 1)).toNat))]) (st' := [.inl ((H1.1 1826 47) - 1), .inr (.inr 1853)]) rfl ?_
              refine h_ild (c := 1853) (j := (((H1.1 1826 47) - 1)).toNat) (i := ((H1.1 1826 47) - 1)) rfl rfl (by decide) (by omega) (by omega) ?_
              have g75 : -2147483648 ≤ (H1.1 1853 (((H1.1 1826 47) - 1)).toNat) ∧ (H1.1 1853 (((H1.1 1826 47) - 1)).toNat) ≤ 2147483647 := hrg47.2 1853 (((H1.1 1826 47) - 1)).toNat 64 .int rfl (by omega)
              refine h_run 0 (pc' := 182) (l' := [(0, .inr (.inr 1826)), (2, .inl fi), (3, .inl (b : Int)), (4, .inl wt), (5, .inl hd9), (6, .inl dp), (7, .inl (H1.1 1852 (((H1.1 1826 47) - 1)).toNat))]) (st' := [.inl (H1.1 1853 (((H1.1 1826 47) - 1)).toNat)]) rfl ?_
              refine h_run 2 (pc' := 185) (l' := [(0, .inr (.inr 1826)), (2, .inl fi), (3, .inl (b : Int)), (4, .inl wt), (5, .inl hd9), (6, .inl dp), (7, .inl (H1.1 1852 (((H1.1 1826 47) - 1)).toNat))]) (st' := [.inl (H1.1 1852 (((H1.1 1826 47) - 1)).toNat), .inr (.inr 1826), .inl (H1.1 1853 (((H1.1 1826 47) - 1)).toNat)]) rfl ?_
              refine h_cv (i := 244) (j := 154) (b := 1826) (M' := mt_154) (xs := [.inl (H1.1 1852 (((H1.1 1826 47) - 1)).toNat)]) (rest := [.inl (H1.1 1853 (((H1.1 1826 47) - 1)).toNat)]) rfl rfl rfl rfl rfl rfl (Nat.le_of_ble_eq_true rfl) (Nat.le_of_ble_eq_true rfl) (by omega) (m_arity (by omega) (by unfold sg0; omega)) ?_
              rintro _ _ ⟨rfl, rfl⟩
              refine h_run 0 (pc' := 188) (l' := [(0, .inr (.inr 1826)), (2, .inl fi), (3, .inl (b : Int)), (4, .inl wt), (5, .inl hd9), (6, .inl dp), (7, .inl (H1.1 1852 (((H1.1 1826 47) - 1)).toNat))]) (st' := [.inl (ma (H1.1 1833) (H1.1 1830) (H1.1 1852 (((H1.1 1826 47) - 1)).toNat)), .inl (H1.1 1853 (((H1.1 1826 47) - 1)).toNat)]) rfl ?_
              refine h_ige (off := 45) (t := 233) rfl rfl (by omega) (by omega) (fun c76 => ?_) (fun c76 => ?_)
              · refine h_run 3 (pc' := 238) (l' := [(0, .inr (.inr 1826)), (2, .inl fi), (3, .inl (b : Int)), (4, .inl wt), (5, .inl hd9), (6, .inl dp), (7, .inl (H1.1 1852 (((H1.1 1826 47) - 1)).toNat))]) (st' := [.inl (H1.1 1826 47), .inr (.inr 1826)]) rfl ?_
                refine h_run 2 (pc' := 240) (l' := [(0, .inr (.inr 1826)), (2, .inl fi), (3, .inl (b : Int)), (4, .inl wt), (5, .inl hd9), (6, .inl dp), (7, .inl (H1.1 1852 (((H1.1 1826 47) - 1)).toNat))]) (st' := [.inl ((H1.1 1826 47) - 1), .inr (.inr 1826)]) rfl ?_
                refine h_puti (i := 328) (ci := 13) (k := 47) (a := 1826) (x := ((H1.1 1826 47) - 1)) rfl rfl rfl rfl rfl rfl (by decide) (by omega) ?_
                refine h_run 1 (pc' := 56) (l' := [(0, .inr (.inr 1826)), (2, .inl fi), (3, .inl (b : Int)), (4, .inl wt), (5, .inl hd9), (6, .inl dp), (7, .inl (H1.1 1852 (((H1.1 1826 47) - 1)).toNat))]) (st' := []) rfl ?_
                have g77 : -2147483648 ≤ (H1.1 1826 30) ∧ (H1.1 1826 30) ≤ 2147483647 := hrg47.1 1826 13 30 _ .int rfl rfl
                have g78 : -2147483648 ≤ (H1.1 1826 32) ∧ (H1.1 1826 32) ≤ 2147483647 := hrg47.1 1826 13 32 _ .int rfl rfl
                have g79 : -2147483648 ≤ (H1.1 1826 31) ∧ (H1.1 1826 31) ≤ 2147483647 := hrg47.1 1826 13 31 _ .int rfl rfl
                have g80 : -2147483648 ≤ (H1.1 1826 29) ∧ (H1.1 1826 29) ≤ 2147483647 := hrg47.1 1826 13 29 _ .int rfl rfl
                have e81 : (H1.1 1826 29) = (H.1 1826 29) := hf.2.2 29 (by decide)
                have g82 : -2147483648 ≤ (H1.1 1826 39) ∧ (H1.1 1826 39) ≤ 2147483647 := hrg47.1 1826 13 39 _ .int rfl rfl
                have g83 : -2147483648 ≤ (H1.1 1826 44) ∧ (H1.1 1826 44) ≤ 2147483647 := hrg47.1 1826 13 44 _ .int rfl rfl
                have e84 : (H1.1 1826 44) = (H.1 1826 44) := hf.2.2 44 (by decide)
                refine h_loc [0, 2, 3, 4, 5, 6] rfl ?_
                exact ih.2 _ fi wt hd9 dp b (fr_o hf (by decide)) (by omega : (H.1 1826 30) ≤ (H1.1 1826 30) ∧ (H1.1 1826 30) ≤ (H.1 1826 29)) (by omega : 0 ≤ (H1.1 1826 35) ∧ (H1.1 1826 35) ≤ 5) (by omega : 0 ≤ (H1.1 1826 32) ∧ (H1.1 1826 32) ≤ 1000) (by omega : (H.1 1826 35) ≠ 0 → (H1.1 1826 35) ≠ 0) (by omega : ((H.1 1826 44) ≠ 2 → (H1.1 1826 39) = (H.1 1826 39)) ∧ (H.1 1826 39) ≤ (H1.1 1826 39)) (by omega : -1 ≤ fi ∧ fi < (H.1 1826 1)) (by omega : -1 ≤ wt ∧ wt < (H.1 1826 1)) (by omega : 0 ≤ hd9 ∧ hd9 ≤ 1) (by omega : 0 ≤ dp ∧ dp ≤ 10) (by omega) (by rw [eb]; exact (fun _ => TT_pop (n := ((H1.1 1826 47) - 1).toNat) hT1 ⟨⟨rfl, rfl, rfl, rfl⟩, rfl, rfl⟩ (by omega) (by omega) ⟨rfl, rfl⟩ rfl ⟨rfl, rfl⟩ (by omega : ((H1.1 1826 47) - 1) = ((((H1.1 1826 47) - 1).toNat : Nat) : Int)) (by rw [if_neg (show ¬ (H1.1 1852) ((H1.1 1826 47) - 1).toNat = 5000 by omega)]; exact (by omega : (H1.1 1826 41) = (H1.1 1826 41) - 0)) rfl rfl rfl)) (by rw [eb]; exact (mv_pop hw2 (by omega : (H1.1 1826 35) = 0) (by omega : 0 ≤ ((H1.1 1826 47) - 1) ∧ ((H1.1 1826 47) - 1) < (H1.1 1826 47))))
              · have tty := sg_ty hP1 tsg (i := ((H1.1 1853) ((H1.1 1826 47) - 1).toNat)) (by omega) (by omega)
                refine h_run 6 (pc' := 202) (l' := [(0, .inr (.inr 1826)), (2, .inl fi), (3, .inl (b : Int)), (4, .inl wt), (5, .inl hd9), (6, .inl dp), (7, .inl (H1.1 1852 (((H1.1 1826 47) - 1)).toNat))]) (st' := [.inl (H1.1 1826 47), .inr (.inr 1853), .inl (H1.1 1852 (((H1.1 1826 47) - 1)).toNat), .inr (.inr 1826)]) rfl ?_
                refine h_run 2 (pc' := 204) (l' := [(0, .inr (.inr 1826)), (2, .inl fi), (3, .inl (b : Int)), (4, .inl wt), (5, .inl hd9), (6, .inl dp), (7, .inl (H1.1 1852 (((H1.1 1826 47) - 1)).toNat))]) (st' := [.inl ((H1.1 1826 47) - 1), .inr (.inr 1853), .inl (H1.1 1852 (((H1.1 1826 47) - 1)).toNat), .inr (.inr 1826)]) rfl ?_
                refine h_ild (c := 1853) (j := (((H1.1 1826 47) - 1)).toNat) (i := ((H1.1 1826 47) - 1)) rfl rfl (by decide) (by omega) (by omega) ?_
                refine h_run 0 (pc' := 205) (l' := [(0, .inr (.inr 1826)), (2, .inl fi), (3, .inl (b : Int)), (4, .inl wt), (5, .inl hd9), (6, .inl dp), (7, .inl (H1.1 1852 (((H1.1 1826 47) - 1)).toNat))]) (st' := [.inl (H1.1 1853 (((H1.1 1826 47) - 1)).toNat), .inl (H1.1 1852 (((H1.1 1826 47) - 1)).toNat), .inr (.inr 1826)]) rfl ?_
                refine h_cv (i := 331) (j := 175) (b := 1826) (M' := mt_175) (xs := [.inl (H1.1 1853 (((H1.1 1826 47) - 1)).toNat), .inl (H1.1 1852 (((H1.1 1826 47) - 1)).toNat)]) (rest := []) rfl rfl rfl rfl rfl rfl (Nat.le_of_ble_eq_true rfl) (Nat.le_of_ble_eq_true rfl) (by omega) (m_argType (by omega) (by omega)) ?_
                rintro _ _ ⟨rfl, rfl⟩
                refine h_run 0 (pc' := 208) (l' := [(0, .inr (.inr 1826)), (2, .inl fi), (3, .inl (b : Int)), (4, .inl wt), (5, .inl hd9), (6, .inl dp), (7, .inl (H1.1 1852 (((H1.1 1826 47) - 1)).toNat))]) (st' := [.inl (aty H1 (H1.1 1852 (((H1.1 1826 47) - 1)).toNat) (H1.1 1853 (((H1.1 1826 47) - 1)).toNat))]) rfl ?_
                refine h_run 5 (pc' := 218) (l' := [(0, .inr (.inr 1826)), (2, .inl fi), (3, .inl (b : Int)), (4, .inl (aty H1 (H1.1 1852 (((H1.1 1826 47) - 1)).toNat) (H1.1 1853 (((H1.1 1826 47) - 1)).toNat))), (5, .inl hd9), (6, .inl dp), (7, .inl (H1.1 1852 (((H1.1 1826 47) - 1)).toNat))]) (st' := [.inl (H1.1 1826 47), .inr (.inr 1853)]) rfl ?_
                refine h_run 3 (pc' := 221) (l' := [(0, .inr (.inr 1826)), (2, .inl fi), (3, .inl (b : Int)), (4, .inl (aty H1 (H1.1 1852 (((H1.1 1826 47) - 1)).toNat) (H1.1 1853 (((H1.1 1826 47) - 1)).toNat))), (5, .inl hd9), (6, .inl dp), (7, .inl (H1.1 1852 (((H1.1 1826 47) - 1)).toNat))]) (st' := [.inl ((H1.1 1826 47) - 1), .inr (.inr 1853), .inl ((H1.1 1826 47) - 1), .inr (.inr 1853)]) rfl ?_
                refine h_ild (c := 1853) (j := (((H1.1 1826 47) - 1)).toNat) (i := ((H1.1 1826 47) - 1)) rfl rfl (by decide) (by omega) (by omega) ?_
                refine h_run 0 (pc' := 222) (l' := [(0, .inr (.inr 1826)), (2, .inl fi), (3, .inl (b : Int)), (4, .inl (aty H1 (H1.1 1852 (((H1.1 1826 47) - 1)).toNat) (H1.1 1853 (((H1.1 1826 47) - 1)).toNat))), (5, .inl hd9), (6, .inl dp), (7, .inl (H1.1 1852 (((H1.1 1826 47) - 1)).toNat))]) (st' := [.inl (H1.1 1853 (((H1.1 1826 47) - 1)).toNat), .inl ((H1.1 1826 47) - 1), .inr (.inr 1853)]) rfl ?_
                refine h_run 2 (pc' := 224) (l' := [(0, .inr (.inr 1826)), (2, .inl fi), (3, .inl (b : Int)), (4, .inl (aty H1 (H1.1 1852 (((H1.1 1826 47) - 1)).toNat) (H1.1 1853 (((H1.1 1826 47) - 1)).toNat))), (5, .inl hd9), (6, .inl dp), (7, .inl (H1.1 1852 (((H1.1 1826 47) - 1)).toNat))]) (st' := [.inl ((H1.1 1853 (((H1.1 1826 47) - 1)).toNat) + 1), .inl ((H1.1 1826 47) - 1), .inr (.inr 1853)]) rfl ?_
                refine h_ist (c := 1853) (j := (((H1.1 1826 47) - 1)).toNat) (i := ((H1.1 1826 47) - 1)) (x := ((H1.1 1853 (((H1.1 1826 47) - 1)).toNat) + 1)) rfl rfl (by decide) (by decide) (by omega) (by omega) (by omega) ?_
                refine h_run 6 (pc' := 56) (l' := [(0, .inr (.inr 1826)), (2, .inl fi), (3, .inl 1), (4, .inl (aty H1 (H1.1 1852 (((H1.1 1826 47) - 1)).toNat) (H1.1 1853 (((H1.1 1826 47) - 1)).toNat))), (5, .inl 0), (6, .inl dp), (7, .inl (H1.1 1852 (((H1.1 1826 47) - 1)).toNat))]) (st' := []) rfl ?_
                have g85 : -2147483648 ≤ (H1.1 1826 30) ∧ (H1.1 1826 30) ≤ 2147483647 := hrg47.1 1826 13 30 _ .int rfl rfl
                have g86 : -2147483648 ≤ (H1.1 1826 32) ∧ (H1.1 1826 32) ≤ 2147483647 := hrg47.1 1826 13 32 _ .int rfl rfl
                have g87 : -2147483648 ≤ (H1.1 1826 31) ∧ (H1.1 1826 31) ≤ 2147483647 := hrg47.1 1826 13 31 _ .int rfl rfl
                have g88 : -2147483648 ≤ (H1.1 1826 29) ∧ (H1.1 1826 29) ≤ 2147483647 := hrg47.1 1826 13 29 _ .int rfl rfl
                have e89 : (H1.1 1826 29) = (H.1 1826 29) := hf.2.2 29 (by decide)
                have g90 : -2147483648 ≤ (H1.1 1826 39) ∧ (H1.1 1826 39) ≤ 2147483647 := hrg47.1 1826 13 39 _ .int rfl rfl
                have g91 : -2147483648 ≤ (H1.1 1826 44) ∧ (H1.1 1826 44) ≤ 2147483647 := hrg47.1 1826 13 44 _ .int rfl rfl
                have e92 : (H1.1 1826 44) = (H.1 1826 44) := hf.2.2 44 (by decide)
                refine h_loc [0, 2, 3, 4, 5, 6] rfl ?_
                exact ih.2 _ fi (aty H1 (H1.1 1852 (((H1.1 1826 47) - 1)).toNat) (H1.1 1853 (((H1.1 1826 47) - 1)).toNat)) (0 : Int) dp 1 (fr_a hf (by decide)) (by omega : (H.1 1826 30) ≤ (H1.1 1826 30) ∧ (H1.1 1826 30) ≤ (H.1 1826 29)) (by omega : 0 ≤ (H1.1 1826 35) ∧ (H1.1 1826 35) ≤ 5) (by omega : 0 ≤ (H1.1 1826 32) ∧ (H1.1 1826 32) ≤ 1000) (by omega : (H.1 1826 35) ≠ 0 → (H1.1 1826 35) ≠ 0) (by omega : ((H.1 1826 44) ≠ 2 → (H1.1 1826 39) = (H.1 1826 39)) ∧ (H.1 1826 39) ≤ (H1.1 1826 39)) (by omega : -1 ≤ fi ∧ fi < (H.1 1826 1)) (by omega : -1 ≤ (aty H1 (H1.1 1852 (((H1.1 1826 47) - 1)).toNat) (H1.1 1853 (((H1.1 1826 47) - 1)).toNat)) ∧ (aty H1 (H1.1 1852 (((H1.1 1826 47) - 1)).toNat) (H1.1 1853 (((H1.1 1826 47) - 1)).toNat)) < (H.1 1826 1)) (by omega : 0 ≤ (0 : Int) ∧ (0 : Int) ≤ 1) (by omega : 0 ≤ dp ∧ dp ≤ 10) (by omega) (fun _ => TT_ask (n := ((H1.1 1826 47) - 1).toNat) hT1 ⟨⟨rfl, rfl, rfl, rfl⟩, rfl, rfl⟩ (by omega) (by omega) ⟨rfl, rfl, rfl⟩ rfl ⟨rfl, rfl⟩ rfl rfl (by first | rfl | (rw [show (H1.1 1853) ((H1.1 1826 47) - 1).toNat = 0 by omega]; rfl)) rfl) (mv_ask hw2 (by omega : (H1.1 1826 35) = 0))
            · have tar : ar5 (ma (H1.1 1833) (H1.1 1830)) ((H1.1 1852) ((H1.1 1826 47) - 1).toNat) = 1 := if_pos (by omega)
              have tbt := to3 (by omega)
              refine h_run 4 (pc' := 103) (l' := [(0, .inr (.inr 1826)), (2, .inl fi), (3, .inl (b : Int)), (4, .inl wt), (5, .inl hd9), (6, .inl dp), (7, .inl (H1.1 1852 (((H1.1 1826 47) - 1)).toNat))]) (st' := [.inl (H1.1 1826 47), .inr (.inr 1853)]) rfl ?_
              refine h_run 2 (pc' := 105) (l' := [(0, .inr (.inr 1826)), (2, .inl fi), (3, .inl (b : Int)), (4, .inl wt), (5, .inl hd9), (6, .inl dp), (7, .inl (H1.1 1852 (((H1.1 1826 47) - 1)).toNat))]) (st' := [.inl ((H1.1 1826 47) - 1), .inr (.inr 1853)]) rfl ?_
              refine h_ild (c := 1853) (j := (((H1.1 1826 47) - 1)).toNat) (i := ((H1.1 1826 47) - 1)) rfl rfl (by decide) (by omega) (by omega) ?_
              have g93 : -2147483648 ≤ (H1.1 1853 (((H1.1 1826 47) - 1)).toNat) ∧ (H1.1 1853 (((H1.1 1826 47) - 1)).toNat) ≤ 2147483647 := hrg47.2 1853 (((H1.1 1826 47) - 1)).toNat 64 .int rfl (by omega)
              refine h_run 0 (pc' := 106) (l' := [(0, .inr (.inr 1826)), (2, .inl fi), (3, .inl (b : Int)), (4, .inl wt), (5, .inl hd9), (6, .inl dp), (7, .inl (H1.1 1852 (((H1.1 1826 47) - 1)).toNat))]) (st' := [.inl (H1.1 1853 (((H1.1 1826 47) - 1)).toNat)]) rfl ?_
              refine h_zne (off := 36) (t := 142) rfl rfl (by omega) (fun c94 => ?_) (fun c94 => ?_)
              · refine h_run 2 (pc' := 145) (l' := [(0, .inr (.inr 1826)), (2, .inl fi), (3, .inl (b : Int)), (4, .inl wt), (5, .inl hd9), (6, .inl dp), (7, .inl (H1.1 1852 (((H1.1 1826 47) - 1)).toNat))]) (st' := [.inl 41, .inr (.inr 1826)]) rfl ?_
                have g95 : -2147483648 ≤ (H1.1 1826 30) ∧ (H1.1 1826 30) ≤ 2147483647 := hrg47.1 1826 13 30 _ .int rfl rfl
                have g96 : -2147483648 ≤ (H1.1 1826 29) ∧ (H1.1 1826 29) ≤ 2147483647 := hrg47.1 1826 13 29 _ .int rfl rfl
                have e97 : (H1.1 1826 29) = (H.1 1826 29) := hf.2.2 29 (by decide)
                have g98 : -2147483648 ≤ (H1.1 1826 31) ∧ (H1.1 1826 31) ≤ 2147483647 := hrg47.1 1826 13 31 _ .int rfl rfl
                have g100 : -2147483648 ≤ (H1.1 1826 32) ∧ (H1.1 1826 32) ≤ 2147483647 := hrg47.1 1826 13 32 _ .int rfl rfl
                refine h_cv (i := 313) (j := 166) (b := 1826) (M' := mt_166) (xs := [.inl 41]) (rest := []) rfl rfl rfl rfl rfl rfl (Nat.le_of_ble_eq_true rfl) (Nat.le_of_ble_eq_true rfl) (by omega) (m_want (by omega) (by omega : 0 ≤ (H1.1 1826 30) ∧ (H1.1 1826 30) ≤ (H1.1 1826 29) ∧ (H1.1 1826 29) ≤ 1000) (by omega : 0 ≤ (H1.1 1826 35) ∧ (H1.1 1826 35) ≤ 5) (by omega : 0 ≤ (H1.1 1826 32) ∧ (H1.1 1826 32) ≤ 1000) (by omega)) ?_
                rintro _ H99 ⟨rfl, hx99f, hx99a, hx99b, hx99c, -, hx99e, hx99g⟩
                refine h_rng (fun hrg101 => ?_)
                have hf102 : fr [30, 31, 32, 33, 35, 36, 39, 40, 41, 43, 47] [1849, 1850, 1851, 1852, 1853, 1854] H H99 := fr_t hf hx99f (by decide) (by decide)
                replace hx99a : (H1.1 1826 30) ≤ (H99.1 1826 30) := hx99a
                replace hx99b : (H99.1 1826 30) ≤ (H1.1 1826 29) := hx99b
                replace hx99g : (H99.1 1826 35) = 0 → (H1.1 1826 31) = (41 : Int) ∧ ((H99.1 1826 31) = 0 ∨ (H1.1 1826 30) < (H99.1 1826 30)) := hx99g
                refine h_run 0 (pc' := 148) (l' := [(0, .inr (.inr 1826)), (2, .inl fi), (3, .inl (b : Int)), (4, .inl wt), (5, .inl hd9), (6, .inl dp), (7, .inl (H1.1 1852 (((H1.1 1826 47) - 1)).toNat))]) (st' := []) rfl ?_
                refine h_run 3 (pc' := 153) (l' := [(0, .inr (.inr 1826)), (2, .inl fi), (3, .inl (b : Int)), (4, .inl wt), (5, .inl hd9), (6, .inl dp), (7, .inl (H1.1 1852 (((H1.1 1826 47) - 1)).toNat))]) (st' := [.inl (H99.1 1826 41), .inr (.inr 1826)]) rfl ?_
                have g103 : -2147483648 ≤ (H99.1 1826 41) ∧ (H99.1 1826 41) ≤ 2147483647 := hrg101.1 1826 13 41 _ .int rfl rfl
                have e104 : (H99.1 1826 41) = (H1.1 1826 41) := hx99f.2.2 41 (by decide)
                refine h_run 2 (pc' := 155) (l' := [(0, .inr (.inr 1826)), (2, .inl fi), (3, .inl (b : Int)), (4, .inl wt), (5, .inl hd9), (6, .inl dp), (7, .inl (H1.1 1852 (((H1.1 1826 47) - 1)).toNat))]) (st' := [.inl ((H99.1 1826 41) - 1), .inr (.inr 1826)]) rfl ?_
                refine h_puti (i := 335) (ci := 13) (k := 41) (a := 1826) (x := ((H99.1 1826 41) - 1)) rfl rfl rfl rfl rfl rfl (by decide) (by omega) ?_
                refine h_run 3 (pc' := 163) (l' := [(0, .inr (.inr 1826)), (2, .inl fi), (3, .inl (b : Int)), (4, .inl wt), (5, .inl hd9), (6, .inl dp), (7, .inl (H1.1 1852 (((H1.1 1826 47) - 1)).toNat))]) (st' := [.inl (H99.1 1826 47), .inr (.inr 1826)]) rfl ?_
                have g105 : -2147483648 ≤ (H99.1 1826 47) ∧ (H99.1 1826 47) ≤ 2147483647 := hrg101.1 1826 13 47 _ .int rfl rfl
                have e106 : (H99.1 1826 47) = (H1.1 1826 47) := hx99f.2.2 47 (by decide)
                refine h_run 2 (pc' := 165) (l' := [(0, .inr (.inr 1826)), (2, .inl fi), (3, .inl (b : Int)), (4, .inl wt), (5, .inl hd9), (6, .inl dp), (7, .inl (H1.1 1852 (((H1.1 1826 47) - 1)).toNat))]) (st' := [.inl ((H99.1 1826 47) - 1), .inr (.inr 1826)]) rfl ?_
                refine h_puti (i := 328) (ci := 13) (k := 47) (a := 1826) (x := ((H99.1 1826 47) - 1)) rfl rfl rfl rfl rfl rfl (by decide) (by omega) ?_
                refine h_run 2 (pc' := 56) (l' := [(0, .inr (.inr 1826)), (2, .inl fi), (3, .inl (b : Int)), (4, .inl wt), (5, .inl hd9), (6, .inl dp), (7, .inl (H1.1 1852 (((H1.1 1826 47) - 1)).toNat))]) (st' := []) rfl ?_
                have g107 : -2147483648 ≤ (H99.1 1826 30) ∧ (H99.1 1826 30) ≤ 2147483647 := hrg101.1 1826 13 30 _ .int rfl rfl
                have g108 : -2147483648 ≤ (H99.1 1826 35) ∧ (H99.1 1826 35) ≤ 2147483647 := hrg101.1 1826 13 35 _ .int rfl rfl
                have g109 : -2147483648 ≤ (H99.1 1826 32) ∧ (H99.1 1826 32) ≤ 2147483647 := hrg101.1 1826 13 32 _ .int rfl rfl
                have g110 : -2147483648 ≤ (H99.1 1826 31) ∧ (H99.1 1826 31) ≤ 2147483647 := hrg101.1 1826 13 31 _ .int rfl rfl
                have g111 : -2147483648 ≤ (H99.1 1826 29) ∧ (H99.1 1826 29) ≤ 2147483647 := hrg101.1 1826 13 29 _ .int rfl rfl
                have e112 : (H99.1 1826 29) = (H1.1 1826 29) := hx99f.2.2 29 (by decide)
                have g113 : -2147483648 ≤ (H99.1 1826 39) ∧ (H99.1 1826 39) ≤ 2147483647 := hrg101.1 1826 13 39 _ .int rfl rfl
                have e114 : (H99.1 1826 39) = (H1.1 1826 39) := hx99f.2.2 39 (by decide)
                have g115 : -2147483648 ≤ (H99.1 1826 44) ∧ (H99.1 1826 44) ≤ 2147483647 := hrg101.1 1826 13 44 _ .int rfl rfl
                have e116 : (H99.1 1826 44) = (H1.1 1826 44) := hx99f.2.2 44 (by decide)
                have e117 : (H1.1 1826 44) = (H.1 1826 44) := hf.2.2 44 (by decide)
                refine h_loc [0, 2, 3, 4, 5, 6] rfl ?_
                exact ih.2 _ fi wt hd9 dp b (fr_o (fr_o hf102 (by decide)) (by decide)) (by omega : (H.1 1826 30) ≤ (H99.1 1826 30) ∧ (H99.1 1826 30) ≤ (H.1 1826 29)) (by omega : 0 ≤ (H99.1 1826 35) ∧ (H99.1 1826 35) ≤ 5) (by omega : 0 ≤ (H99.1 1826 32) ∧ (H99.1 1826 32) ≤ 1000) (by omega : (H.1 1826 35) ≠ 0 → (H99.1 1826 35) ≠ 0) (by omega : ((H.1 1826 44) ≠ 2 → (H99.1 1826 39) = (H.1 1826 39)) ∧ (H.1 1826 39) ≤ (H99.1 1826 39)) (by omega : -1 ≤ fi ∧ fi < (H.1 1826 1)) (by omega : -1 ≤ wt ∧ wt < (H.1 1826 1)) (by omega : 0 ≤ hd9 ∧ hd9 ≤ 1) (by omega : 0 ≤ dp ∧ dp ≤ 10) (by omega) (by rw [eb]; exact (fun _ => TT_pop (n := ((H1.1 1826 47) - 1).toNat) hT1 ⟨⟨(hx99f.2.2 1 (by decide)), (hx99f.2.2 3 (by decide)), (hx99f.2.2 8 (by decide)), (hx99f.2.2 44 (by decide))⟩, (hx99f.2.1 1833 (by decide) (by decide)), (hx99f.2.1 1830 (by decide) (by decide))⟩ (by omega) (by omega) ⟨(hx99f.2.2 40 (by decide)), (hx99f.2.2 43 (by decide))⟩ (hx99f.2.1 1851 (by decide) (by decide)) ⟨(hx99f.2.2 39 (by decide)), (hx99f.2.1 1850 (by decide) (by decide))⟩ (by omega : ((H99.1 1826 47) - 1) = ((((H1.1 1826 47) - 1).toNat : Nat) : Int)) (by rw [if_pos (show (H1.1 1852) ((H1.1 1826 47) - 1).toNat = 5000 by omega)]; exact (by omega : ((H99.1 1826 41) - 1) = (H1.1 1826 41) - 1)) (hx99f.2.1 1852 (by decide) (by decide)) (hx99f.2.1 1853 (by decide) (by decide)) (hx99f.2.1 1854 (by decide) (by decide)))) (by rw [eb]; exact (mv_tok (b := 2) hw2 (Or.inr rfl) (by omega) (by omega : (H99.1 1826 35) ≠ 0 ∨ (((H99.1 1826 47) - 1) ≤ 100 ∧ (H1.1 1826 30) ≤ (H99.1 1826 30) ∧ (H99.1 1826 30) ≤ (H.1 1826 29) ∧ (((H99.1 1826 31) = 0 ∧ (H1.1 1826 31) ≠ 0) ∨ (H1.1 1826 30) < (H99.1 1826 30))))))
              · refine h_run 4 (pc' := 117) (l' := [(0, .inr (.inr 1826)), (2, .inl fi), (3, .inl (b : Int)), (4, .inl wt), (5, .inl hd9), (6, .inl dp), (7, .inl (H1.1 1852 (((H1.1 1826 47) - 1)).toNat))]) (st' := [.inl (H1.1 1826 47), .inr (.inr 1853)]) rfl ?_
                refine h_run 3 (pc' := 120) (l' := [(0, .inr (.inr 1826)), (2, .inl fi), (3, .inl (b : Int)), (4, .inl wt), (5, .inl hd9), (6, .inl dp), (7, .inl (H1.1 1852 (((H1.1 1826 47) - 1)).toNat))]) (st' := [.inl 1, .inl ((H1.1 1826 47) - 1), .inr (.inr 1853)]) rfl ?_
                refine h_ist (c := 1853) (j := (((H1.1 1826 47) - 1)).toNat) (i := ((H1.1 1826 47) - 1)) (x := 1) rfl rfl (by decide) (by decide) (by omega) (by omega) (by decide) ?_
                refine h_run 8 (pc' := 134) (l' := [(0, .inr (.inr 1826)), (2, .inl fi), (3, .inl 1), (4, .inl wt), (5, .inl 1), (6, .inl dp), (7, .inl (H1.1 1852 (((H1.1 1826 47) - 1)).toNat))]) (st' := [.inl (H1.1 1826 47), .inr (.inr 1854)]) rfl ?_
                refine h_run 2 (pc' := 136) (l' := [(0, .inr (.inr 1826)), (2, .inl fi), (3, .inl 1), (4, .inl wt), (5, .inl 1), (6, .inl dp), (7, .inl (H1.1 1852 (((H1.1 1826 47) - 1)).toNat))]) (st' := [.inl ((H1.1 1826 47) - 1), .inr (.inr 1854)]) rfl ?_
                refine h_ild (c := 1854) (j := (((H1.1 1826 47) - 1)).toNat) (i := ((H1.1 1826 47) - 1)) rfl rfl (by decide) (by omega) (by omega) ?_
                have g118 : -2147483648 ≤ (H1.1 1854 (((H1.1 1826 47) - 1)).toNat) ∧ (H1.1 1854 (((H1.1 1826 47) - 1)).toNat) ≤ 2147483647 := hrg47.2 1854 (((H1.1 1826 47) - 1)).toNat 64 .int rfl (by omega)
                refine h_run 0 (pc' := 137) (l' := [(0, .inr (.inr 1826)), (2, .inl fi), (3, .inl 1), (4, .inl wt), (5, .inl 1), (6, .inl dp), (7, .inl (H1.1 1852 (((H1.1 1826 47) - 1)).toNat))]) (st' := [.inl (H1.1 1854 (((H1.1 1826 47) - 1)).toNat)]) rfl ?_
                refine h_run 3 (pc' := 56) (l' := [(0, .inr (.inr 1826)), (2, .inl fi), (3, .inl 1), (4, .inl (H1.1 1854 (((H1.1 1826 47) - 1)).toNat)), (5, .inl 1), (6, .inl dp), (7, .inl (H1.1 1852 (((H1.1 1826 47) - 1)).toNat))]) (st' := []) rfl ?_
                have g119 : -2147483648 ≤ (H1.1 1826 30) ∧ (H1.1 1826 30) ≤ 2147483647 := hrg47.1 1826 13 30 _ .int rfl rfl
                have g120 : -2147483648 ≤ (H1.1 1826 32) ∧ (H1.1 1826 32) ≤ 2147483647 := hrg47.1 1826 13 32 _ .int rfl rfl
                have g121 : -2147483648 ≤ (H1.1 1826 31) ∧ (H1.1 1826 31) ≤ 2147483647 := hrg47.1 1826 13 31 _ .int rfl rfl
                have g122 : -2147483648 ≤ (H1.1 1826 29) ∧ (H1.1 1826 29) ≤ 2147483647 := hrg47.1 1826 13 29 _ .int rfl rfl
                have e123 : (H1.1 1826 29) = (H.1 1826 29) := hf.2.2 29 (by decide)
                have g124 : -2147483648 ≤ (H1.1 1826 39) ∧ (H1.1 1826 39) ≤ 2147483647 := hrg47.1 1826 13 39 _ .int rfl rfl
                have g125 : -2147483648 ≤ (H1.1 1826 44) ∧ (H1.1 1826 44) ≤ 2147483647 := hrg47.1 1826 13 44 _ .int rfl rfl
                have e126 : (H1.1 1826 44) = (H.1 1826 44) := hf.2.2 44 (by decide)
                refine h_loc [0, 2, 3, 4, 5, 6] rfl ?_
                exact ih.2 _ fi (H1.1 1854 (((H1.1 1826 47) - 1)).toNat) (1 : Int) dp 1 (fr_a hf (by decide)) (by omega : (H.1 1826 30) ≤ (H1.1 1826 30) ∧ (H1.1 1826 30) ≤ (H.1 1826 29)) (by omega : 0 ≤ (H1.1 1826 35) ∧ (H1.1 1826 35) ≤ 5) (by omega : 0 ≤ (H1.1 1826 32) ∧ (H1.1 1826 32) ≤ 1000) (by omega : (H.1 1826 35) ≠ 0 → (H1.1 1826 35) ≠ 0) (by omega : ((H.1 1826 44) ≠ 2 → (H1.1 1826 39) = (H.1 1826 39)) ∧ (H.1 1826 39) ≤ (H1.1 1826 39)) (by omega : -1 ≤ fi ∧ fi < (H.1 1826 1)) (by omega : -1 ≤ (H1.1 1854 (((H1.1 1826 47) - 1)).toNat) ∧ (H1.1 1854 (((H1.1 1826 47) - 1)).toNat) < (H.1 1826 1)) (by omega : 0 ≤ (1 : Int) ∧ (1 : Int) ≤ 1) (by omega : 0 ≤ dp ∧ dp ≤ 10) (by omega) (fun _ => TT_ask (n := ((H1.1 1826 47) - 1).toNat) hT1 ⟨⟨rfl, rfl, rfl, rfl⟩, rfl, rfl⟩ (by omega) (by omega) ⟨rfl, rfl, rfl⟩ rfl ⟨rfl, rfl⟩ rfl rfl (by first | rfl | (rw [show (H1.1 1853) ((H1.1 1826 47) - 1).toNat = 0 by omega]; rfl)) rfl) (mv_ask hw2 (by omega : (H1.1 1826 35) = 0))
      · have b49x : (H1.1 1826 35) ≠ 0 := b49
        refine h_run 0 (pc' := 60) (l' := [(0, .inr (.inr 1826)), (2, .inl fi), (3, .inl (b : Int)), (4, .inl wt), (5, .inl hd9), (6, .inl dp)]) (st' := [.inl 0]) rfl ?_
        refine h_zeq (off := 186) (t := 246) rfl rfl (by decide) (fun _ => ?_) (fun c => absurd c (by decide))
        skip
        refine h_run 1 (pc' := 247) (l' := [(0, .inr (.inr 1826)), (2, .inl fi), (3, .inl (b : Int)), (4, .inl wt), (5, .inl hd9), (6, .inl dp)]) (st' := [.inl (b : Int)]) rfl ?_
        refine h_zne (off := -226) (t := 21) rfl rfl (by omega) (fun c127 => ?_) (fun c127 => ?_)
        · have g128 : -2147483648 ≤ (H1.1 1826 30) ∧ (H1.1 1826 30) ≤ 2147483647 := hrg47.1 1826 13 30 _ .int rfl rfl
          have g129 : -2147483648 ≤ (H1.1 1826 32) ∧ (H1.1 1826 32) ≤ 2147483647 := hrg47.1 1826 13 32 _ .int rfl rfl
          have g130 : -2147483648 ≤ (H1.1 1826 31) ∧ (H1.1 1826 31) ≤ 2147483647 := hrg47.1 1826 13 31 _ .int rfl rfl
          have g131 : -2147483648 ≤ (H1.1 1826 29) ∧ (H1.1 1826 29) ≤ 2147483647 := hrg47.1 1826 13 29 _ .int rfl rfl
          have e132 : (H1.1 1826 29) = (H.1 1826 29) := hf.2.2 29 (by decide)
          have g133 : -2147483648 ≤ (H1.1 1826 47) ∧ (H1.1 1826 47) ≤ 2147483647 := hrg47.1 1826 13 47 _ .int rfl rfl
          have g134 : -2147483648 ≤ (H1.1 1826 39) ∧ (H1.1 1826 39) ≤ 2147483647 := hrg47.1 1826 13 39 _ .int rfl rfl
          have g135 : -2147483648 ≤ (H1.1 1826 44) ∧ (H1.1 1826 44) ≤ 2147483647 := hrg47.1 1826 13 44 _ .int rfl rfl
          have e136 : (H1.1 1826 44) = (H.1 1826 44) := hf.2.2 44 (by decide)
          rw [show (b : Int) = 1 by omega]
          exact ih.1 _ fi wt hd9 dp hf (by omega : (H.1 1826 30) ≤ (H1.1 1826 30) ∧ (H1.1 1826 30) ≤ (H.1 1826 29)) (by omega : 0 ≤ (H1.1 1826 35) ∧ (H1.1 1826 35) ≤ 5) (by omega : 0 ≤ (H1.1 1826 32) ∧ (H1.1 1826 32) ≤ 1000) (by omega : (H.1 1826 35) ≠ 0 → (H1.1 1826 35) ≠ 0) (by omega : ((H.1 1826 44) ≠ 2 → (H1.1 1826 39) = (H.1 1826 39)) ∧ (H.1 1826 39) ≤ (H1.1 1826 39)) (by omega : -1 ≤ fi ∧ fi < (H.1 1826 1)) (by omega : -1 ≤ wt ∧ wt < (H.1 1826 1)) (by omega : 0 ≤ hd9 ∧ hd9 ≤ 1) (by omega : 0 ≤ dp ∧ dp ≤ 10) (fun (q : (H1.1 1826 35) = 0) => absurd q (by omega)) (mv_out (by have e9 : b = 1 := (by omega); rw [e9] at hw; exact hw))
        · refine h_run 1 (pc' := 251) (l' := [(0, .inr (.inr 1826)), (2, .inl fi), (3, .inl (b : Int)), (4, .inl wt), (5, .inl hd9), (6, .inl dp)]) (st' := [.inl fi]) rfl ?_
          refine h_reti (x := fi) rfl rfl ?_
          have g137 : -2147483648 ≤ (H1.1 1826 30) ∧ (H1.1 1826 30) ≤ 2147483647 := hrg47.1 1826 13 30 _ .int rfl rfl
          have g138 : -2147483648 ≤ (H1.1 1826 32) ∧ (H1.1 1826 32) ≤ 2147483647 := hrg47.1 1826 13 32 _ .int rfl rfl
          have g139 : -2147483648 ≤ (H1.1 1826 29) ∧ (H1.1 1826 29) ≤ 2147483647 := hrg47.1 1826 13 29 _ .int rfl rfl
          have e140 : (H1.1 1826 29) = (H.1 1826 29) := hf.2.2 29 (by decide)
          have g141 : -2147483648 ≤ (H1.1 1826 1) ∧ (H1.1 1826 1) ≤ 2147483647 := hrg47.1 1826 13 1 _ .int rfl rfl
          have e142 : (H1.1 1826 1) = (H.1 1826 1) := hf.2.2 1 (by decide)
          have g143 : -2147483648 ≤ (H1.1 1826 39) ∧ (H1.1 1826 39) ≤ 2147483647 := hrg47.1 1826 13 39 _ .int rfl rfl
          have g144 : -2147483648 ≤ (H1.1 1826 44) ∧ (H1.1 1826 44) ≤ 2147483647 := hrg47.1 1826 13 44 _ .int rfl rfl
          have e145 : (H1.1 1826 44) = (H.1 1826 44) := hf.2.2 44 (by decide)
          exact ⟨⟨fi, rfl, by omega, by omega⟩, hf, (by omega : (H.1 1826 30) ≤ (H1.1 1826 30) ∧ (H1.1 1826 30) ≤ (H.1 1826 29)), (by omega : 0 ≤ (H1.1 1826 35) ∧ (H1.1 1826 35) ≤ 5), (by omega : (H.1 1826 35) ≠ 0 → (H1.1 1826 35) ≠ 0), (by omega : 0 ≤ (H1.1 1826 32) ∧ (H1.1 1826 32) ≤ 1000), (by omega : ((H.1 1826 44) ≠ 2 → (H1.1 1826 39) = (H.1 1826 39)) ∧ (H.1 1826 39) ≤ (H1.1 1826 39)), (fun (q : (H1.1 1826 35) = 0) => absurd q (by omega))⟩
set_option maxRecDepth 100000 in
theorem m_term {zC : Nat → Option zsh} {d : Nat} (hd : 7 ≤ d) {H : hp} {t : Int} (h0 : 0 ≤ (H.1 1826 30) ∧ (H.1 1826 30) ≤ (H.1 1826 29) ∧ (H.1 1826 29) ≤ 1000) (hw : 0 ≤ (H.1 1826 35) ∧ (H.1 1826 35) ≤ 5) (hst : 0 ≤ (H.1 1826 32) ∧ (H.1 1826 32) ≤ 1000) (hP : PWc H) (hso : 1 ≤ (H.1 1826 44) ∧ (H.1 1826 44) ≤ 3) (ht : -1 ≤ t ∧ t < (H.1 1826 1)) (hop : 0 ≤ (H.1 1826 41) ∧ (H.1 1826 41) ≤ 10) (hs0 : (H.1 1826 35) = 0 → (H.1 1826 41) = 0 ∧ (H.1 1826 40) = 0 ∧ (H.1 1826 43) = 0 ∧ (0 ≤ (H.1 1826 39) ∧ (H.1 1826 39) ≤ 39 ∧ ((H.1 1826 44) = 2 → (H.1 1826 39) ≤ 6)) ∧ ((H.1 1826 44) = 2 → ∀ v : Nat, (v : Int) < (H.1 1826 39) → 0 ≤ (H.1 1850) v ∧ (H.1 1850) v < (H.1 1826 1))) : hG (zs zC) d mt_180 0 (zargs 0 [.inr (.inr 1826), .inl t]) [] H (fun r H2 => (∃ r0 : Int, r = some (.inl r0) ∧ -1 ≤ r0 ∧ r0 < (H.1 1826 1)) ∧ fr [30, 31, 32, 33, 35, 36, 39, 40, 41, 43, 47] [1849, 1850, 1851, 1852, 1853, 1854] H H2 ∧ ((H.1 1826 30) ≤ (H2.1 1826 30) ∧ (H2.1 1826 30) ≤ (H.1 1826 29)) ∧ (0 ≤ (H2.1 1826 35) ∧ (H2.1 1826 35) ≤ 5) ∧ ((H.1 1826 35) ≠ 0 → (H2.1 1826 35) ≠ 0) ∧ (0 ≤ (H2.1 1826 32) ∧ (H2.1 1826 32) ≤ 1000) ∧ (((H.1 1826 44) ≠ 2 → (H2.1 1826 39) = (H.1 1826 39)) ∧ (H.1 1826 39) ≤ (H2.1 1826 39)) ∧ hid ((H2.1 1826 35) = 0 → (∃ k : Nat, (H2.1 1826 43) = k ∧ k ≤ 40 ∧ tm (ma (H2.1 1833) (H2.1 1830)) (m_sg (H2.1 1826 3) (H2.1 1826 8) (H2.1 1826 39)) (H2.1 1851) k 0 1) ∧ TT H2 0)) := by
  refine h_rng (fun hrg0 => ?_)
  refine h_run 0 (pc' := 0) (l' := [(0, .inr (.inr 1826)), (1, .inl t)]) (st' := []) rfl ?_
  replace hs0 : hid _ := hs0
  obtain ⟨⟨pb1, -⟩, -⟩ := (id hP : PW H (H.1 1826 1) (H.1 1826 3) (H.1 1826 8) (H.1 1826 13) (H.1 1826 19))
  refine h_run 4 (pc' := 4) (l' := [(0, .inr (.inr 1826)), (1, .inl t), (2, .inl (-1))]) (st' := [.inl 0, .inr (.inr 1826)]) rfl ?_
  refine h_puti (i := 328) (ci := 13) (k := 47) (a := 1826) (x := 0) rfl rfl rfl rfl rfl rfl (by decide) (by decide) ?_
  refine h_run 8 (pc' := 19) (l' := [(0, .inr (.inr 1826)), (1, .inl t), (2, .inl (-1)), (3, .inl 1), (4, .inl t), (5, .inl 1)]) (st' := [.inl (H.1 1826 41)]) rfl ?_
  have g146 : -2147483648 ≤ (H.1 1826 41) ∧ (H.1 1826 41) ≤ 2147483647 := hrg0.1 1826 13 41 _ .int rfl rfl
  refine h_run 1 (pc' := 21) (l' := [(0, .inr (.inr 1826)), (1, .inl t), (2, .inl (-1)), (3, .inl 1), (4, .inl t), (5, .inl 1), (6, .inl (H.1 1826 41))]) (st' := []) rfl ?_
  have g147 : -2147483648 ≤ (H.1 1826 30) ∧ (H.1 1826 30) ≤ 2147483647 := hrg0.1 1826 13 30 _ .int rfl rfl
  have g148 : -2147483648 ≤ (H.1 1826 35) ∧ (H.1 1826 35) ≤ 2147483647 := hrg0.1 1826 13 35 _ .int rfl rfl
  have g149 : -2147483648 ≤ (H.1 1826 32) ∧ (H.1 1826 32) ≤ 2147483647 := hrg0.1 1826 13 32 _ .int rfl rfl
  have g150 : -2147483648 ≤ (H.1 1826 31) ∧ (H.1 1826 31) ≤ 2147483647 := hrg0.1 1826 13 31 _ .int rfl rfl
  have g151 : -2147483648 ≤ (H.1 1826 29) ∧ (H.1 1826 29) ≤ 2147483647 := hrg0.1 1826 13 29 _ .int rfl rfl
  have g152 : -2147483648 ≤ (H.1 1826 39) ∧ (H.1 1826 39) ≤ 2147483647 := hrg0.1 1826 13 39 _ .int rfl rfl
  have g153 : -2147483648 ≤ (H.1 1826 44) ∧ (H.1 1826 44) ≤ 2147483647 := hrg0.1 1826 13 44 _ .int rfl rfl
  refine h_loc [0, 2, 3, 4, 5, 6] rfl ?_
  exact (m_term_cut hd h0 hw hst hP hso ht hop hs0 _).1 _ (-1 : Int) t (1 : Int) (H.1 1826 41) (fr_o (fr_rf _ _ _) (by decide)) (by omega : (H.1 1826 30) ≤ (H.1 1826 30) ∧ (H.1 1826 30) ≤ (H.1 1826 29)) (by omega : 0 ≤ (H.1 1826 35) ∧ (H.1 1826 35) ≤ 5) (by omega : 0 ≤ (H.1 1826 32) ∧ (H.1 1826 32) ≤ 1000) (by omega : (H.1 1826 35) ≠ 0 → (H.1 1826 35) ≠ 0) (by omega : ((H.1 1826 44) ≠ 2 → (H.1 1826 39) = (H.1 1826 39)) ∧ (H.1 1826 39) ≤ (H.1 1826 39)) (by omega : -1 ≤ (-1 : Int) ∧ (-1 : Int) < (H.1 1826 1)) (by omega : -1 ≤ t ∧ t < (H.1 1826 1)) (by omega : 0 ≤ (1 : Int) ∧ (1 : Int) ≤ 1) (by omega : 0 ≤ (H.1 1826 41) ∧ (H.1 1826 41) ≤ 10) (fun (q : (H.1 1826 35) = 0) => TT_start ⟨rfl, (hs0 q).1⟩ ⟨(hs0 q).2.1, (hs0 q).2.2.1⟩ (hs0 q).2.2.2.1 (hs0 q).2.2.2.2) (Nat.lt_succ_self _)
