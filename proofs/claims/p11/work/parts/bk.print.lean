/-! the reference: printing once more, with how much it is; showing -/
/-! print -/
set_option maxRecDepth 100000 in
theorem m_print2_cut {zC : Nat → Option zsh} {d : Nat} (hd : 3 ≤ d) {H : hp} {c n k : Nat} {ok : Int → Prop} (hc : zs zC c = some (.inr (.int, n))) (hn : n ≤ 100000) (hcm : c ≠ 1826 ∧ c ∉ [1858, 1859, 1860]) (hok : ∀ s, ok s → sg0 s) (hP : PWc H) (hT : tm (ma (H.1 1833) (H.1 1830)) ok (H.1 c) k 0 1) (hk : k ≤ n ∧ k ≤ 240) : ∀ w : Nat, (∀ (H1 : hp) (dp : Nat) (i : Nat), (fr [59] [1858, 1859, 1860] H H1) → (i ≤ k ∧ dp ≤ i) → (0 ≤ (H1.1 1826 59) ∧ (H1.1 1826 59) + ((dp : Nat) : Int) ≤ 12 * i) → (∀ x, x < dp → (dp : Int) - i ≤ (H1.1 1859) x ∧ (H1.1 1859) x ≤ 4) → 1000 * (k - i) + 900 < w → hG (zs zC) d mt_206 18 [(0, .inr (.inr 1826)), (1, .inr (.inr c)), (2, .inl 0), (3, .inl (k : Int)), (4, .inl (dp : Int)), (5, .inl (i : Int))] [] H1 (fun r9 H2 => r9 = none ∧ fr [59] [1858, 1859, 1860] H H2 ∧ (0 ≤ (H2.1 1826 59) ∧ (H2.1 1826 59) ≤ 8000))) ∧ (∀ (H1 : hp) (dp : Nat) (i : Nat), (fr [59] [1858, 1859, 1860] H H1) → (i < k ∧ dp ≤ i + 1) → (0 ≤ (H1.1 1826 59) ∧ (H1.1 1826 59) + ((dp : Nat) : Int) ≤ 12 * (i + 1)) → (∀ x, x < dp → (dp : Int) - (i + 1) ≤ (H1.1 1859) x ∧ (H1.1 1859) x ≤ 4) → 1000 * (k - i) + dp < w → hG (zs zC) d mt_206 205 [(0, .inr (.inr 1826)), (1, .inr (.inr c)), (2, .inl 0), (3, .inl (k : Int)), (4, .inl (dp : Int)), (5, .inl (i : Int))] [] H1 (fun r9 H2 => r9 = none ∧ fr [59] [1858, 1859, 1860] H H2 ∧ (0 ≤ (H2.1 1826 59) ∧ (H2.1 1826 59) ≤ 8000))) := by
  intro w
  induction w with
  | zero => exact ⟨fun _ _ _ _ _ _ _ h => absurd h (Nat.not_lt_zero _), fun _ _ _ _ _ _ _ h => absurd h (Nat.not_lt_zero _)⟩
  | succ w ih =>
    refine ⟨?_, ?_⟩
    · intro H1 dp i hf hi hz hlk hw
      refine h_rng (fun hrg1 => ?_)
      obtain ⟨⟨pb1, pb2, pb3, pb4, pb5⟩, pw1, pw2, pw3, pw4⟩ := (id hP : PW H (H.1 1826 1) (H.1 1826 3) (H.1 1826 8) (H.1 1826 13) (H.1 1826 19))
      have eC : H1.1 c = H.1 c := hf.2.1 c hcm.1 hcm.2
      have eFA : (H1.1 1833) = (H.1 1833) := hf.2.1 1833 (by decide) (by decide)
      have eCA : (H1.1 1830) = (H.1 1830) := hf.2.1 1830 (by decide) (by decide)
      refine h_run 2 (pc' := 21) (l' := [(0, .inr (.inr 1826)), (1, .inr (.inr c)), (2, .inl 0), (3, .inl (k : Int)), (4, .inl (dp : Int)), (5, .inl (i : Int))]) (st' := [.inl (k : Int), .inl (i : Int)]) rfl ?_
      refine h_ige (off := 247) (t := 268) rfl rfl (by omega) (by omega) (fun c2 => ?_) (fun c2 => ?_)
      · refine h_ret rfl rfl ?_
        have g3 : -2147483648 ≤ (H1.1 1826 59) ∧ (H1.1 1826 59) ≤ 2147483647 := hrg1.1 1826 13 59 _ .int rfl rfl
        exact ⟨rfl, hf, (by omega : 0 ≤ (H1.1 1826 59) ∧ (H1.1 1826 59) ≤ 8000)⟩
      · refine h_run 2 (pc' := 27) (l' := [(0, .inr (.inr 1826)), (1, .inr (.inr c)), (2, .inl 0), (3, .inl (k : Int)), (4, .inl (dp : Int)), (5, .inl (i : Int))]) (st' := [.inl (i : Int), .inr (.inr c)]) rfl ?_
        refine h_ild (c := c) (j := i) (i := (i : Int)) rfl hc (by omega) rfl (by omega) ?_
        have g4 : -2147483648 ≤ (H1.1 c i) ∧ (H1.1 c i) ≤ 2147483647 := hrg1.2 c i n .int hc (by omega)
        refine h_run 0 (pc' := 28) (l' := [(0, .inr (.inr 1826)), (1, .inr (.inr c)), (2, .inl 0), (3, .inl (k : Int)), (4, .inl (dp : Int)), (5, .inl (i : Int))]) (st' := [.inl (H1.1 c i)]) rfl ?_
        have es : H1.1 c i = H.1 c i := by rw [eC]
        have hsx := tm_ok hT i (by omega)
        rw [Nat.zero_add] at hsx
        have hs0 : sg0 (H1.1 c i) := by rw [es]; exact hok _ hsx
        have hs9 : H1.1 c i = 0 ∨ (1 ≤ H1.1 c i ∧ H1.1 c i ≤ 16) ∨ (100 ≤ H1.1 c i ∧ H1.1 c i ≤ 115) ∨ (1000 ≤ H1.1 c i ∧ H1.1 c i ≤ 3000) := hs0
        have har : 0 ≤ ma (H1.1 1833) (H1.1 1830) (H1.1 c i) ∧ ma (H1.1 1833) (H1.1 1830) (H1.1 c i) ≤ 4 := by obtain ⟨m9, h9, h8⟩ := tm_ar hT i (by omega); rw [Nat.zero_add] at h9; rw [eFA, eCA, eC]; omega
        refine h_run 3 (pc' := 33) (l' := [(0, .inr (.inr 1826)), (1, .inr (.inr c)), (2, .inl 0), (3, .inl (k : Int)), (4, .inl (dp : Int)), (5, .inl (i : Int)), (6, .inl (H1.1 c i))]) (st' := [.inl (H1.1 c i), .inr (.inr 1826)]) rfl ?_
        refine h_cv (i := 244) (j := 154) (b := 1826) (M' := mt_154) (xs := [.inl (H1.1 c i)]) (rest := []) rfl rfl rfl rfl rfl rfl (Nat.le_of_ble_eq_true rfl) (Nat.le_of_ble_eq_true rfl) (by omega) (m_arity (by omega) hs0) ?_
        rintro _ _ ⟨rfl, rfl⟩
        refine h_run 0 (pc' := 36) (l' := [(0, .inr (.inr 1826)), (1, .inr (.inr c)), (2, .inl 0), (3, .inl (k : Int)), (4, .inl (dp : Int)), (5, .inl (i : Int)), (6, .inl (H1.1 c i))]) (st' := [.inl (ma (H1.1 1833) (H1.1 1830) (H1.1 c i))]) rfl ?_
        refine h_run 3 (pc' := 42) (l' := [(0, .inr (.inr 1826)), (1, .inr (.inr c)), (2, .inl 0), (3, .inl (k : Int)), (4, .inl (dp : Int)), (5, .inl (i : Int)), (6, .inl (H1.1 c i)), (7, .inl (ma (H1.1 1833) (H1.1 1830) (H1.1 c i)))]) (st' := [.inl (H1.1 1826 59)]) rfl ?_
        have g5 : -2147483648 ≤ (H1.1 1826 59) ∧ (H1.1 1826 59) ≤ 2147483647 := hrg1.1 1826 13 59 _ .int rfl rfl
        refine h_zle (off := 9) (t := 51) rfl rfl (by omega) (fun c6 => ?_) (fun c6 => ?_)
        · refine h_run 1 (pc' := 53) (l' := [(0, .inr (.inr 1826)), (1, .inr (.inr c)), (2, .inl 0), (3, .inl (k : Int)), (4, .inl (dp : Int)), (5, .inl (i : Int)), (6, .inl (H1.1 c i)), (7, .inl (ma (H1.1 1833) (H1.1 1830) (H1.1 c i)))]) (st' := [.inl (ma (H1.1 1833) (H1.1 1830) (H1.1 c i))]) rfl ?_
          refine h_zle (off := 13) (t := 66) rfl rfl (by omega) (fun c7 => ?_) (fun c7 => ?_)
          · refine h_run 3 (pc' := 71) (l' := [(0, .inr (.inr 1826)), (1, .inr (.inr c)), (2, .inl 0), (3, .inl (k : Int)), (4, .inl (dp : Int)), (5, .inl (i : Int)), (6, .inl (H1.1 c i)), (7, .inl (ma (H1.1 1833) (H1.1 1830) (H1.1 c i))), (8, .inl 0)]) (st' := [.inl 0]) rfl ?_
            refine h_zeq (off := 9) (t := 80) rfl rfl (by decide) (fun _ => ?_) (fun c => absurd c (by decide))
            refine h_run 1 (pc' := 82) (l' := [(0, .inr (.inr 1826)), (1, .inr (.inr c)), (2, .inl 0), (3, .inl (k : Int)), (4, .inl (dp : Int)), (5, .inl (i : Int)), (6, .inl (H1.1 c i)), (7, .inl (ma (H1.1 1833) (H1.1 1830) (H1.1 c i))), (8, .inl 0)]) (st' := [.inl (H1.1 c i)]) rfl ?_
            refine h_zne (off := 12) (t := 94) rfl rfl (by omega) (fun c8 => ?_) (fun c8 => ?_)
            · refine h_run 2 (pc' := 99) (l' := [(0, .inr (.inr 1826)), (1, .inr (.inr c)), (2, .inl 0), (3, .inl (k : Int)), (4, .inl (dp : Int)), (5, .inl (i : Int)), (6, .inl (H1.1 c i)), (7, .inl (ma (H1.1 1833) (H1.1 1830) (H1.1 c i))), (8, .inl 0)]) (st' := [.inl 1000, .inl (H1.1 c i)]) rfl ?_
              refine h_ilt (off := 52) (t := 151) rfl rfl (by omega) (by decide) (fun c9 => ?_) (fun c9 => ?_)
              · refine h_run 3 (pc' := 156) (l' := [(0, .inr (.inr 1826)), (1, .inr (.inr c)), (2, .inl 0), (3, .inl (k : Int)), (4, .inl (dp : Int)), (5, .inl (i : Int)), (6, .inl (H1.1 c i)), (7, .inl (ma (H1.1 1833) (H1.1 1830) (H1.1 c i))), (8, .inl 0)]) (st' := [.inl 100, .inl (H1.1 c i), .inr (.inr 1826)]) rfl ?_
                refine h_ilt (off := 16) (t := 172) rfl rfl (by omega) (by decide) (fun c10 => ?_) (fun c10 => ?_)
                · refine h_run 5 (pc' := 180) (l' := [(0, .inr (.inr 1826)), (1, .inr (.inr c)), (2, .inl 0), (3, .inl (k : Int)), (4, .inl (dp : Int)), (5, .inl (i : Int)), (6, .inl (H1.1 c i)), (7, .inl (ma (H1.1 1833) (H1.1 1830) (H1.1 c i))), (8, .inl 0)]) (st' := [.inl ((H1.1 c i) - 1), .inr (.inr 1828), .inr (.inr 1826)]) rfl ?_
                  refine h_lld (c := 1828) (j := (((H1.1 c i) - 1)).toNat) (i := ((H1.1 c i) - 1)) rfl rfl (by decide) (by omega) (by omega) ?_
                  have g11 : -9223372036854775808 ≤ (H1.1 1828 (((H1.1 c i) - 1)).toNat) ∧ (H1.1 1828 (((H1.1 c i) - 1)).toNat) ≤ 9223372036854775807 := hrg1.2 1828 (((H1.1 c i) - 1)).toNat 16 .long rfl (by omega)
                  have e12 : (H1.1 1828 (((H1.1 c i) - 1)).toNat) = (H.1 1828 (((H1.1 c i) - 1)).toNat) := congrFun (hf.2.1 1828 (by decide) (by decide)) (((H1.1 c i) - 1)).toNat
                  refine h_run 0 (pc' := 181) (l' := [(0, .inr (.inr 1826)), (1, .inr (.inr c)), (2, .inl 0), (3, .inl (k : Int)), (4, .inl (dp : Int)), (5, .inl (i : Int)), (6, .inl (H1.1 c i)), (7, .inl (ma (H1.1 1833) (H1.1 1830) (H1.1 c i))), (8, .inl 0)]) (st' := [.inr (.inl (H1.1 1828 (((H1.1 c i) - 1)).toNat)), .inr (.inr 1826)]) rfl ?_
                  refine h_cv (i := 479) (j := 204) (b := 1826) (M' := mt_204) (xs := [.inr (.inl (H1.1 1828 (((H1.1 c i) - 1)).toNat))]) (rest := []) rfl rfl rfl rfl rfl rfl (Nat.le_of_ble_eq_true rfl) (Nat.le_of_ble_eq_true rfl) (by omega) (m_putName (by omega) (by omega : 0 ≤ (H1.1 1826 59) ∧ (H1.1 1826 59) ≤ 7900)) ?_
                  rintro _ H13 ⟨rfl, hx13f, hx13z⟩
                  refine h_rng (fun hrg14 => ?_)
                  have hf15 : fr [59] [1858, 1859, 1860] H H13 := fr_t hf hx13f (by decide) (by decide)
                  replace hx13z : (H1.1 1826 59) ≤ (H13.1 1826 59) ∧ (H13.1 1826 59) ≤ (H1.1 1826 59) + 8 := hx13z
                  refine h_run 0 (pc' := 184) (l' := [(0, .inr (.inr 1826)), (1, .inr (.inr c)), (2, .inl 0), (3, .inl (k : Int)), (4, .inl (dp : Int)), (5, .inl (i : Int)), (6, .inl (H1.1 c i)), (7, .inl (ma (H1.1 1833) (H1.1 1830) (H1.1 c i))), (8, .inl 0)]) (st' := []) rfl ?_
                  refine h_run 4 (pc' := 192) (l' := [(0, .inr (.inr 1826)), (1, .inr (.inr c)), (2, .inl 0), (3, .inl (k : Int)), (4, .inl (dp : Int)), (5, .inl (i : Int)), (6, .inl (H1.1 c i)), (7, .inl (ma (H1.1 1833) (H1.1 1830) (H1.1 c i))), (8, .inl 0)]) (st' := [.inl (ma (H1.1 1833) (H1.1 1830) (H1.1 c i)), .inl (dp : Int), .inr (.inr 1859)]) rfl ?_
                  refine h_ist (c := 1859) (j := dp) (i := (dp : Int)) (x := (ma (H1.1 1833) (H1.1 1830) (H1.1 c i))) rfl rfl (by decide) (by decide) rfl (by omega) (by omega) ?_
                  refine h_run 4 (pc' := 201) (l' := [(0, .inr (.inr 1826)), (1, .inr (.inr c)), (2, .inl 0), (3, .inl (k : Int)), (4, .inl (dp : Int)), (5, .inl (i : Int)), (6, .inl (H1.1 c i)), (7, .inl (ma (H1.1 1833) (H1.1 1830) (H1.1 c i))), (8, .inl 0)]) (st' := [.inl 0, .inl (dp : Int), .inr (.inr 1860)]) rfl ?_
                  refine h_bst (c := 1860) (j := dp) (i := (dp : Int)) (x := 0) (Or.inr rfl) rfl rfl (by decide) (by decide) rfl (by omega) (show (0 : Int) ≤ 0 ∧ 0 ≤ 1 by omega) ?_
                  refine h_run 1 (pc' := 205) (l' := [(0, .inr (.inr 1826)), (1, .inr (.inr c)), (2, .inl 0), (3, .inl (k : Int)), (4, .inl ((dp : Int) + 1)), (5, .inl (i : Int)), (6, .inl (H1.1 c i)), (7, .inl (ma (H1.1 1833) (H1.1 1830) (H1.1 c i))), (8, .inl 0)]) (st' := []) rfl ?_
                  have g16 : -2147483648 ≤ (H13.1 1826 59) ∧ (H13.1 1826 59) ≤ 2147483647 := hrg14.1 1826 13 59 _ .int rfl rfl
                  refine h_loc [0, 1, 2, 3, 4, 5] rfl ?_
                  rw [show ((dp : Int) + 1) = (((dp + 1) : Nat) : Int) by omega]
                  exact ih.2 _ (dp + 1) i (fr_a (fr_a hf15 (by decide)) (by decide)) (by omega) (by omega : 0 ≤ (H13.1 1826 59) ∧ (H13.1 1826 59) + (((dp + 1) : Nat) : Int) ≤ 12 * (i + 1)) (fun x hx => by show (dp : Int) + 1 - (i + 1) ≤ up (H13.1 1859) dp (ma (H1.1 1833) (H1.1 1830) (H1.1 c i)) x ∧ up (H13.1 1859) dp (ma (H1.1 1833) (H1.1 1830) (H1.1 c i)) x ≤ 4; rw [up_if]; by_cases e9 : x = dp; { rw [if_pos e9]; omega }; { rw [if_neg e9, show (H13.1 1859) = (H1.1 1859) from (hx13f.2.1 1859 (by decide) (by decide))]; have h9 := hlk x (by omega); omega }) (by omega : 1000 * (k - i) + (dp + 1) < w)
                · refine h_run 5 (pc' := 168) (l' := [(0, .inr (.inr 1826)), (1, .inr (.inr c)), (2, .inl 0), (3, .inl (k : Int)), (4, .inl (dp : Int)), (5, .inl (i : Int)), (6, .inl (H1.1 c i)), (7, .inl (ma (H1.1 1833) (H1.1 1830) (H1.1 c i))), (8, .inl 0)]) (st' := [.inl ((H1.1 c i) - 100), .inr (.inr 1832), .inr (.inr 1826)]) rfl ?_
                  refine h_lld (c := 1832) (j := (((H1.1 c i) - 100)).toNat) (i := ((H1.1 c i) - 100)) rfl rfl (by decide) (by omega) (by omega) ?_
                  have g17 : -9223372036854775808 ≤ (H1.1 1832 (((H1.1 c i) - 100)).toNat) ∧ (H1.1 1832 (((H1.1 c i) - 100)).toNat) ≤ 9223372036854775807 := hrg1.2 1832 (((H1.1 c i) - 100)).toNat 16 .long rfl (by omega)
                  have e18 : (H1.1 1832 (((H1.1 c i) - 100)).toNat) = (H.1 1832 (((H1.1 c i) - 100)).toNat) := congrFun (hf.2.1 1832 (by decide) (by decide)) (((H1.1 c i) - 100)).toNat
                  refine h_run 0 (pc' := 169) (l' := [(0, .inr (.inr 1826)), (1, .inr (.inr c)), (2, .inl 0), (3, .inl (k : Int)), (4, .inl (dp : Int)), (5, .inl (i : Int)), (6, .inl (H1.1 c i)), (7, .inl (ma (H1.1 1833) (H1.1 1830) (H1.1 c i))), (8, .inl 0)]) (st' := [.inr (.inl (H1.1 1832 (((H1.1 c i) - 100)).toNat)), .inr (.inr 1826)]) rfl ?_
                  refine h_run 1 (pc' := 181) (l' := [(0, .inr (.inr 1826)), (1, .inr (.inr c)), (2, .inl 0), (3, .inl (k : Int)), (4, .inl (dp : Int)), (5, .inl (i : Int)), (6, .inl (H1.1 c i)), (7, .inl (ma (H1.1 1833) (H1.1 1830) (H1.1 c i))), (8, .inl 0)]) (st' := [.inr (.inl (H1.1 1832 (((H1.1 c i) - 100)).toNat)), .inr (.inr 1826)]) rfl ?_
                  refine h_cv (i := 479) (j := 204) (b := 1826) (M' := mt_204) (xs := [.inr (.inl (H1.1 1832 (((H1.1 c i) - 100)).toNat))]) (rest := []) rfl rfl rfl rfl rfl rfl (Nat.le_of_ble_eq_true rfl) (Nat.le_of_ble_eq_true rfl) (by omega) (m_putName (by omega) (by omega : 0 ≤ (H1.1 1826 59) ∧ (H1.1 1826 59) ≤ 7900)) ?_
                  rintro _ H19 ⟨rfl, hx19f, hx19z⟩
                  refine h_rng (fun hrg20 => ?_)
                  have hf21 : fr [59] [1858, 1859, 1860] H H19 := fr_t hf hx19f (by decide) (by decide)
                  replace hx19z : (H1.1 1826 59) ≤ (H19.1 1826 59) ∧ (H19.1 1826 59) ≤ (H1.1 1826 59) + 8 := hx19z
                  refine h_run 0 (pc' := 184) (l' := [(0, .inr (.inr 1826)), (1, .inr (.inr c)), (2, .inl 0), (3, .inl (k : Int)), (4, .inl (dp : Int)), (5, .inl (i : Int)), (6, .inl (H1.1 c i)), (7, .inl (ma (H1.1 1833) (H1.1 1830) (H1.1 c i))), (8, .inl 0)]) (st' := []) rfl ?_
                  refine h_run 4 (pc' := 192) (l' := [(0, .inr (.inr 1826)), (1, .inr (.inr c)), (2, .inl 0), (3, .inl (k : Int)), (4, .inl (dp : Int)), (5, .inl (i : Int)), (6, .inl (H1.1 c i)), (7, .inl (ma (H1.1 1833) (H1.1 1830) (H1.1 c i))), (8, .inl 0)]) (st' := [.inl (ma (H1.1 1833) (H1.1 1830) (H1.1 c i)), .inl (dp : Int), .inr (.inr 1859)]) rfl ?_
                  refine h_ist (c := 1859) (j := dp) (i := (dp : Int)) (x := (ma (H1.1 1833) (H1.1 1830) (H1.1 c i))) rfl rfl (by decide) (by decide) rfl (by omega) (by omega) ?_
                  refine h_run 4 (pc' := 201) (l' := [(0, .inr (.inr 1826)), (1, .inr (.inr c)), (2, .inl 0), (3, .inl (k : Int)), (4, .inl (dp : Int)), (5, .inl (i : Int)), (6, .inl (H1.1 c i)), (7, .inl (ma (H1.1 1833) (H1.1 1830) (H1.1 c i))), (8, .inl 0)]) (st' := [.inl 0, .inl (dp : Int), .inr (.inr 1860)]) rfl ?_
                  refine h_bst (c := 1860) (j := dp) (i := (dp : Int)) (x := 0) (Or.inr rfl) rfl rfl (by decide) (by decide) rfl (by omega) (show (0 : Int) ≤ 0 ∧ 0 ≤ 1 by omega) ?_
                  refine h_run 1 (pc' := 205) (l' := [(0, .inr (.inr 1826)), (1, .inr (.inr c)), (2, .inl 0), (3, .inl (k : Int)), (4, .inl ((dp : Int) + 1)), (5, .inl (i : Int)), (6, .inl (H1.1 c i)), (7, .inl (ma (H1.1 1833) (H1.1 1830) (H1.1 c i))), (8, .inl 0)]) (st' := []) rfl ?_
                  have g22 : -2147483648 ≤ (H19.1 1826 59) ∧ (H19.1 1826 59) ≤ 2147483647 := hrg20.1 1826 13 59 _ .int rfl rfl
                  refine h_loc [0, 1, 2, 3, 4, 5] rfl ?_
                  rw [show ((dp : Int) + 1) = (((dp + 1) : Nat) : Int) by omega]
                  exact ih.2 _ (dp + 1) i (fr_a (fr_a hf21 (by decide)) (by decide)) (by omega) (by omega : 0 ≤ (H19.1 1826 59) ∧ (H19.1 1826 59) + (((dp + 1) : Nat) : Int) ≤ 12 * (i + 1)) (fun x hx => by show (dp : Int) + 1 - (i + 1) ≤ up (H19.1 1859) dp (ma (H1.1 1833) (H1.1 1830) (H1.1 c i)) x ∧ up (H19.1 1859) dp (ma (H1.1 1833) (H1.1 1830) (H1.1 c i)) x ≤ 4; rw [up_if]; by_cases e9 : x = dp; { rw [if_pos e9]; omega }; { rw [if_neg e9, show (H19.1 1859) = (H1.1 1859) from (hx19f.2.1 1859 (by decide) (by decide))]; have h9 := hlk x (by omega); omega }) (by omega : 1000 * (k - i) + (dp + 1) < w)
              · refine h_run 3 (pc' := 108) (l' := [(0, .inr (.inr 1826)), (1, .inr (.inr c)), (2, .inl 0), (3, .inl (k : Int)), (4, .inl (dp : Int)), (5, .inl (i : Int)), (6, .inl (H1.1 c i)), (7, .inl (ma (H1.1 1833) (H1.1 1830) (H1.1 c i))), (8, .inl 0)]) (st' := [.inl 2000, .inl (H1.1 c i), .inr (.inr 1826)]) rfl ?_
                refine h_ilt (off := 8) (t := 116) rfl rfl (by omega) (by decide) (fun c23 => ?_) (fun c23 => ?_)
                · refine h_run 1 (pc' := 118) (l' := [(0, .inr (.inr 1826)), (1, .inr (.inr c)), (2, .inl 0), (3, .inl (k : Int)), (4, .inl (dp : Int)), (5, .inl (i : Int)), (6, .inl (H1.1 c i)), (7, .inl (ma (H1.1 1833) (H1.1 1830) (H1.1 c i))), (8, .inl 0)]) (st' := [.inl 118, .inr (.inr 1826)]) rfl ?_
                  refine h_cv (i := 473) (j := 203) (b := 1826) (M' := mt_203) (xs := [.inl 118]) (rest := []) rfl rfl rfl rfl rfl rfl (Nat.le_of_ble_eq_true rfl) (Nat.le_of_ble_eq_true rfl) (by omega) (m_letter (by omega) (by omega : 0 ≤ (H1.1 1826 59) ∧ (H1.1 1826 59) ≤ 7950)) ?_
                  rintro _ H24 ⟨rfl, hx24f, hx24z⟩
                  refine h_rng (fun hrg25 => ?_)
                  have hf26 : fr [59] [1858, 1859, 1860] H H24 := fr_t hf hx24f (by decide) (by decide)
                  replace hx24z : (H1.1 1826 59) ≤ (H24.1 1826 59) ∧ (H24.1 1826 59) ≤ (H1.1 1826 59) + 1 := hx24z
                  refine h_run 0 (pc' := 121) (l' := [(0, .inr (.inr 1826)), (1, .inr (.inr c)), (2, .inl 0), (3, .inl (k : Int)), (4, .inl (dp : Int)), (5, .inl (i : Int)), (6, .inl (H1.1 c i)), (7, .inl (ma (H1.1 1833) (H1.1 1830) (H1.1 c i))), (8, .inl 0)]) (st' := []) rfl ?_
                  refine h_run 3 (pc' := 127) (l' := [(0, .inr (.inr 1826)), (1, .inr (.inr c)), (2, .inl 0), (3, .inl (k : Int)), (4, .inl (dp : Int)), (5, .inl (i : Int)), (6, .inl (H1.1 c i)), (7, .inl (ma (H1.1 1833) (H1.1 1830) (H1.1 c i))), (8, .inl 0)]) (st' := [.inl 2000, .inl (H1.1 c i), .inr (.inr 1826)]) rfl ?_
                  refine h_ilt (off := 12) (t := 139) rfl rfl (by omega) (by decide) (fun c27 => ?_) (fun c27 => ?_)
                  · refine h_run 3 (pc' := 145) (l' := [(0, .inr (.inr 1826)), (1, .inr (.inr c)), (2, .inl 0), (3, .inl (k : Int)), (4, .inl (dp : Int)), (5, .inl (i : Int)), (6, .inl (H1.1 c i)), (7, .inl (ma (H1.1 1833) (H1.1 1830) (H1.1 c i))), (8, .inl 0)]) (st' := [.inl ((H1.1 c i) - 1000), .inr (.inr 1826)]) rfl ?_
                    have g28 : -2147483648 ≤ (H24.1 1826 59) ∧ (H24.1 1826 59) ≤ 2147483647 := hrg25.1 1826 13 59 _ .int rfl rfl
                    refine h_cv (i := 476) (j := 205) (b := 1826) (M' := mt_205) (xs := [.inl ((H1.1 c i) - 1000)]) (rest := []) rfl rfl rfl rfl rfl rfl (Nat.le_of_ble_eq_true rfl) (Nat.le_of_ble_eq_true rfl) (by omega) (m_putNumber (by omega) (by omega : 0 ≤ (H24.1 1826 59) ∧ (H24.1 1826 59) ≤ 7900) (by omega)) ?_
                    rintro _ H29 ⟨rfl, hx29f, hx29z⟩
                    refine h_rng (fun hrg30 => ?_)
                    have hf31 : fr [59] [1858, 1859, 1860] H H29 := fr_t hf26 hx29f (by decide) (by decide)
                    replace hx29z : (H24.1 1826 59) ≤ (H29.1 1826 59) ∧ (H29.1 1826 59) ≤ (H24.1 1826 59) + 2 := hx29z
                    refine h_run 0 (pc' := 148) (l' := [(0, .inr (.inr 1826)), (1, .inr (.inr c)), (2, .inl 0), (3, .inl (k : Int)), (4, .inl (dp : Int)), (5, .inl (i : Int)), (6, .inl (H1.1 c i)), (7, .inl (ma (H1.1 1833) (H1.1 1830) (H1.1 c i))), (8, .inl 0)]) (st' := []) rfl ?_
                    refine h_run 5 (pc' := 192) (l' := [(0, .inr (.inr 1826)), (1, .inr (.inr c)), (2, .inl 0), (3, .inl (k : Int)), (4, .inl (dp : Int)), (5, .inl (i : Int)), (6, .inl (H1.1 c i)), (7, .inl (ma (H1.1 1833) (H1.1 1830) (H1.1 c i))), (8, .inl 0)]) (st' := [.inl (ma (H1.1 1833) (H1.1 1830) (H1.1 c i)), .inl (dp : Int), .inr (.inr 1859)]) rfl ?_
                    refine h_ist (c := 1859) (j := dp) (i := (dp : Int)) (x := (ma (H1.1 1833) (H1.1 1830) (H1.1 c i))) rfl rfl (by decide) (by decide) rfl (by omega) (by omega) ?_
                    refine h_run 4 (pc' := 201) (l' := [(0, .inr (.inr 1826)), (1, .inr (.inr c)), (2, .inl 0), (3, .inl (k : Int)), (4, .inl (dp : Int)), (5, .inl (i : Int)), (6, .inl (H1.1 c i)), (7, .inl (ma (H1.1 1833) (H1.1 1830) (H1.1 c i))), (8, .inl 0)]) (st' := [.inl 0, .inl (dp : Int), .inr (.inr 1860)]) rfl ?_
                    refine h_bst (c := 1860) (j := dp) (i := (dp : Int)) (x := 0) (Or.inr rfl) rfl rfl (by decide) (by decide) rfl (by omega) (show (0 : Int) ≤ 0 ∧ 0 ≤ 1 by omega) ?_
                    refine h_run 1 (pc' := 205) (l' := [(0, .inr (.inr 1826)), (1, .inr (.inr c)), (2, .inl 0), (3, .inl (k : Int)), (4, .inl ((dp : Int) + 1)), (5, .inl (i : Int)), (6, .inl (H1.1 c i)), (7, .inl (ma (H1.1 1833) (H1.1 1830) (H1.1 c i))), (8, .inl 0)]) (st' := []) rfl ?_
                    have g32 : -2147483648 ≤ (H29.1 1826 59) ∧ (H29.1 1826 59) ≤ 2147483647 := hrg30.1 1826 13 59 _ .int rfl rfl
                    refine h_loc [0, 1, 2, 3, 4, 5] rfl ?_
                    rw [show ((dp : Int) + 1) = (((dp + 1) : Nat) : Int) by omega]
                    exact ih.2 _ (dp + 1) i (fr_a (fr_a hf31 (by decide)) (by decide)) (by omega) (by omega : 0 ≤ (H29.1 1826 59) ∧ (H29.1 1826 59) + (((dp + 1) : Nat) : Int) ≤ 12 * (i + 1)) (fun x hx => by show (dp : Int) + 1 - (i + 1) ≤ up (H29.1 1859) dp (ma (H1.1 1833) (H1.1 1830) (H1.1 c i)) x ∧ up (H29.1 1859) dp (ma (H1.1 1833) (H1.1 1830) (H1.1 c i)) x ≤ 4; rw [up_if]; by_cases e9 : x = dp; { rw [if_pos e9]; omega }; { rw [if_neg e9, show (H29.1 1859) = (H1.1 1859) from ((hx29f.2.1 1859 (by decide) (by decide)).trans (hx24f.2.1 1859 (by decide) (by decide)))]; have h9 := hlk x (by omega); omega }) (by omega : 1000 * (k - i) + (dp + 1) < w)
                  · exfalso
                    omega
                · refine h_run 2 (pc' := 118) (l' := [(0, .inr (.inr 1826)), (1, .inr (.inr c)), (2, .inl 0), (3, .inl (k : Int)), (4, .inl (dp : Int)), (5, .inl (i : Int)), (6, .inl (H1.1 c i)), (7, .inl (ma (H1.1 1833) (H1.1 1830) (H1.1 c i))), (8, .inl 0)]) (st' := [.inl 102, .inr (.inr 1826)]) rfl ?_
                  refine h_cv (i := 473) (j := 203) (b := 1826) (M' := mt_203) (xs := [.inl 102]) (rest := []) rfl rfl rfl rfl rfl rfl (Nat.le_of_ble_eq_true rfl) (Nat.le_of_ble_eq_true rfl) (by omega) (m_letter (by omega) (by omega : 0 ≤ (H1.1 1826 59) ∧ (H1.1 1826 59) ≤ 7950)) ?_
                  rintro _ H33 ⟨rfl, hx33f, hx33z⟩
                  refine h_rng (fun hrg34 => ?_)
                  have hf35 : fr [59] [1858, 1859, 1860] H H33 := fr_t hf hx33f (by decide) (by decide)
                  replace hx33z : (H1.1 1826 59) ≤ (H33.1 1826 59) ∧ (H33.1 1826 59) ≤ (H1.1 1826 59) + 1 := hx33z
                  refine h_run 0 (pc' := 121) (l' := [(0, .inr (.inr 1826)), (1, .inr (.inr c)), (2, .inl 0), (3, .inl (k : Int)), (4, .inl (dp : Int)), (5, .inl (i : Int)), (6, .inl (H1.1 c i)), (7, .inl (ma (H1.1 1833) (H1.1 1830) (H1.1 c i))), (8, .inl 0)]) (st' := []) rfl ?_
                  refine h_run 3 (pc' := 127) (l' := [(0, .inr (.inr 1826)), (1, .inr (.inr c)), (2, .inl 0), (3, .inl (k : Int)), (4, .inl (dp : Int)), (5, .inl (i : Int)), (6, .inl (H1.1 c i)), (7, .inl (ma (H1.1 1833) (H1.1 1830) (H1.1 c i))), (8, .inl 0)]) (st' := [.inl 2000, .inl (H1.1 c i), .inr (.inr 1826)]) rfl ?_
                  refine h_ilt (off := 12) (t := 139) rfl rfl (by omega) (by decide) (fun c36 => ?_) (fun c36 => ?_)
                  · exfalso
                    omega
                  · refine h_run 4 (pc' := 145) (l' := [(0, .inr (.inr 1826)), (1, .inr (.inr c)), (2, .inl 0), (3, .inl (k : Int)), (4, .inl (dp : Int)), (5, .inl (i : Int)), (6, .inl (H1.1 c i)), (7, .inl (ma (H1.1 1833) (H1.1 1830) (H1.1 c i))), (8, .inl 0)]) (st' := [.inl ((H1.1 c i) - 2000), .inr (.inr 1826)]) rfl ?_
                    have g37 : -2147483648 ≤ (H33.1 1826 59) ∧ (H33.1 1826 59) ≤ 2147483647 := hrg34.1 1826 13 59 _ .int rfl rfl
                    refine h_cv (i := 476) (j := 205) (b := 1826) (M' := mt_205) (xs := [.inl ((H1.1 c i) - 2000)]) (rest := []) rfl rfl rfl rfl rfl rfl (Nat.le_of_ble_eq_true rfl) (Nat.le_of_ble_eq_true rfl) (by omega) (m_putNumber (by omega) (by omega : 0 ≤ (H33.1 1826 59) ∧ (H33.1 1826 59) ≤ 7900) (by omega)) ?_
                    rintro _ H38 ⟨rfl, hx38f, hx38z⟩
                    refine h_rng (fun hrg39 => ?_)
                    have hf40 : fr [59] [1858, 1859, 1860] H H38 := fr_t hf35 hx38f (by decide) (by decide)
                    replace hx38z : (H33.1 1826 59) ≤ (H38.1 1826 59) ∧ (H38.1 1826 59) ≤ (H33.1 1826 59) + 2 := hx38z
                    refine h_run 0 (pc' := 148) (l' := [(0, .inr (.inr 1826)), (1, .inr (.inr c)), (2, .inl 0), (3, .inl (k : Int)), (4, .inl (dp : Int)), (5, .inl (i : Int)), (6, .inl (H1.1 c i)), (7, .inl (ma (H1.1 1833) (H1.1 1830) (H1.1 c i))), (8, .inl 0)]) (st' := []) rfl ?_
                    refine h_run 5 (pc' := 192) (l' := [(0, .inr (.inr 1826)), (1, .inr (.inr c)), (2, .inl 0), (3, .inl (k : Int)), (4, .inl (dp : Int)), (5, .inl (i : Int)), (6, .inl (H1.1 c i)), (7, .inl (ma (H1.1 1833) (H1.1 1830) (H1.1 c i))), (8, .inl 0)]) (st' := [.inl (ma (H1.1 1833) (H1.1 1830) (H1.1 c i)), .inl (dp : Int), .inr (.inr 1859)]) rfl ?_
                    refine h_ist (c := 1859) (j := dp) (i := (dp : Int)) (x := (ma (H1.1 1833) (H1.1 1830) (H1.1 c i))) rfl rfl (by decide) (by decide) rfl (by omega) (by omega) ?_
                    refine h_run 4 (pc' := 201) (l' := [(0, .inr (.inr 1826)), (1, .inr (.inr c)), (2, .inl 0), (3, .inl (k : Int)), (4, .inl (dp : Int)), (5, .inl (i : Int)), (6, .inl (H1.1 c i)), (7, .inl (ma (H1.1 1833) (H1.1 1830) (H1.1 c i))), (8, .inl 0)]) (st' := [.inl 0, .inl (dp : Int), .inr (.inr 1860)]) rfl ?_
                    refine h_bst (c := 1860) (j := dp) (i := (dp : Int)) (x := 0) (Or.inr rfl) rfl rfl (by decide) (by decide) rfl (by omega) (show (0 : Int) ≤ 0 ∧ 0 ≤ 1 by omega) ?_
                    refine h_run 1 (pc' := 205) (l' := [(0, .inr (.inr 1826)), (1, .inr (.inr c)), (2, .inl 0), (3, .inl (k : Int)), (4, .inl ((dp : Int) + 1)), (5, .inl (i : Int)), (6, .inl (H1.1 c i)), (7, .inl (ma (H1.1 1833) (H1.1 1830) (H1.1 c i))), (8, .inl 0)]) (st' := []) rfl ?_
                    have g41 : -2147483648 ≤ (H38.1 1826 59) ∧ (H38.1 1826 59) ≤ 2147483647 := hrg39.1 1826 13 59 _ .int rfl rfl
                    refine h_loc [0, 1, 2, 3, 4, 5] rfl ?_
                    rw [show ((dp : Int) + 1) = (((dp + 1) : Nat) : Int) by omega]
                    exact ih.2 _ (dp + 1) i (fr_a (fr_a hf40 (by decide)) (by decide)) (by omega) (by omega : 0 ≤ (H38.1 1826 59) ∧ (H38.1 1826 59) + (((dp + 1) : Nat) : Int) ≤ 12 * (i + 1)) (fun x hx => by show (dp : Int) + 1 - (i + 1) ≤ up (H38.1 1859) dp (ma (H1.1 1833) (H1.1 1830) (H1.1 c i)) x ∧ up (H38.1 1859) dp (ma (H1.1 1833) (H1.1 1830) (H1.1 c i)) x ≤ 4; rw [up_if]; by_cases e9 : x = dp; { rw [if_pos e9]; omega }; { rw [if_neg e9, show (H38.1 1859) = (H1.1 1859) from ((hx38f.2.1 1859 (by decide) (by decide)).trans (hx33f.2.1 1859 (by decide) (by decide)))]; have h9 := hlk x (by omega); omega }) (by omega : 1000 * (k - i) + (dp + 1) < w)
            · refine h_run 2 (pc' := 88) (l' := [(0, .inr (.inr 1826)), (1, .inr (.inr c)), (2, .inl 0), (3, .inl (k : Int)), (4, .inl (dp : Int)), (5, .inl (i : Int)), (6, .inl (H1.1 c i)), (7, .inl (ma (H1.1 1833) (H1.1 1830) (H1.1 c i))), (8, .inl 0)]) (st' := [.inl 95, .inr (.inr 1826)]) rfl ?_
              refine h_cv (i := 473) (j := 203) (b := 1826) (M' := mt_203) (xs := [.inl 95]) (rest := []) rfl rfl rfl rfl rfl rfl (Nat.le_of_ble_eq_true rfl) (Nat.le_of_ble_eq_true rfl) (by omega) (m_letter (by omega) (by omega : 0 ≤ (H1.1 1826 59) ∧ (H1.1 1826 59) ≤ 7950)) ?_
              rintro _ H42 ⟨rfl, hx42f, hx42z⟩
              refine h_rng (fun hrg43 => ?_)
              have hf44 : fr [59] [1858, 1859, 1860] H H42 := fr_t hf hx42f (by decide) (by decide)
              replace hx42z : (H1.1 1826 59) ≤ (H42.1 1826 59) ∧ (H42.1 1826 59) ≤ (H1.1 1826 59) + 1 := hx42z
              refine h_run 0 (pc' := 91) (l' := [(0, .inr (.inr 1826)), (1, .inr (.inr c)), (2, .inl 0), (3, .inl (k : Int)), (4, .inl (dp : Int)), (5, .inl (i : Int)), (6, .inl (H1.1 c i)), (7, .inl (ma (H1.1 1833) (H1.1 1830) (H1.1 c i))), (8, .inl 0)]) (st' := []) rfl ?_
              refine h_run 5 (pc' := 192) (l' := [(0, .inr (.inr 1826)), (1, .inr (.inr c)), (2, .inl 0), (3, .inl (k : Int)), (4, .inl (dp : Int)), (5, .inl (i : Int)), (6, .inl (H1.1 c i)), (7, .inl (ma (H1.1 1833) (H1.1 1830) (H1.1 c i))), (8, .inl 0)]) (st' := [.inl (ma (H1.1 1833) (H1.1 1830) (H1.1 c i)), .inl (dp : Int), .inr (.inr 1859)]) rfl ?_
              refine h_ist (c := 1859) (j := dp) (i := (dp : Int)) (x := (ma (H1.1 1833) (H1.1 1830) (H1.1 c i))) rfl rfl (by decide) (by decide) rfl (by omega) (by omega) ?_
              refine h_run 4 (pc' := 201) (l' := [(0, .inr (.inr 1826)), (1, .inr (.inr c)), (2, .inl 0), (3, .inl (k : Int)), (4, .inl (dp : Int)), (5, .inl (i : Int)), (6, .inl (H1.1 c i)), (7, .inl (ma (H1.1 1833) (H1.1 1830) (H1.1 c i))), (8, .inl 0)]) (st' := [.inl 0, .inl (dp : Int), .inr (.inr 1860)]) rfl ?_
              refine h_bst (c := 1860) (j := dp) (i := (dp : Int)) (x := 0) (Or.inr rfl) rfl rfl (by decide) (by decide) rfl (by omega) (show (0 : Int) ≤ 0 ∧ 0 ≤ 1 by omega) ?_
              refine h_run 1 (pc' := 205) (l' := [(0, .inr (.inr 1826)), (1, .inr (.inr c)), (2, .inl 0), (3, .inl (k : Int)), (4, .inl ((dp : Int) + 1)), (5, .inl (i : Int)), (6, .inl (H1.1 c i)), (7, .inl (ma (H1.1 1833) (H1.1 1830) (H1.1 c i))), (8, .inl 0)]) (st' := []) rfl ?_
              have g45 : -2147483648 ≤ (H42.1 1826 59) ∧ (H42.1 1826 59) ≤ 2147483647 := hrg43.1 1826 13 59 _ .int rfl rfl
              refine h_loc [0, 1, 2, 3, 4, 5] rfl ?_
              rw [show ((dp : Int) + 1) = (((dp + 1) : Nat) : Int) by omega]
              exact ih.2 _ (dp + 1) i (fr_a (fr_a hf44 (by decide)) (by decide)) (by omega) (by omega : 0 ≤ (H42.1 1826 59) ∧ (H42.1 1826 59) + (((dp + 1) : Nat) : Int) ≤ 12 * (i + 1)) (fun x hx => by show (dp : Int) + 1 - (i + 1) ≤ up (H42.1 1859) dp (ma (H1.1 1833) (H1.1 1830) (H1.1 c i)) x ∧ up (H42.1 1859) dp (ma (H1.1 1833) (H1.1 1830) (H1.1 c i)) x ≤ 4; rw [up_if]; by_cases e9 : x = dp; { rw [if_pos e9]; omega }; { rw [if_neg e9, show (H42.1 1859) = (H1.1 1859) from (hx42f.2.1 1859 (by decide) (by decide))]; have h9 := hlk x (by omega); omega }) (by omega : 1000 * (k - i) + (dp + 1) < w)
          · refine h_run 2 (pc' := 59) (l' := [(0, .inr (.inr 1826)), (1, .inr (.inr c)), (2, .inl 0), (3, .inl (k : Int)), (4, .inl (dp : Int)), (5, .inl (i : Int)), (6, .inl (H1.1 c i)), (7, .inl (ma (H1.1 1833) (H1.1 1830) (H1.1 c i)))]) (st' := [.inl 0, .inl (i : Int)]) rfl ?_
            refine h_ile (off := 7) (t := 66) rfl rfl (by omega) (by decide) (fun c46 => ?_) (fun c46 => ?_)
            · refine h_run 3 (pc' := 71) (l' := [(0, .inr (.inr 1826)), (1, .inr (.inr c)), (2, .inl 0), (3, .inl (k : Int)), (4, .inl (dp : Int)), (5, .inl (i : Int)), (6, .inl (H1.1 c i)), (7, .inl (ma (H1.1 1833) (H1.1 1830) (H1.1 c i))), (8, .inl 0)]) (st' := [.inl 0]) rfl ?_
              refine h_zeq (off := 9) (t := 80) rfl rfl (by decide) (fun _ => ?_) (fun c => absurd c (by decide))
              refine h_run 1 (pc' := 82) (l' := [(0, .inr (.inr 1826)), (1, .inr (.inr c)), (2, .inl 0), (3, .inl (k : Int)), (4, .inl (dp : Int)), (5, .inl (i : Int)), (6, .inl (H1.1 c i)), (7, .inl (ma (H1.1 1833) (H1.1 1830) (H1.1 c i))), (8, .inl 0)]) (st' := [.inl (H1.1 c i)]) rfl ?_
              refine h_zne (off := 12) (t := 94) rfl rfl (by omega) (fun c47 => ?_) (fun c47 => ?_)
              · refine h_run 2 (pc' := 99) (l' := [(0, .inr (.inr 1826)), (1, .inr (.inr c)), (2, .inl 0), (3, .inl (k : Int)), (4, .inl (dp : Int)), (5, .inl (i : Int)), (6, .inl (H1.1 c i)), (7, .inl (ma (H1.1 1833) (H1.1 1830) (H1.1 c i))), (8, .inl 0)]) (st' := [.inl 1000, .inl (H1.1 c i)]) rfl ?_
                refine h_ilt (off := 52) (t := 151) rfl rfl (by omega) (by decide) (fun c48 => ?_) (fun c48 => ?_)
                · refine h_run 3 (pc' := 156) (l' := [(0, .inr (.inr 1826)), (1, .inr (.inr c)), (2, .inl 0), (3, .inl (k : Int)), (4, .inl (dp : Int)), (5, .inl (i : Int)), (6, .inl (H1.1 c i)), (7, .inl (ma (H1.1 1833) (H1.1 1830) (H1.1 c i))), (8, .inl 0)]) (st' := [.inl 100, .inl (H1.1 c i), .inr (.inr 1826)]) rfl ?_
                  refine h_ilt (off := 16) (t := 172) rfl rfl (by omega) (by decide) (fun c49 => ?_) (fun c49 => ?_)
                  · refine h_run 5 (pc' := 180) (l' := [(0, .inr (.inr 1826)), (1, .inr (.inr c)), (2, .inl 0), (3, .inl (k : Int)), (4, .inl (dp : Int)), (5, .inl (i : Int)), (6, .inl (H1.1 c i)), (7, .inl (ma (H1.1 1833) (H1.1 1830) (H1.1 c i))), (8, .inl 0)]) (st' := [.inl ((H1.1 c i) - 1), .inr (.inr 1828), .inr (.inr 1826)]) rfl ?_
                    refine h_lld (c := 1828) (j := (((H1.1 c i) - 1)).toNat) (i := ((H1.1 c i) - 1)) rfl rfl (by decide) (by omega) (by omega) ?_
                    have g50 : -9223372036854775808 ≤ (H1.1 1828 (((H1.1 c i) - 1)).toNat) ∧ (H1.1 1828 (((H1.1 c i) - 1)).toNat) ≤ 9223372036854775807 := hrg1.2 1828 (((H1.1 c i) - 1)).toNat 16 .long rfl (by omega)
                    have e51 : (H1.1 1828 (((H1.1 c i) - 1)).toNat) = (H.1 1828 (((H1.1 c i) - 1)).toNat) := congrFun (hf.2.1 1828 (by decide) (by decide)) (((H1.1 c i) - 1)).toNat
                    refine h_run 0 (pc' := 181) (l' := [(0, .inr (.inr 1826)), (1, .inr (.inr c)), (2, .inl 0), (3, .inl (k : Int)), (4, .inl (dp : Int)), (5, .inl (i : Int)), (6, .inl (H1.1 c i)), (7, .inl (ma (H1.1 1833) (H1.1 1830) (H1.1 c i))), (8, .inl 0)]) (st' := [.inr (.inl (H1.1 1828 (((H1.1 c i) - 1)).toNat)), .inr (.inr 1826)]) rfl ?_
                    refine h_cv (i := 479) (j := 204) (b := 1826) (M' := mt_204) (xs := [.inr (.inl (H1.1 1828 (((H1.1 c i) - 1)).toNat))]) (rest := []) rfl rfl rfl rfl rfl rfl (Nat.le_of_ble_eq_true rfl) (Nat.le_of_ble_eq_true rfl) (by omega) (m_putName (by omega) (by omega : 0 ≤ (H1.1 1826 59) ∧ (H1.1 1826 59) ≤ 7900)) ?_
                    rintro _ H52 ⟨rfl, hx52f, hx52z⟩
                    refine h_rng (fun hrg53 => ?_)
                    have hf54 : fr [59] [1858, 1859, 1860] H H52 := fr_t hf hx52f (by decide) (by decide)
                    replace hx52z : (H1.1 1826 59) ≤ (H52.1 1826 59) ∧ (H52.1 1826 59) ≤ (H1.1 1826 59) + 8 := hx52z
                    refine h_run 0 (pc' := 184) (l' := [(0, .inr (.inr 1826)), (1, .inr (.inr c)), (2, .inl 0), (3, .inl (k : Int)), (4, .inl (dp : Int)), (5, .inl (i : Int)), (6, .inl (H1.1 c i)), (7, .inl (ma (H1.1 1833) (H1.1 1830) (H1.1 c i))), (8, .inl 0)]) (st' := []) rfl ?_
                    refine h_run 4 (pc' := 192) (l' := [(0, .inr (.inr 1826)), (1, .inr (.inr c)), (2, .inl 0), (3, .inl (k : Int)), (4, .inl (dp : Int)), (5, .inl (i : Int)), (6, .inl (H1.1 c i)), (7, .inl (ma (H1.1 1833) (H1.1 1830) (H1.1 c i))), (8, .inl 0)]) (st' := [.inl (ma (H1.1 1833) (H1.1 1830) (H1.1 c i)), .inl (dp : Int), .inr (.inr 1859)]) rfl ?_
                    refine h_ist (c := 1859) (j := dp) (i := (dp : Int)) (x := (ma (H1.1 1833) (H1.1 1830) (H1.1 c i))) rfl rfl (by decide) (by decide) rfl (by omega) (by omega) ?_
                    refine h_run 4 (pc' := 201) (l' := [(0, .inr (.inr 1826)), (1, .inr (.inr c)), (2, .inl 0), (3, .inl (k : Int)), (4, .inl (dp : Int)), (5, .inl (i : Int)), (6, .inl (H1.1 c i)), (7, .inl (ma (H1.1 1833) (H1.1 1830) (H1.1 c i))), (8, .inl 0)]) (st' := [.inl 0, .inl (dp : Int), .inr (.inr 1860)]) rfl ?_
                    refine h_bst (c := 1860) (j := dp) (i := (dp : Int)) (x := 0) (Or.inr rfl) rfl rfl (by decide) (by decide) rfl (by omega) (show (0 : Int) ≤ 0 ∧ 0 ≤ 1 by omega) ?_
                    refine h_run 1 (pc' := 205) (l' := [(0, .inr (.inr 1826)), (1, .inr (.inr c)), (2, .inl 0), (3, .inl (k : Int)), (4, .inl ((dp : Int) + 1)), (5, .inl (i : Int)), (6, .inl (H1.1 c i)), (7, .inl (ma (H1.1 1833) (H1.1 1830) (H1.1 c i))), (8, .inl 0)]) (st' := []) rfl ?_
                    have g55 : -2147483648 ≤ (H52.1 1826 59) ∧ (H52.1 1826 59) ≤ 2147483647 := hrg53.1 1826 13 59 _ .int rfl rfl
                    refine h_loc [0, 1, 2, 3, 4, 5] rfl ?_
                    rw [show ((dp : Int) + 1) = (((dp + 1) : Nat) : Int) by omega]
                    exact ih.2 _ (dp + 1) i (fr_a (fr_a hf54 (by decide)) (by decide)) (by omega) (by omega : 0 ≤ (H52.1 1826 59) ∧ (H52.1 1826 59) + (((dp + 1) : Nat) : Int) ≤ 12 * (i + 1)) (fun x hx => by show (dp : Int) + 1 - (i + 1) ≤ up (H52.1 1859) dp (ma (H1.1 1833) (H1.1 1830) (H1.1 c i)) x ∧ up (H52.1 1859) dp (ma (H1.1 1833) (H1.1 1830) (H1.1 c i)) x ≤ 4; rw [up_if]; by_cases e9 : x = dp; { rw [if_pos e9]; omega }; { rw [if_neg e9, show (H52.1 1859) = (H1.1 1859) from (hx52f.2.1 1859 (by decide) (by decide))]; have h9 := hlk x (by omega); omega }) (by omega : 1000 * (k - i) + (dp + 1) < w)
                  · refine h_run 5 (pc' := 168) (l' := [(0, .inr (.inr 1826)), (1, .inr (.inr c)), (2, .inl 0), (3, .inl (k : Int)), (4, .inl (dp : Int)), (5, .inl (i : Int)), (6, .inl (H1.1 c i)), (7, .inl (ma (H1.1 1833) (H1.1 1830) (H1.1 c i))), (8, .inl 0)]) (st' := [.inl ((H1.1 c i) - 100), .inr (.inr 1832), .inr (.inr 1826)]) rfl ?_
                    refine h_lld (c := 1832) (j := (((H1.1 c i) - 100)).toNat) (i := ((H1.1 c i) - 100)) rfl rfl (by decide) (by omega) (by omega) ?_
                    have g56 : -9223372036854775808 ≤ (H1.1 1832 (((H1.1 c i) - 100)).toNat) ∧ (H1.1 1832 (((H1.1 c i) - 100)).toNat) ≤ 9223372036854775807 := hrg1.2 1832 (((H1.1 c i) - 100)).toNat 16 .long rfl (by omega)
                    have e57 : (H1.1 1832 (((H1.1 c i) - 100)).toNat) = (H.1 1832 (((H1.1 c i) - 100)).toNat) := congrFun (hf.2.1 1832 (by decide) (by decide)) (((H1.1 c i) - 100)).toNat
                    refine h_run 0 (pc' := 169) (l' := [(0, .inr (.inr 1826)), (1, .inr (.inr c)), (2, .inl 0), (3, .inl (k : Int)), (4, .inl (dp : Int)), (5, .inl (i : Int)), (6, .inl (H1.1 c i)), (7, .inl (ma (H1.1 1833) (H1.1 1830) (H1.1 c i))), (8, .inl 0)]) (st' := [.inr (.inl (H1.1 1832 (((H1.1 c i) - 100)).toNat)), .inr (.inr 1826)]) rfl ?_
                    refine h_run 1 (pc' := 181) (l' := [(0, .inr (.inr 1826)), (1, .inr (.inr c)), (2, .inl 0), (3, .inl (k : Int)), (4, .inl (dp : Int)), (5, .inl (i : Int)), (6, .inl (H1.1 c i)), (7, .inl (ma (H1.1 1833) (H1.1 1830) (H1.1 c i))), (8, .inl 0)]) (st' := [.inr (.inl (H1.1 1832 (((H1.1 c i) - 100)).toNat)), .inr (.inr 1826)]) rfl ?_
                    refine h_cv (i := 479) (j := 204) (b := 1826) (M' := mt_204) (xs := [.inr (.inl (H1.1 1832 (((H1.1 c i) - 100)).toNat))]) (rest := []) rfl rfl rfl rfl rfl rfl (Nat.le_of_ble_eq_true rfl) (Nat.le_of_ble_eq_true rfl) (by omega) (m_putName (by omega) (by omega : 0 ≤ (H1.1 1826 59) ∧ (H1.1 1826 59) ≤ 7900)) ?_
                    rintro _ H58 ⟨rfl, hx58f, hx58z⟩
                    refine h_rng (fun hrg59 => ?_)
                    have hf60 : fr [59] [1858, 1859, 1860] H H58 := fr_t hf hx58f (by decide) (by decide)
                    replace hx58z : (H1.1 1826 59) ≤ (H58.1 1826 59) ∧ (H58.1 1826 59) ≤ (H1.1 1826 59) + 8 := hx58z
                    refine h_run 0 (pc' := 184) (l' := [(0, .inr (.inr 1826)), (1, .inr (.inr c)), (2, .inl 0), (3, .inl (k : Int)), (4, .inl (dp : Int)), (5, .inl (i : Int)), (6, .inl (H1.1 c i)), (7, .inl (ma (H1.1 1833) (H1.1 1830) (H1.1 c i))), (8, .inl 0)]) (st' := []) rfl ?_
                    refine h_run 4 (pc' := 192) (l' := [(0, .inr (.inr 1826)), (1, .inr (.inr c)), (2, .inl 0), (3, .inl (k : Int)), (4, .inl (dp : Int)), (5, .inl (i : Int)), (6, .inl (H1.1 c i)), (7, .inl (ma (H1.1 1833) (H1.1 1830) (H1.1 c i))), (8, .inl 0)]) (st' := [.inl (ma (H1.1 1833) (H1.1 1830) (H1.1 c i)), .inl (dp : Int), .inr (.inr 1859)]) rfl ?_
                    refine h_ist (c := 1859) (j := dp) (i := (dp : Int)) (x := (ma (H1.1 1833) (H1.1 1830) (H1.1 c i))) rfl rfl (by decide) (by decide) rfl (by omega) (by omega) ?_
                    refine h_run 4 (pc' := 201) (l' := [(0, .inr (.inr 1826)), (1, .inr (.inr c)), (2, .inl 0), (3, .inl (k : Int)), (4, .inl (dp : Int)), (5, .inl (i : Int)), (6, .inl (H1.1 c i)), (7, .inl (ma (H1.1 1833) (H1.1 1830) (H1.1 c i))), (8, .inl 0)]) (st' := [.inl 0, .inl (dp : Int), .inr (.inr 1860)]) rfl ?_
                    refine h_bst (c := 1860) (j := dp) (i := (dp : Int)) (x := 0) (Or.inr rfl) rfl rfl (by decide) (by decide) rfl (by omega) (show (0 : Int) ≤ 0 ∧ 0 ≤ 1 by omega) ?_
                    refine h_run 1 (pc' := 205) (l' := [(0, .inr (.inr 1826)), (1, .inr (.inr c)), (2, .inl 0), (3, .inl (k : Int)), (4, .inl ((dp : Int) + 1)), (5, .inl (i : Int)), (6, .inl (H1.1 c i)), (7, .inl (ma (H1.1 1833) (H1.1 1830) (H1.1 c i))), (8, .inl 0)]) (st' := []) rfl ?_
                    have g61 : -2147483648 ≤ (H58.1 1826 59) ∧ (H58.1 1826 59) ≤ 2147483647 := hrg59.1 1826 13 59 _ .int rfl rfl
                    refine h_loc [0, 1, 2, 3, 4, 5] rfl ?_
                    rw [show ((dp : Int) + 1) = (((dp + 1) : Nat) : Int) by omega]
                    exact ih.2 _ (dp + 1) i (fr_a (fr_a hf60 (by decide)) (by decide)) (by omega) (by omega : 0 ≤ (H58.1 1826 59) ∧ (H58.1 1826 59) + (((dp + 1) : Nat) : Int) ≤ 12 * (i + 1)) (fun x hx => by show (dp : Int) + 1 - (i + 1) ≤ up (H58.1 1859) dp (ma (H1.1 1833) (H1.1 1830) (H1.1 c i)) x ∧ up (H58.1 1859) dp (ma (H1.1 1833) (H1.1 1830) (H1.1 c i)) x ≤ 4; rw [up_if]; by_cases e9 : x = dp; { rw [if_pos e9]; omega }; { rw [if_neg e9, show (H58.1 1859) = (H1.1 1859) from (hx58f.2.1 1859 (by decide) (by decide))]; have h9 := hlk x (by omega); omega }) (by omega : 1000 * (k - i) + (dp + 1) < w)
                · refine h_run 3 (pc' := 108) (l' := [(0, .inr (.inr 1826)), (1, .inr (.inr c)), (2, .inl 0), (3, .inl (k : Int)), (4, .inl (dp : Int)), (5, .inl (i : Int)), (6, .inl (H1.1 c i)), (7, .inl (ma (H1.1 1833) (H1.1 1830) (H1.1 c i))), (8, .inl 0)]) (st' := [.inl 2000, .inl (H1.1 c i), .inr (.inr 1826)]) rfl ?_
                  refine h_ilt (off := 8) (t := 116) rfl rfl (by omega) (by decide) (fun c62 => ?_) (fun c62 => ?_)
                  · refine h_run 1 (pc' := 118) (l' := [(0, .inr (.inr 1826)), (1, .inr (.inr c)), (2, .inl 0), (3, .inl (k : Int)), (4, .inl (dp : Int)), (5, .inl (i : Int)), (6, .inl (H1.1 c i)), (7, .inl (ma (H1.1 1833) (H1.1 1830) (H1.1 c i))), (8, .inl 0)]) (st' := [.inl 118, .inr (.inr 1826)]) rfl ?_
                    refine h_cv (i := 473) (j := 203) (b := 1826) (M' := mt_203) (xs := [.inl 118]) (rest := []) rfl rfl rfl rfl rfl rfl (Nat.le_of_ble_eq_true rfl) (Nat.le_of_ble_eq_true rfl) (by omega) (m_letter (by omega) (by omega : 0 ≤ (H1.1 1826 59) ∧ (H1.1 1826 59) ≤ 7950)) ?_
                    rintro _ H63 ⟨rfl, hx63f, hx63z⟩
                    refine h_rng (fun hrg64 => ?_)
                    have hf65 : fr [59] [1858, 1859, 1860] H H63 := fr_t hf hx63f (by decide) (by decide)
                    replace hx63z : (H1.1 1826 59) ≤ (H63.1 1826 59) ∧ (H63.1 1826 59) ≤ (H1.1 1826 59) + 1 := hx63z
                    refine h_run 0 (pc' := 121) (l' := [(0, .inr (.inr 1826)), (1, .inr (.inr c)), (2, .inl 0), (3, .inl (k : Int)), (4, .inl (dp : Int)), (5, .inl (i : Int)), (6, .inl (H1.1 c i)), (7, .inl (ma (H1.1 1833) (H1.1 1830) (H1.1 c i))), (8, .inl 0)]) (st' := []) rfl ?_
                    refine h_run 3 (pc' := 127) (l' := [(0, .inr (.inr 1826)), (1, .inr (.inr c)), (2, .inl 0), (3, .inl (k : Int)), (4, .inl (dp : Int)), (5, .inl (i : Int)), (6, .inl (H1.1 c i)), (7, .inl (ma (H1.1 1833) (H1.1 1830) (H1.1 c i))), (8, .inl 0)]) (st' := [.inl 2000, .inl (H1.1 c i), .inr (.inr 1826)]) rfl ?_
                    refine h_ilt (off := 12) (t := 139) rfl rfl (by omega) (by decide) (fun c66 => ?_) (fun c66 => ?_)
                    · refine h_run 3 (pc' := 145) (l' := [(0, .inr (.inr 1826)), (1, .inr (.inr c)), (2, .inl 0), (3, .inl (k : Int)), (4, .inl (dp : Int)), (5, .inl (i : Int)), (6, .inl (H1.1 c i)), (7, .inl (ma (H1.1 1833) (H1.1 1830) (H1.1 c i))), (8, .inl 0)]) (st' := [.inl ((H1.1 c i) - 1000), .inr (.inr 1826)]) rfl ?_
                      have g67 : -2147483648 ≤ (H63.1 1826 59) ∧ (H63.1 1826 59) ≤ 2147483647 := hrg64.1 1826 13 59 _ .int rfl rfl
                      refine h_cv (i := 476) (j := 205) (b := 1826) (M' := mt_205) (xs := [.inl ((H1.1 c i) - 1000)]) (rest := []) rfl rfl rfl rfl rfl rfl (Nat.le_of_ble_eq_true rfl) (Nat.le_of_ble_eq_true rfl) (by omega) (m_putNumber (by omega) (by omega : 0 ≤ (H63.1 1826 59) ∧ (H63.1 1826 59) ≤ 7900) (by omega)) ?_
                      rintro _ H68 ⟨rfl, hx68f, hx68z⟩
                      refine h_rng (fun hrg69 => ?_)
                      have hf70 : fr [59] [1858, 1859, 1860] H H68 := fr_t hf65 hx68f (by decide) (by decide)
                      replace hx68z : (H63.1 1826 59) ≤ (H68.1 1826 59) ∧ (H68.1 1826 59) ≤ (H63.1 1826 59) + 2 := hx68z
                      refine h_run 0 (pc' := 148) (l' := [(0, .inr (.inr 1826)), (1, .inr (.inr c)), (2, .inl 0), (3, .inl (k : Int)), (4, .inl (dp : Int)), (5, .inl (i : Int)), (6, .inl (H1.1 c i)), (7, .inl (ma (H1.1 1833) (H1.1 1830) (H1.1 c i))), (8, .inl 0)]) (st' := []) rfl ?_
                      refine h_run 5 (pc' := 192) (l' := [(0, .inr (.inr 1826)), (1, .inr (.inr c)), (2, .inl 0), (3, .inl (k : Int)), (4, .inl (dp : Int)), (5, .inl (i : Int)), (6, .inl (H1.1 c i)), (7, .inl (ma (H1.1 1833) (H1.1 1830) (H1.1 c i))), (8, .inl 0)]) (st' := [.inl (ma (H1.1 1833) (H1.1 1830) (H1.1 c i)), .inl (dp : Int), .inr (.inr 1859)]) rfl ?_
                      refine h_ist (c := 1859) (j := dp) (i := (dp : Int)) (x := (ma (H1.1 1833) (H1.1 1830) (H1.1 c i))) rfl rfl (by decide) (by decide) rfl (by omega) (by omega) ?_
                      refine h_run 4 (pc' := 201) (l' := [(0, .inr (.inr 1826)), (1, .inr (.inr c)), (2, .inl 0), (3, .inl (k : Int)), (4, .inl (dp : Int)), (5, .inl (i : Int)), (6, .inl (H1.1 c i)), (7, .inl (ma (H1.1 1833) (H1.1 1830) (H1.1 c i))), (8, .inl 0)]) (st' := [.inl 0, .inl (dp : Int), .inr (.inr 1860)]) rfl ?_
                      refine h_bst (c := 1860) (j := dp) (i := (dp : Int)) (x := 0) (Or.inr rfl) rfl rfl (by decide) (by decide) rfl (by omega) (show (0 : Int) ≤ 0 ∧ 0 ≤ 1 by omega) ?_
                      refine h_run 1 (pc' := 205) (l' := [(0, .inr (.inr 1826)), (1, .inr (.inr c)), (2, .inl 0), (3, .inl (k : Int)), (4, .inl ((dp : Int) + 1)), (5, .inl (i : Int)), (6, .inl (H1.1 c i)), (7, .inl (ma (H1.1 1833) (H1.1 1830) (H1.1 c i))), (8, .inl 0)]) (st' := []) rfl ?_
                      have g71 : -2147483648 ≤ (H68.1 1826 59) ∧ (H68.1 1826 59) ≤ 2147483647 := hrg69.1 1826 13 59 _ .int rfl rfl
                      refine h_loc [0, 1, 2, 3, 4, 5] rfl ?_
                      rw [show ((dp : Int) + 1) = (((dp + 1) : Nat) : Int) by omega]
                      exact ih.2 _ (dp + 1) i (fr_a (fr_a hf70 (by decide)) (by decide)) (by omega) (by omega : 0 ≤ (H68.1 1826 59) ∧ (H68.1 1826 59) + (((dp + 1) : Nat) : Int) ≤ 12 * (i + 1)) (fun x hx => by show (dp : Int) + 1 - (i + 1) ≤ up (H68.1 1859) dp (ma (H1.1 1833) (H1.1 1830) (H1.1 c i)) x ∧ up (H68.1 1859) dp (ma (H1.1 1833) (H1.1 1830) (H1.1 c i)) x ≤ 4; rw [up_if]; by_cases e9 : x = dp; { rw [if_pos e9]; omega }; { rw [if_neg e9, show (H68.1 1859) = (H1.1 1859) from ((hx68f.2.1 1859 (by decide) (by decide)).trans (hx63f.2.1 1859 (by decide) (by decide)))]; have h9 := hlk x (by omega); omega }) (by omega : 1000 * (k - i) + (dp + 1) < w)
                    · exfalso
                      omega
                  · refine h_run 2 (pc' := 118) (l' := [(0, .inr (.inr 1826)), (1, .inr (.inr c)), (2, .inl 0), (3, .inl (k : Int)), (4, .inl (dp : Int)), (5, .inl (i : Int)), (6, .inl (H1.1 c i)), (7, .inl (ma (H1.1 1833) (H1.1 1830) (H1.1 c i))), (8, .inl 0)]) (st' := [.inl 102, .inr (.inr 1826)]) rfl ?_
                    refine h_cv (i := 473) (j := 203) (b := 1826) (M' := mt_203) (xs := [.inl 102]) (rest := []) rfl rfl rfl rfl rfl rfl (Nat.le_of_ble_eq_true rfl) (Nat.le_of_ble_eq_true rfl) (by omega) (m_letter (by omega) (by omega : 0 ≤ (H1.1 1826 59) ∧ (H1.1 1826 59) ≤ 7950)) ?_
                    rintro _ H72 ⟨rfl, hx72f, hx72z⟩
                    refine h_rng (fun hrg73 => ?_)
                    have hf74 : fr [59] [1858, 1859, 1860] H H72 := fr_t hf hx72f (by decide) (by decide)
                    replace hx72z : (H1.1 1826 59) ≤ (H72.1 1826 59) ∧ (H72.1 1826 59) ≤ (H1.1 1826 59) + 1 := hx72z
                    refine h_run 0 (pc' := 121) (l' := [(0, .inr (.inr 1826)), (1, .inr (.inr c)), (2, .inl 0), (3, .inl (k : Int)), (4, .inl (dp : Int)), (5, .inl (i : Int)), (6, .inl (H1.1 c i)), (7, .inl (ma (H1.1 1833) (H1.1 1830) (H1.1 c i))), (8, .inl 0)]) (st' := []) rfl ?_
                    refine h_run 3 (pc' := 127) (l' := [(0, .inr (.inr 1826)), (1, .inr (.inr c)), (2, .inl 0), (3, .inl (k : Int)), (4, .inl (dp : Int)), (5, .inl (i : Int)), (6, .inl (H1.1 c i)), (7, .inl (ma (H1.1 1833) (H1.1 1830) (H1.1 c i))), (8, .inl 0)]) (st' := [.inl 2000, .inl (H1.1 c i), .inr (.inr 1826)]) rfl ?_
                    refine h_ilt (off := 12) (t := 139) rfl rfl (by omega) (by decide) (fun c75 => ?_) (fun c75 => ?_)
                    · exfalso
                      omega
                    · refine h_run 4 (pc' := 145) (l' := [(0, .inr (.inr 1826)), (1, .inr (.inr c)), (2, .inl 0), (3, .inl (k : Int)), (4, .inl (dp : Int)), (5, .inl (i : Int)), (6, .inl (H1.1 c i)), (7, .inl (ma (H1.1 1833) (H1.1 1830) (H1.1 c i))), (8, .inl 0)]) (st' := [.inl ((H1.1 c i) - 2000), .inr (.inr 1826)]) rfl ?_
                      have g76 : -2147483648 ≤ (H72.1 1826 59) ∧ (H72.1 1826 59) ≤ 2147483647 := hrg73.1 1826 13 59 _ .int rfl rfl
                      refine h_cv (i := 476) (j := 205) (b := 1826) (M' := mt_205) (xs := [.inl ((H1.1 c i) - 2000)]) (rest := []) rfl rfl rfl rfl rfl rfl (Nat.le_of_ble_eq_true rfl) (Nat.le_of_ble_eq_true rfl) (by omega) (m_putNumber (by omega) (by omega : 0 ≤ (H72.1 1826 59) ∧ (H72.1 1826 59) ≤ 7900) (by omega)) ?_
                      rintro _ H77 ⟨rfl, hx77f, hx77z⟩
                      refine h_rng (fun hrg78 => ?_)
                      have hf79 : fr [59] [1858, 1859, 1860] H H77 := fr_t hf74 hx77f (by decide) (by decide)
                      replace hx77z : (H72.1 1826 59) ≤ (H77.1 1826 59) ∧ (H77.1 1826 59) ≤ (H72.1 1826 59) + 2 := hx77z
                      refine h_run 0 (pc' := 148) (l' := [(0, .inr (.inr 1826)), (1, .inr (.inr c)), (2, .inl 0), (3, .inl (k : Int)), (4, .inl (dp : Int)), (5, .inl (i : Int)), (6, .inl (H1.1 c i)), (7, .inl (ma (H1.1 1833) (H1.1 1830) (H1.1 c i))), (8, .inl 0)]) (st' := []) rfl ?_
                      refine h_run 5 (pc' := 192) (l' := [(0, .inr (.inr 1826)), (1, .inr (.inr c)), (2, .inl 0), (3, .inl (k : Int)), (4, .inl (dp : Int)), (5, .inl (i : Int)), (6, .inl (H1.1 c i)), (7, .inl (ma (H1.1 1833) (H1.1 1830) (H1.1 c i))), (8, .inl 0)]) (st' := [.inl (ma (H1.1 1833) (H1.1 1830) (H1.1 c i)), .inl (dp : Int), .inr (.inr 1859)]) rfl ?_
                      refine h_ist (c := 1859) (j := dp) (i := (dp : Int)) (x := (ma (H1.1 1833) (H1.1 1830) (H1.1 c i))) rfl rfl (by decide) (by decide) rfl (by omega) (by omega) ?_
                      refine h_run 4 (pc' := 201) (l' := [(0, .inr (.inr 1826)), (1, .inr (.inr c)), (2, .inl 0), (3, .inl (k : Int)), (4, .inl (dp : Int)), (5, .inl (i : Int)), (6, .inl (H1.1 c i)), (7, .inl (ma (H1.1 1833) (H1.1 1830) (H1.1 c i))), (8, .inl 0)]) (st' := [.inl 0, .inl (dp : Int), .inr (.inr 1860)]) rfl ?_
                      refine h_bst (c := 1860) (j := dp) (i := (dp : Int)) (x := 0) (Or.inr rfl) rfl rfl (by decide) (by decide) rfl (by omega) (show (0 : Int) ≤ 0 ∧ 0 ≤ 1 by omega) ?_
                      refine h_run 1 (pc' := 205) (l' := [(0, .inr (.inr 1826)), (1, .inr (.inr c)), (2, .inl 0), (3, .inl (k : Int)), (4, .inl ((dp : Int) + 1)), (5, .inl (i : Int)), (6, .inl (H1.1 c i)), (7, .inl (ma (H1.1 1833) (H1.1 1830) (H1.1 c i))), (8, .inl 0)]) (st' := []) rfl ?_
                      have g80 : -2147483648 ≤ (H77.1 1826 59) ∧ (H77.1 1826 59) ≤ 2147483647 := hrg78.1 1826 13 59 _ .int rfl rfl
                      refine h_loc [0, 1, 2, 3, 4, 5] rfl ?_
                      rw [show ((dp : Int) + 1) = (((dp + 1) : Nat) : Int) by omega]
                      exact ih.2 _ (dp + 1) i (fr_a (fr_a hf79 (by decide)) (by decide)) (by omega) (by omega : 0 ≤ (H77.1 1826 59) ∧ (H77.1 1826 59) + (((dp + 1) : Nat) : Int) ≤ 12 * (i + 1)) (fun x hx => by show (dp : Int) + 1 - (i + 1) ≤ up (H77.1 1859) dp (ma (H1.1 1833) (H1.1 1830) (H1.1 c i)) x ∧ up (H77.1 1859) dp (ma (H1.1 1833) (H1.1 1830) (H1.1 c i)) x ≤ 4; rw [up_if]; by_cases e9 : x = dp; { rw [if_pos e9]; omega }; { rw [if_neg e9, show (H77.1 1859) = (H1.1 1859) from ((hx77f.2.1 1859 (by decide) (by decide)).trans (hx72f.2.1 1859 (by decide) (by decide)))]; have h9 := hlk x (by omega); omega }) (by omega : 1000 * (k - i) + (dp + 1) < w)
              · refine h_run 2 (pc' := 88) (l' := [(0, .inr (.inr 1826)), (1, .inr (.inr c)), (2, .inl 0), (3, .inl (k : Int)), (4, .inl (dp : Int)), (5, .inl (i : Int)), (6, .inl (H1.1 c i)), (7, .inl (ma (H1.1 1833) (H1.1 1830) (H1.1 c i))), (8, .inl 0)]) (st' := [.inl 95, .inr (.inr 1826)]) rfl ?_
                refine h_cv (i := 473) (j := 203) (b := 1826) (M' := mt_203) (xs := [.inl 95]) (rest := []) rfl rfl rfl rfl rfl rfl (Nat.le_of_ble_eq_true rfl) (Nat.le_of_ble_eq_true rfl) (by omega) (m_letter (by omega) (by omega : 0 ≤ (H1.1 1826 59) ∧ (H1.1 1826 59) ≤ 7950)) ?_
                rintro _ H81 ⟨rfl, hx81f, hx81z⟩
                refine h_rng (fun hrg82 => ?_)
                have hf83 : fr [59] [1858, 1859, 1860] H H81 := fr_t hf hx81f (by decide) (by decide)
                replace hx81z : (H1.1 1826 59) ≤ (H81.1 1826 59) ∧ (H81.1 1826 59) ≤ (H1.1 1826 59) + 1 := hx81z
                refine h_run 0 (pc' := 91) (l' := [(0, .inr (.inr 1826)), (1, .inr (.inr c)), (2, .inl 0), (3, .inl (k : Int)), (4, .inl (dp : Int)), (5, .inl (i : Int)), (6, .inl (H1.1 c i)), (7, .inl (ma (H1.1 1833) (H1.1 1830) (H1.1 c i))), (8, .inl 0)]) (st' := []) rfl ?_
                refine h_run 5 (pc' := 192) (l' := [(0, .inr (.inr 1826)), (1, .inr (.inr c)), (2, .inl 0), (3, .inl (k : Int)), (4, .inl (dp : Int)), (5, .inl (i : Int)), (6, .inl (H1.1 c i)), (7, .inl (ma (H1.1 1833) (H1.1 1830) (H1.1 c i))), (8, .inl 0)]) (st' := [.inl (ma (H1.1 1833) (H1.1 1830) (H1.1 c i)), .inl (dp : Int), .inr (.inr 1859)]) rfl ?_
                refine h_ist (c := 1859) (j := dp) (i := (dp : Int)) (x := (ma (H1.1 1833) (H1.1 1830) (H1.1 c i))) rfl rfl (by decide) (by decide) rfl (by omega) (by omega) ?_
                refine h_run 4 (pc' := 201) (l' := [(0, .inr (.inr 1826)), (1, .inr (.inr c)), (2, .inl 0), (3, .inl (k : Int)), (4, .inl (dp : Int)), (5, .inl (i : Int)), (6, .inl (H1.1 c i)), (7, .inl (ma (H1.1 1833) (H1.1 1830) (H1.1 c i))), (8, .inl 0)]) (st' := [.inl 0, .inl (dp : Int), .inr (.inr 1860)]) rfl ?_
                refine h_bst (c := 1860) (j := dp) (i := (dp : Int)) (x := 0) (Or.inr rfl) rfl rfl (by decide) (by decide) rfl (by omega) (show (0 : Int) ≤ 0 ∧ 0 ≤ 1 by omega) ?_
                refine h_run 1 (pc' := 205) (l' := [(0, .inr (.inr 1826)), (1, .inr (.inr c)), (2, .inl 0), (3, .inl (k : Int)), (4, .inl ((dp : Int) + 1)), (5, .inl (i : Int)), (6, .inl (H1.1 c i)), (7, .inl (ma (H1.1 1833) (H1.1 1830) (H1.1 c i))), (8, .inl 0)]) (st' := []) rfl ?_
                have g84 : -2147483648 ≤ (H81.1 1826 59) ∧ (H81.1 1826 59) ≤ 2147483647 := hrg82.1 1826 13 59 _ .int rfl rfl
                refine h_loc [0, 1, 2, 3, 4, 5] rfl ?_
                rw [show ((dp : Int) + 1) = (((dp + 1) : Nat) : Int) by omega]
                exact ih.2 _ (dp + 1) i (fr_a (fr_a hf83 (by decide)) (by decide)) (by omega) (by omega : 0 ≤ (H81.1 1826 59) ∧ (H81.1 1826 59) + (((dp + 1) : Nat) : Int) ≤ 12 * (i + 1)) (fun x hx => by show (dp : Int) + 1 - (i + 1) ≤ up (H81.1 1859) dp (ma (H1.1 1833) (H1.1 1830) (H1.1 c i)) x ∧ up (H81.1 1859) dp (ma (H1.1 1833) (H1.1 1830) (H1.1 c i)) x ≤ 4; rw [up_if]; by_cases e9 : x = dp; { rw [if_pos e9]; omega }; { rw [if_neg e9, show (H81.1 1859) = (H1.1 1859) from (hx81f.2.1 1859 (by decide) (by decide))]; have h9 := hlk x (by omega); omega }) (by omega : 1000 * (k - i) + (dp + 1) < w)
            · refine h_run 4 (pc' := 71) (l' := [(0, .inr (.inr 1826)), (1, .inr (.inr c)), (2, .inl 0), (3, .inl (k : Int)), (4, .inl (dp : Int)), (5, .inl (i : Int)), (6, .inl (H1.1 c i)), (7, .inl (ma (H1.1 1833) (H1.1 1830) (H1.1 c i))), (8, .inl 1)]) (st' := [.inl 1]) rfl ?_
              refine h_zeq (off := 9) (t := 80) rfl rfl (by decide) (fun c => absurd c (by decide)) (fun _ => ?_)
              refine h_run 2 (pc' := 77) (l' := [(0, .inr (.inr 1826)), (1, .inr (.inr c)), (2, .inl 0), (3, .inl (k : Int)), (4, .inl (dp : Int)), (5, .inl (i : Int)), (6, .inl (H1.1 c i)), (7, .inl (ma (H1.1 1833) (H1.1 1830) (H1.1 c i))), (8, .inl 1)]) (st' := [.inl 40, .inr (.inr 1826)]) rfl ?_
              refine h_cv (i := 473) (j := 203) (b := 1826) (M' := mt_203) (xs := [.inl 40]) (rest := []) rfl rfl rfl rfl rfl rfl (Nat.le_of_ble_eq_true rfl) (Nat.le_of_ble_eq_true rfl) (by omega) (m_letter (by omega) (by omega : 0 ≤ (H1.1 1826 59) ∧ (H1.1 1826 59) ≤ 7950)) ?_
              rintro _ H85 ⟨rfl, hx85f, hx85z⟩
              refine h_rng (fun hrg86 => ?_)
              have hf87 : fr [59] [1858, 1859, 1860] H H85 := fr_t hf hx85f (by decide) (by decide)
              replace hx85z : (H1.1 1826 59) ≤ (H85.1 1826 59) ∧ (H85.1 1826 59) ≤ (H1.1 1826 59) + 1 := hx85z
              refine h_run 0 (pc' := 80) (l' := [(0, .inr (.inr 1826)), (1, .inr (.inr c)), (2, .inl 0), (3, .inl (k : Int)), (4, .inl (dp : Int)), (5, .inl (i : Int)), (6, .inl (H1.1 c i)), (7, .inl (ma (H1.1 1833) (H1.1 1830) (H1.1 c i))), (8, .inl 1)]) (st' := []) rfl ?_
              refine h_run 1 (pc' := 82) (l' := [(0, .inr (.inr 1826)), (1, .inr (.inr c)), (2, .inl 0), (3, .inl (k : Int)), (4, .inl (dp : Int)), (5, .inl (i : Int)), (6, .inl (H1.1 c i)), (7, .inl (ma (H1.1 1833) (H1.1 1830) (H1.1 c i))), (8, .inl 1)]) (st' := [.inl (H1.1 c i)]) rfl ?_
              refine h_zne (off := 12) (t := 94) rfl rfl (by omega) (fun c88 => ?_) (fun c88 => ?_)
              · refine h_run 2 (pc' := 99) (l' := [(0, .inr (.inr 1826)), (1, .inr (.inr c)), (2, .inl 0), (3, .inl (k : Int)), (4, .inl (dp : Int)), (5, .inl (i : Int)), (6, .inl (H1.1 c i)), (7, .inl (ma (H1.1 1833) (H1.1 1830) (H1.1 c i))), (8, .inl 1)]) (st' := [.inl 1000, .inl (H1.1 c i)]) rfl ?_
                refine h_ilt (off := 52) (t := 151) rfl rfl (by omega) (by decide) (fun c89 => ?_) (fun c89 => ?_)
                · refine h_run 3 (pc' := 156) (l' := [(0, .inr (.inr 1826)), (1, .inr (.inr c)), (2, .inl 0), (3, .inl (k : Int)), (4, .inl (dp : Int)), (5, .inl (i : Int)), (6, .inl (H1.1 c i)), (7, .inl (ma (H1.1 1833) (H1.1 1830) (H1.1 c i))), (8, .inl 1)]) (st' := [.inl 100, .inl (H1.1 c i), .inr (.inr 1826)]) rfl ?_
                  refine h_ilt (off := 16) (t := 172) rfl rfl (by omega) (by decide) (fun c90 => ?_) (fun c90 => ?_)
                  · refine h_run 5 (pc' := 180) (l' := [(0, .inr (.inr 1826)), (1, .inr (.inr c)), (2, .inl 0), (3, .inl (k : Int)), (4, .inl (dp : Int)), (5, .inl (i : Int)), (6, .inl (H1.1 c i)), (7, .inl (ma (H1.1 1833) (H1.1 1830) (H1.1 c i))), (8, .inl 1)]) (st' := [.inl ((H1.1 c i) - 1), .inr (.inr 1828), .inr (.inr 1826)]) rfl ?_
                    refine h_lld (c := 1828) (j := (((H1.1 c i) - 1)).toNat) (i := ((H1.1 c i) - 1)) rfl rfl (by decide) (by omega) (by omega) ?_
                    have g91 : -9223372036854775808 ≤ (H85.1 1828 (((H1.1 c i) - 1)).toNat) ∧ (H85.1 1828 (((H1.1 c i) - 1)).toNat) ≤ 9223372036854775807 := hrg86.2 1828 (((H1.1 c i) - 1)).toNat 16 .long rfl (by omega)
                    have e92 : (H85.1 1828 (((H1.1 c i) - 1)).toNat) = (H1.1 1828 (((H1.1 c i) - 1)).toNat) := congrFun (hx85f.2.1 1828 (by decide) (by decide)) (((H1.1 c i) - 1)).toNat
                    have e93 : (H1.1 1828 (((H1.1 c i) - 1)).toNat) = (H.1 1828 (((H1.1 c i) - 1)).toNat) := congrFun (hf.2.1 1828 (by decide) (by decide)) (((H1.1 c i) - 1)).toNat
                    refine h_run 0 (pc' := 181) (l' := [(0, .inr (.inr 1826)), (1, .inr (.inr c)), (2, .inl 0), (3, .inl (k : Int)), (4, .inl (dp : Int)), (5, .inl (i : Int)), (6, .inl (H1.1 c i)), (7, .inl (ma (H1.1 1833) (H1.1 1830) (H1.1 c i))), (8, .inl 1)]) (st' := [.inr (.inl (H85.1 1828 (((H1.1 c i) - 1)).toNat)), .inr (.inr 1826)]) rfl ?_
                    have g94 : -2147483648 ≤ (H85.1 1826 59) ∧ (H85.1 1826 59) ≤ 2147483647 := hrg86.1 1826 13 59 _ .int rfl rfl
                    refine h_cv (i := 479) (j := 204) (b := 1826) (M' := mt_204) (xs := [.inr (.inl (H85.1 1828 (((H1.1 c i) - 1)).toNat))]) (rest := []) rfl rfl rfl rfl rfl rfl (Nat.le_of_ble_eq_true rfl) (Nat.le_of_ble_eq_true rfl) (by omega) (m_putName (by omega) (by omega : 0 ≤ (H85.1 1826 59) ∧ (H85.1 1826 59) ≤ 7900)) ?_
                    rintro _ H95 ⟨rfl, hx95f, hx95z⟩
                    refine h_rng (fun hrg96 => ?_)
                    have hf97 : fr [59] [1858, 1859, 1860] H H95 := fr_t hf87 hx95f (by decide) (by decide)
                    replace hx95z : (H85.1 1826 59) ≤ (H95.1 1826 59) ∧ (H95.1 1826 59) ≤ (H85.1 1826 59) + 8 := hx95z
                    refine h_run 0 (pc' := 184) (l' := [(0, .inr (.inr 1826)), (1, .inr (.inr c)), (2, .inl 0), (3, .inl (k : Int)), (4, .inl (dp : Int)), (5, .inl (i : Int)), (6, .inl (H1.1 c i)), (7, .inl (ma (H1.1 1833) (H1.1 1830) (H1.1 c i))), (8, .inl 1)]) (st' := []) rfl ?_
                    refine h_run 4 (pc' := 192) (l' := [(0, .inr (.inr 1826)), (1, .inr (.inr c)), (2, .inl 0), (3, .inl (k : Int)), (4, .inl (dp : Int)), (5, .inl (i : Int)), (6, .inl (H1.1 c i)), (7, .inl (ma (H1.1 1833) (H1.1 1830) (H1.1 c i))), (8, .inl 1)]) (st' := [.inl (ma (H1.1 1833) (H1.1 1830) (H1.1 c i)), .inl (dp : Int), .inr (.inr 1859)]) rfl ?_
                    refine h_ist (c := 1859) (j := dp) (i := (dp : Int)) (x := (ma (H1.1 1833) (H1.1 1830) (H1.1 c i))) rfl rfl (by decide) (by decide) rfl (by omega) (by omega) ?_
                    refine h_run 4 (pc' := 201) (l' := [(0, .inr (.inr 1826)), (1, .inr (.inr c)), (2, .inl 0), (3, .inl (k : Int)), (4, .inl (dp : Int)), (5, .inl (i : Int)), (6, .inl (H1.1 c i)), (7, .inl (ma (H1.1 1833) (H1.1 1830) (H1.1 c i))), (8, .inl 1)]) (st' := [.inl 1, .inl (dp : Int), .inr (.inr 1860)]) rfl ?_
                    refine h_bst (c := 1860) (j := dp) (i := (dp : Int)) (x := 1) (Or.inr rfl) rfl rfl (by decide) (by decide) rfl (by omega) (show (0 : Int) ≤ 1 ∧ 1 ≤ 1 by omega) ?_
                    refine h_run 1 (pc' := 205) (l' := [(0, .inr (.inr 1826)), (1, .inr (.inr c)), (2, .inl 0), (3, .inl (k : Int)), (4, .inl ((dp : Int) + 1)), (5, .inl (i : Int)), (6, .inl (H1.1 c i)), (7, .inl (ma (H1.1 1833) (H1.1 1830) (H1.1 c i))), (8, .inl 1)]) (st' := []) rfl ?_
                    have g98 : -2147483648 ≤ (H95.1 1826 59) ∧ (H95.1 1826 59) ≤ 2147483647 := hrg96.1 1826 13 59 _ .int rfl rfl
                    refine h_loc [0, 1, 2, 3, 4, 5] rfl ?_
                    rw [show ((dp : Int) + 1) = (((dp + 1) : Nat) : Int) by omega]
                    exact ih.2 _ (dp + 1) i (fr_a (fr_a hf97 (by decide)) (by decide)) (by omega) (by omega : 0 ≤ (H95.1 1826 59) ∧ (H95.1 1826 59) + (((dp + 1) : Nat) : Int) ≤ 12 * (i + 1)) (fun x hx => by show (dp : Int) + 1 - (i + 1) ≤ up (H95.1 1859) dp (ma (H1.1 1833) (H1.1 1830) (H1.1 c i)) x ∧ up (H95.1 1859) dp (ma (H1.1 1833) (H1.1 1830) (H1.1 c i)) x ≤ 4; rw [up_if]; by_cases e9 : x = dp; { rw [if_pos e9]; omega }; { rw [if_neg e9, show (H95.1 1859) = (H1.1 1859) from ((hx95f.2.1 1859 (by decide) (by decide)).trans (hx85f.2.1 1859 (by decide) (by decide)))]; have h9 := hlk x (by omega); omega }) (by omega : 1000 * (k - i) + (dp + 1) < w)
                  · refine h_run 5 (pc' := 168) (l' := [(0, .inr (.inr 1826)), (1, .inr (.inr c)), (2, .inl 0), (3, .inl (k : Int)), (4, .inl (dp : Int)), (5, .inl (i : Int)), (6, .inl (H1.1 c i)), (7, .inl (ma (H1.1 1833) (H1.1 1830) (H1.1 c i))), (8, .inl 1)]) (st' := [.inl ((H1.1 c i) - 100), .inr (.inr 1832), .inr (.inr 1826)]) rfl ?_
                    refine h_lld (c := 1832) (j := (((H1.1 c i) - 100)).toNat) (i := ((H1.1 c i) - 100)) rfl rfl (by decide) (by omega) (by omega) ?_
                    have g99 : -9223372036854775808 ≤ (H85.1 1832 (((H1.1 c i) - 100)).toNat) ∧ (H85.1 1832 (((H1.1 c i) - 100)).toNat) ≤ 9223372036854775807 := hrg86.2 1832 (((H1.1 c i) - 100)).toNat 16 .long rfl (by omega)
                    have e100 : (H85.1 1832 (((H1.1 c i) - 100)).toNat) = (H1.1 1832 (((H1.1 c i) - 100)).toNat) := congrFun (hx85f.2.1 1832 (by decide) (by decide)) (((H1.1 c i) - 100)).toNat
                    have e101 : (H1.1 1832 (((H1.1 c i) - 100)).toNat) = (H.1 1832 (((H1.1 c i) - 100)).toNat) := congrFun (hf.2.1 1832 (by decide) (by decide)) (((H1.1 c i) - 100)).toNat
                    refine h_run 0 (pc' := 169) (l' := [(0, .inr (.inr 1826)), (1, .inr (.inr c)), (2, .inl 0), (3, .inl (k : Int)), (4, .inl (dp : Int)), (5, .inl (i : Int)), (6, .inl (H1.1 c i)), (7, .inl (ma (H1.1 1833) (H1.1 1830) (H1.1 c i))), (8, .inl 1)]) (st' := [.inr (.inl (H85.1 1832 (((H1.1 c i) - 100)).toNat)), .inr (.inr 1826)]) rfl ?_
                    refine h_run 1 (pc' := 181) (l' := [(0, .inr (.inr 1826)), (1, .inr (.inr c)), (2, .inl 0), (3, .inl (k : Int)), (4, .inl (dp : Int)), (5, .inl (i : Int)), (6, .inl (H1.1 c i)), (7, .inl (ma (H1.1 1833) (H1.1 1830) (H1.1 c i))), (8, .inl 1)]) (st' := [.inr (.inl (H85.1 1832 (((H1.1 c i) - 100)).toNat)), .inr (.inr 1826)]) rfl ?_
                    have g102 : -2147483648 ≤ (H85.1 1826 59) ∧ (H85.1 1826 59) ≤ 2147483647 := hrg86.1 1826 13 59 _ .int rfl rfl
                    refine h_cv (i := 479) (j := 204) (b := 1826) (M' := mt_204) (xs := [.inr (.inl (H85.1 1832 (((H1.1 c i) - 100)).toNat))]) (rest := []) rfl rfl rfl rfl rfl rfl (Nat.le_of_ble_eq_true rfl) (Nat.le_of_ble_eq_true rfl) (by omega) (m_putName (by omega) (by omega : 0 ≤ (H85.1 1826 59) ∧ (H85.1 1826 59) ≤ 7900)) ?_
                    rintro _ H103 ⟨rfl, hx103f, hx103z⟩
                    refine h_rng (fun hrg104 => ?_)
                    have hf105 : fr [59] [1858, 1859, 1860] H H103 := fr_t hf87 hx103f (by decide) (by decide)
                    replace hx103z : (H85.1 1826 59) ≤ (H103.1 1826 59) ∧ (H103.1 1826 59) ≤ (H85.1 1826 59) + 8 := hx103z
                    refine h_run 0 (pc' := 184) (l' := [(0, .inr (.inr 1826)), (1, .inr (.inr c)), (2, .inl 0), (3, .inl (k : Int)), (4, .inl (dp : Int)), (5, .inl (i : Int)), (6, .inl (H1.1 c i)), (7, .inl (ma (H1.1 1833) (H1.1 1830) (H1.1 c i))), (8, .inl 1)]) (st' := []) rfl ?_
                    refine h_run 4 (pc' := 192) (l' := [(0, .inr (.inr 1826)), (1, .inr (.inr c)), (2, .inl 0), (3, .inl (k : Int)), (4, .inl (dp : Int)), (5, .inl (i : Int)), (6, .inl (H1.1 c i)), (7, .inl (ma (H1.1 1833) (H1.1 1830) (H1.1 c i))), (8, .inl 1)]) (st' := [.inl (ma (H1.1 1833) (H1.1 1830) (H1.1 c i)), .inl (dp : Int), .inr (.inr 1859)]) rfl ?_
                    refine h_ist (c := 1859) (j := dp) (i := (dp : Int)) (x := (ma (H1.1 1833) (H1.1 1830) (H1.1 c i))) rfl rfl (by decide) (by decide) rfl (by omega) (by omega) ?_
                    refine h_run 4 (pc' := 201) (l' := [(0, .inr (.inr 1826)), (1, .inr (.inr c)), (2, .inl 0), (3, .inl (k : Int)), (4, .inl (dp : Int)), (5, .inl (i : Int)), (6, .inl (H1.1 c i)), (7, .inl (ma (H1.1 1833) (H1.1 1830) (H1.1 c i))), (8, .inl 1)]) (st' := [.inl 1, .inl (dp : Int), .inr (.inr 1860)]) rfl ?_
                    refine h_bst (c := 1860) (j := dp) (i := (dp : Int)) (x := 1) (Or.inr rfl) rfl rfl (by decide) (by decide) rfl (by omega) (show (0 : Int) ≤ 1 ∧ 1 ≤ 1 by omega) ?_
                    refine h_run 1 (pc' := 205) (l' := [(0, .inr (.inr 1826)), (1, .inr (.inr c)), (2, .inl 0), (3, .inl (k : Int)), (4, .inl ((dp : Int) + 1)), (5, .inl (i : Int)), (6, .inl (H1.1 c i)), (7, .inl (ma (H1.1 1833) (H1.1 1830) (H1.1 c i))), (8, .inl 1)]) (st' := []) rfl ?_
                    have g106 : -2147483648 ≤ (H103.1 1826 59) ∧ (H103.1 1826 59) ≤ 2147483647 := hrg104.1 1826 13 59 _ .int rfl rfl
                    refine h_loc [0, 1, 2, 3, 4, 5] rfl ?_
                    rw [show ((dp : Int) + 1) = (((dp + 1) : Nat) : Int) by omega]
                    exact ih.2 _ (dp + 1) i (fr_a (fr_a hf105 (by decide)) (by decide)) (by omega) (by omega : 0 ≤ (H103.1 1826 59) ∧ (H103.1 1826 59) + (((dp + 1) : Nat) : Int) ≤ 12 * (i + 1)) (fun x hx => by show (dp : Int) + 1 - (i + 1) ≤ up (H103.1 1859) dp (ma (H1.1 1833) (H1.1 1830) (H1.1 c i)) x ∧ up (H103.1 1859) dp (ma (H1.1 1833) (H1.1 1830) (H1.1 c i)) x ≤ 4; rw [up_if]; by_cases e9 : x = dp; { rw [if_pos e9]; omega }; { rw [if_neg e9, show (H103.1 1859) = (H1.1 1859) from ((hx103f.2.1 1859 (by decide) (by decide)).trans (hx85f.2.1 1859 (by decide) (by decide)))]; have h9 := hlk x (by omega); omega }) (by omega : 1000 * (k - i) + (dp + 1) < w)
                · refine h_run 3 (pc' := 108) (l' := [(0, .inr (.inr 1826)), (1, .inr (.inr c)), (2, .inl 0), (3, .inl (k : Int)), (4, .inl (dp : Int)), (5, .inl (i : Int)), (6, .inl (H1.1 c i)), (7, .inl (ma (H1.1 1833) (H1.1 1830) (H1.1 c i))), (8, .inl 1)]) (st' := [.inl 2000, .inl (H1.1 c i), .inr (.inr 1826)]) rfl ?_
                  refine h_ilt (off := 8) (t := 116) rfl rfl (by omega) (by decide) (fun c107 => ?_) (fun c107 => ?_)
                  · refine h_run 1 (pc' := 118) (l' := [(0, .inr (.inr 1826)), (1, .inr (.inr c)), (2, .inl 0), (3, .inl (k : Int)), (4, .inl (dp : Int)), (5, .inl (i : Int)), (6, .inl (H1.1 c i)), (7, .inl (ma (H1.1 1833) (H1.1 1830) (H1.1 c i))), (8, .inl 1)]) (st' := [.inl 118, .inr (.inr 1826)]) rfl ?_
                    have g108 : -2147483648 ≤ (H85.1 1826 59) ∧ (H85.1 1826 59) ≤ 2147483647 := hrg86.1 1826 13 59 _ .int rfl rfl
                    refine h_cv (i := 473) (j := 203) (b := 1826) (M' := mt_203) (xs := [.inl 118]) (rest := []) rfl rfl rfl rfl rfl rfl (Nat.le_of_ble_eq_true rfl) (Nat.le_of_ble_eq_true rfl) (by omega) (m_letter (by omega) (by omega : 0 ≤ (H85.1 1826 59) ∧ (H85.1 1826 59) ≤ 7950)) ?_
                    rintro _ H109 ⟨rfl, hx109f, hx109z⟩
                    refine h_rng (fun hrg110 => ?_)
                    have hf111 : fr [59] [1858, 1859, 1860] H H109 := fr_t hf87 hx109f (by decide) (by decide)
                    replace hx109z : (H85.1 1826 59) ≤ (H109.1 1826 59) ∧ (H109.1 1826 59) ≤ (H85.1 1826 59) + 1 := hx109z
                    refine h_run 0 (pc' := 121) (l' := [(0, .inr (.inr 1826)), (1, .inr (.inr c)), (2, .inl 0), (3, .inl (k : Int)), (4, .inl (dp : Int)), (5, .inl (i : Int)), (6, .inl (H1.1 c i)), (7, .inl (ma (H1.1 1833) (H1.1 1830) (H1.1 c i))), (8, .inl 1)]) (st' := []) rfl ?_
                    refine h_run 3 (pc' := 127) (l' := [(0, .inr (.inr 1826)), (1, .inr (.inr c)), (2, .inl 0), (3, .inl (k : Int)), (4, .inl (dp : Int)), (5, .inl (i : Int)), (6, .inl (H1.1 c i)), (7, .inl (ma (H1.1 1833) (H1.1 1830) (H1.1 c i))), (8, .inl 1)]) (st' := [.inl 2000, .inl (H1.1 c i), .inr (.inr 1826)]) rfl ?_
                    refine h_ilt (off := 12) (t := 139) rfl rfl (by omega) (by decide) (fun c112 => ?_) (fun c112 => ?_)
                    · refine h_run 3 (pc' := 145) (l' := [(0, .inr (.inr 1826)), (1, .inr (.inr c)), (2, .inl 0), (3, .inl (k : Int)), (4, .inl (dp : Int)), (5, .inl (i : Int)), (6, .inl (H1.1 c i)), (7, .inl (ma (H1.1 1833) (H1.1 1830) (H1.1 c i))), (8, .inl 1)]) (st' := [.inl ((H1.1 c i) - 1000), .inr (.inr 1826)]) rfl ?_
                      have g113 : -2147483648 ≤ (H109.1 1826 59) ∧ (H109.1 1826 59) ≤ 2147483647 := hrg110.1 1826 13 59 _ .int rfl rfl
                      refine h_cv (i := 476) (j := 205) (b := 1826) (M' := mt_205) (xs := [.inl ((H1.1 c i) - 1000)]) (rest := []) rfl rfl rfl rfl rfl rfl (Nat.le_of_ble_eq_true rfl) (Nat.le_of_ble_eq_true rfl) (by omega) (m_putNumber (by omega) (by omega : 0 ≤ (H109.1 1826 59) ∧ (H109.1 1826 59) ≤ 7900) (by omega)) ?_
                      rintro _ H114 ⟨rfl, hx114f, hx114z⟩
                      refine h_rng (fun hrg115 => ?_)
                      have hf116 : fr [59] [1858, 1859, 1860] H H114 := fr_t hf111 hx114f (by decide) (by decide)
                      replace hx114z : (H109.1 1826 59) ≤ (H114.1 1826 59) ∧ (H114.1 1826 59) ≤ (H109.1 1826 59) + 2 := hx114z
                      refine h_run 0 (pc' := 148) (l' := [(0, .inr (.inr 1826)), (1, .inr (.inr c)), (2, .inl 0), (3, .inl (k : Int)), (4, .inl (dp : Int)), (5, .inl (i : Int)), (6, .inl (H1.1 c i)), (7, .inl (ma (H1.1 1833) (H1.1 1830) (H1.1 c i))), (8, .inl 1)]) (st' := []) rfl ?_
                      refine h_run 5 (pc' := 192) (l' := [(0, .inr (.inr 1826)), (1, .inr (.inr c)), (2, .inl 0), (3, .inl (k : Int)), (4, .inl (dp : Int)), (5, .inl (i : Int)), (6, .inl (H1.1 c i)), (7, .inl (ma (H1.1 1833) (H1.1 1830) (H1.1 c i))), (8, .inl 1)]) (st' := [.inl (ma (H1.1 1833) (H1.1 1830) (H1.1 c i)), .inl (dp : Int), .inr (.inr 1859)]) rfl ?_
                      refine h_ist (c := 1859) (j := dp) (i := (dp : Int)) (x := (ma (H1.1 1833) (H1.1 1830) (H1.1 c i))) rfl rfl (by decide) (by decide) rfl (by omega) (by omega) ?_
                      refine h_run 4 (pc' := 201) (l' := [(0, .inr (.inr 1826)), (1, .inr (.inr c)), (2, .inl 0), (3, .inl (k : Int)), (4, .inl (dp : Int)), (5, .inl (i : Int)), (6, .inl (H1.1 c i)), (7, .inl (ma (H1.1 1833) (H1.1 1830) (H1.1 c i))), (8, .inl 1)]) (st' := [.inl 1, .inl (dp : Int), .inr (.inr 1860)]) rfl ?_
                      refine h_bst (c := 1860) (j := dp) (i := (dp : Int)) (x := 1) (Or.inr rfl) rfl rfl (by decide) (by decide) rfl (by omega) (show (0 : Int) ≤ 1 ∧ 1 ≤ 1 by omega) ?_
                      refine h_run 1 (pc' := 205) (l' := [(0, .inr (.inr 1826)), (1, .inr (.inr c)), (2, .inl 0), (3, .inl (k : Int)), (4, .inl ((dp : Int) + 1)), (5, .inl (i : Int)), (6, .inl (H1.1 c i)), (7, .inl (ma (H1.1 1833) (H1.1 1830) (H1.1 c i))), (8, .inl 1)]) (st' := []) rfl ?_
                      have g117 : -2147483648 ≤ (H114.1 1826 59) ∧ (H114.1 1826 59) ≤ 2147483647 := hrg115.1 1826 13 59 _ .int rfl rfl
                      refine h_loc [0, 1, 2, 3, 4, 5] rfl ?_
                      rw [show ((dp : Int) + 1) = (((dp + 1) : Nat) : Int) by omega]
                      exact ih.2 _ (dp + 1) i (fr_a (fr_a hf116 (by decide)) (by decide)) (by omega) (by omega : 0 ≤ (H114.1 1826 59) ∧ (H114.1 1826 59) + (((dp + 1) : Nat) : Int) ≤ 12 * (i + 1)) (fun x hx => by show (dp : Int) + 1 - (i + 1) ≤ up (H114.1 1859) dp (ma (H1.1 1833) (H1.1 1830) (H1.1 c i)) x ∧ up (H114.1 1859) dp (ma (H1.1 1833) (H1.1 1830) (H1.1 c i)) x ≤ 4; rw [up_if]; by_cases e9 : x = dp; { rw [if_pos e9]; omega }; { rw [if_neg e9, show (H114.1 1859) = (H1.1 1859) from (((hx114f.2.1 1859 (by decide) (by decide)).trans (hx109f.2.1 1859 (by decide) (by decide))).trans (hx85f.2.1 1859 (by decide) (by decide)))]; have h9 := hlk x (by omega); omega }) (by omega : 1000 * (k - i) + (dp + 1) < w)
                    · exfalso
                      omega
                  · refine h_run 2 (pc' := 118) (l' := [(0, .inr (.inr 1826)), (1, .inr (.inr c)), (2, .inl 0), (3, .inl (k : Int)), (4, .inl (dp : Int)), (5, .inl (i : Int)), (6, .inl (H1.1 c i)), (7, .inl (ma (H1.1 1833) (H1.1 1830) (H1.1 c i))), (8, .inl 1)]) (st' := [.inl 102, .inr (.inr 1826)]) rfl ?_
                    have g118 : -2147483648 ≤ (H85.1 1826 59) ∧ (H85.1 1826 59) ≤ 2147483647 := hrg86.1 1826 13 59 _ .int rfl rfl
                    refine h_cv (i := 473) (j := 203) (b := 1826) (M' := mt_203) (xs := [.inl 102]) (rest := []) rfl rfl rfl rfl rfl rfl (Nat.le_of_ble_eq_true rfl) (Nat.le_of_ble_eq_true rfl) (by omega) (m_letter (by omega) (by omega : 0 ≤ (H85.1 1826 59) ∧ (H85.1 1826 59) ≤ 7950)) ?_
                    rintro _ H119 ⟨rfl, hx119f, hx119z⟩
                    refine h_rng (fun hrg120 => ?_)
                    have hf121 : fr [59] [1858, 1859, 1860] H H119 := fr_t hf87 hx119f (by decide) (by decide)
                    replace hx119z : (H85.1 1826 59) ≤ (H119.1 1826 59) ∧ (H119.1 1826 59) ≤ (H85.1 1826 59) + 1 := hx119z
                    refine h_run 0 (pc' := 121) (l' := [(0, .inr (.inr 1826)), (1, .inr (.inr c)), (2, .inl 0), (3, .inl (k : Int)), (4, .inl (dp : Int)), (5, .inl (i : Int)), (6, .inl (H1.1 c i)), (7, .inl (ma (H1.1 1833) (H1.1 1830) (H1.1 c i))), (8, .inl 1)]) (st' := []) rfl ?_
                    refine h_run 3 (pc' := 127) (l' := [(0, .inr (.inr 1826)), (1, .inr (.inr c)), (2, .inl 0), (3, .inl (k : Int)), (4, .inl (dp : Int)), (5, .inl (i : Int)), (6, .inl (H1.1 c i)), (7, .inl (ma (H1.1 1833) (H1.1 1830) (H1.1 c i))), (8, .inl 1)]) (st' := [.inl 2000, .inl (H1.1 c i), .inr (.inr 1826)]) rfl ?_
                    refine h_ilt (off := 12) (t := 139) rfl rfl (by omega) (by decide) (fun c122 => ?_) (fun c122 => ?_)
                    · exfalso
                      omega
                    · refine h_run 4 (pc' := 145) (l' := [(0, .inr (.inr 1826)), (1, .inr (.inr c)), (2, .inl 0), (3, .inl (k : Int)), (4, .inl (dp : Int)), (5, .inl (i : Int)), (6, .inl (H1.1 c i)), (7, .inl (ma (H1.1 1833) (H1.1 1830) (H1.1 c i))), (8, .inl 1)]) (st' := [.inl ((H1.1 c i) - 2000), .inr (.inr 1826)]) rfl ?_
                      have g123 : -2147483648 ≤ (H119.1 1826 59) ∧ (H119.1 1826 59) ≤ 2147483647 := hrg120.1 1826 13 59 _ .int rfl rfl
                      refine h_cv (i := 476) (j := 205) (b := 1826) (M' := mt_205) (xs := [.inl ((H1.1 c i) - 2000)]) (rest := []) rfl rfl rfl rfl rfl rfl (Nat.le_of_ble_eq_true rfl) (Nat.le_of_ble_eq_true rfl) (by omega) (m_putNumber (by omega) (by omega : 0 ≤ (H119.1 1826 59) ∧ (H119.1 1826 59) ≤ 7900) (by omega)) ?_
                      rintro _ H124 ⟨rfl, hx124f, hx124z⟩
                      refine h_rng (fun hrg125 => ?_)
                      have hf126 : fr [59] [1858, 1859, 1860] H H124 := fr_t hf121 hx124f (by decide) (by decide)
                      replace hx124z : (H119.1 1826 59) ≤ (H124.1 1826 59) ∧ (H124.1 1826 59) ≤ (H119.1 1826 59) + 2 := hx124z
                      refine h_run 0 (pc' := 148) (l' := [(0, .inr (.inr 1826)), (1, .inr (.inr c)), (2, .inl 0), (3, .inl (k : Int)), (4, .inl (dp : Int)), (5, .inl (i : Int)), (6, .inl (H1.1 c i)), (7, .inl (ma (H1.1 1833) (H1.1 1830) (H1.1 c i))), (8, .inl 1)]) (st' := []) rfl ?_
                      refine h_run 5 (pc' := 192) (l' := [(0, .inr (.inr 1826)), (1, .inr (.inr c)), (2, .inl 0), (3, .inl (k : Int)), (4, .inl (dp : Int)), (5, .inl (i : Int)), (6, .inl (H1.1 c i)), (7, .inl (ma (H1.1 1833) (H1.1 1830) (H1.1 c i))), (8, .inl 1)]) (st' := [.inl (ma (H1.1 1833) (H1.1 1830) (H1.1 c i)), .inl (dp : Int), .inr (.inr 1859)]) rfl ?_
                      refine h_ist (c := 1859) (j := dp) (i := (dp : Int)) (x := (ma (H1.1 1833) (H1.1 1830) (H1.1 c i))) rfl rfl (by decide) (by decide) rfl (by omega) (by omega) ?_
                      refine h_run 4 (pc' := 201) (l' := [(0, .inr (.inr 1826)), (1, .inr (.inr c)), (2, .inl 0), (3, .inl (k : Int)), (4, .inl (dp : Int)), (5, .inl (i : Int)), (6, .inl (H1.1 c i)), (7, .inl (ma (H1.1 1833) (H1.1 1830) (H1.1 c i))), (8, .inl 1)]) (st' := [.inl 1, .inl (dp : Int), .inr (.inr 1860)]) rfl ?_
                      refine h_bst (c := 1860) (j := dp) (i := (dp : Int)) (x := 1) (Or.inr rfl) rfl rfl (by decide) (by decide) rfl (by omega) (show (0 : Int) ≤ 1 ∧ 1 ≤ 1 by omega) ?_
                      refine h_run 1 (pc' := 205) (l' := [(0, .inr (.inr 1826)), (1, .inr (.inr c)), (2, .inl 0), (3, .inl (k : Int)), (4, .inl ((dp : Int) + 1)), (5, .inl (i : Int)), (6, .inl (H1.1 c i)), (7, .inl (ma (H1.1 1833) (H1.1 1830) (H1.1 c i))), (8, .inl 1)]) (st' := []) rfl ?_
                      have g127 : -2147483648 ≤ (H124.1 1826 59) ∧ (H124.1 1826 59) ≤ 2147483647 := hrg125.1 1826 13 59 _ .int rfl rfl
                      refine h_loc [0, 1, 2, 3, 4, 5] rfl ?_
                      rw [show ((dp : Int) + 1) = (((dp + 1) : Nat) : Int) by omega]
                      exact ih.2 _ (dp + 1) i (fr_a (fr_a hf126 (by decide)) (by decide)) (by omega) (by omega : 0 ≤ (H124.1 1826 59) ∧ (H124.1 1826 59) + (((dp + 1) : Nat) : Int) ≤ 12 * (i + 1)) (fun x hx => by show (dp : Int) + 1 - (i + 1) ≤ up (H124.1 1859) dp (ma (H1.1 1833) (H1.1 1830) (H1.1 c i)) x ∧ up (H124.1 1859) dp (ma (H1.1 1833) (H1.1 1830) (H1.1 c i)) x ≤ 4; rw [up_if]; by_cases e9 : x = dp; { rw [if_pos e9]; omega }; { rw [if_neg e9, show (H124.1 1859) = (H1.1 1859) from (((hx124f.2.1 1859 (by decide) (by decide)).trans (hx119f.2.1 1859 (by decide) (by decide))).trans (hx85f.2.1 1859 (by decide) (by decide)))]; have h9 := hlk x (by omega); omega }) (by omega : 1000 * (k - i) + (dp + 1) < w)
              · refine h_run 2 (pc' := 88) (l' := [(0, .inr (.inr 1826)), (1, .inr (.inr c)), (2, .inl 0), (3, .inl (k : Int)), (4, .inl (dp : Int)), (5, .inl (i : Int)), (6, .inl (H1.1 c i)), (7, .inl (ma (H1.1 1833) (H1.1 1830) (H1.1 c i))), (8, .inl 1)]) (st' := [.inl 95, .inr (.inr 1826)]) rfl ?_
                have g128 : -2147483648 ≤ (H85.1 1826 59) ∧ (H85.1 1826 59) ≤ 2147483647 := hrg86.1 1826 13 59 _ .int rfl rfl
                refine h_cv (i := 473) (j := 203) (b := 1826) (M' := mt_203) (xs := [.inl 95]) (rest := []) rfl rfl rfl rfl rfl rfl (Nat.le_of_ble_eq_true rfl) (Nat.le_of_ble_eq_true rfl) (by omega) (m_letter (by omega) (by omega : 0 ≤ (H85.1 1826 59) ∧ (H85.1 1826 59) ≤ 7950)) ?_
                rintro _ H129 ⟨rfl, hx129f, hx129z⟩
                refine h_rng (fun hrg130 => ?_)
                have hf131 : fr [59] [1858, 1859, 1860] H H129 := fr_t hf87 hx129f (by decide) (by decide)
                replace hx129z : (H85.1 1826 59) ≤ (H129.1 1826 59) ∧ (H129.1 1826 59) ≤ (H85.1 1826 59) + 1 := hx129z
                refine h_run 0 (pc' := 91) (l' := [(0, .inr (.inr 1826)), (1, .inr (.inr c)), (2, .inl 0), (3, .inl (k : Int)), (4, .inl (dp : Int)), (5, .inl (i : Int)), (6, .inl (H1.1 c i)), (7, .inl (ma (H1.1 1833) (H1.1 1830) (H1.1 c i))), (8, .inl 1)]) (st' := []) rfl ?_
                refine h_run 5 (pc' := 192) (l' := [(0, .inr (.inr 1826)), (1, .inr (.inr c)), (2, .inl 0), (3, .inl (k : Int)), (4, .inl (dp : Int)), (5, .inl (i : Int)), (6, .inl (H1.1 c i)), (7, .inl (ma (H1.1 1833) (H1.1 1830) (H1.1 c i))), (8, .inl 1)]) (st' := [.inl (ma (H1.1 1833) (H1.1 1830) (H1.1 c i)), .inl (dp : Int), .inr (.inr 1859)]) rfl ?_
                refine h_ist (c := 1859) (j := dp) (i := (dp : Int)) (x := (ma (H1.1 1833) (H1.1 1830) (H1.1 c i))) rfl rfl (by decide) (by decide) rfl (by omega) (by omega) ?_
                refine h_run 4 (pc' := 201) (l' := [(0, .inr (.inr 1826)), (1, .inr (.inr c)), (2, .inl 0), (3, .inl (k : Int)), (4, .inl (dp : Int)), (5, .inl (i : Int)), (6, .inl (H1.1 c i)), (7, .inl (ma (H1.1 1833) (H1.1 1830) (H1.1 c i))), (8, .inl 1)]) (st' := [.inl 1, .inl (dp : Int), .inr (.inr 1860)]) rfl ?_
                refine h_bst (c := 1860) (j := dp) (i := (dp : Int)) (x := 1) (Or.inr rfl) rfl rfl (by decide) (by decide) rfl (by omega) (show (0 : Int) ≤ 1 ∧ 1 ≤ 1 by omega) ?_
                refine h_run 1 (pc' := 205) (l' := [(0, .inr (.inr 1826)), (1, .inr (.inr c)), (2, .inl 0), (3, .inl (k : Int)), (4, .inl ((dp : Int) + 1)), (5, .inl (i : Int)), (6, .inl (H1.1 c i)), (7, .inl (ma (H1.1 1833) (H1.1 1830) (H1.1 c i))), (8, .inl 1)]) (st' := []) rfl ?_
                have g132 : -2147483648 ≤ (H129.1 1826 59) ∧ (H129.1 1826 59) ≤ 2147483647 := hrg130.1 1826 13 59 _ .int rfl rfl
                refine h_loc [0, 1, 2, 3, 4, 5] rfl ?_
                rw [show ((dp : Int) + 1) = (((dp + 1) : Nat) : Int) by omega]
                exact ih.2 _ (dp + 1) i (fr_a (fr_a hf131 (by decide)) (by decide)) (by omega) (by omega : 0 ≤ (H129.1 1826 59) ∧ (H129.1 1826 59) + (((dp + 1) : Nat) : Int) ≤ 12 * (i + 1)) (fun x hx => by show (dp : Int) + 1 - (i + 1) ≤ up (H129.1 1859) dp (ma (H1.1 1833) (H1.1 1830) (H1.1 c i)) x ∧ up (H129.1 1859) dp (ma (H1.1 1833) (H1.1 1830) (H1.1 c i)) x ≤ 4; rw [up_if]; by_cases e9 : x = dp; { rw [if_pos e9]; omega }; { rw [if_neg e9, show (H129.1 1859) = (H1.1 1859) from ((hx129f.2.1 1859 (by decide) (by decide)).trans (hx85f.2.1 1859 (by decide) (by decide)))]; have h9 := hlk x (by omega); omega }) (by omega : 1000 * (k - i) + (dp + 1) < w)
        · refine h_run 2 (pc' := 48) (l' := [(0, .inr (.inr 1826)), (1, .inr (.inr c)), (2, .inl 0), (3, .inl (k : Int)), (4, .inl (dp : Int)), (5, .inl (i : Int)), (6, .inl (H1.1 c i)), (7, .inl (ma (H1.1 1833) (H1.1 1830) (H1.1 c i)))]) (st' := [.inl 32, .inr (.inr 1826)]) rfl ?_
          refine h_cv (i := 473) (j := 203) (b := 1826) (M' := mt_203) (xs := [.inl 32]) (rest := []) rfl rfl rfl rfl rfl rfl (Nat.le_of_ble_eq_true rfl) (Nat.le_of_ble_eq_true rfl) (by omega) (m_letter (by omega) (by omega : 0 ≤ (H1.1 1826 59) ∧ (H1.1 1826 59) ≤ 7950)) ?_
          rintro _ H133 ⟨rfl, hx133f, hx133z⟩
          refine h_rng (fun hrg134 => ?_)
          have hf135 : fr [59] [1858, 1859, 1860] H H133 := fr_t hf hx133f (by decide) (by decide)
          replace hx133z : (H1.1 1826 59) ≤ (H133.1 1826 59) ∧ (H133.1 1826 59) ≤ (H1.1 1826 59) + 1 := hx133z
          refine h_run 0 (pc' := 51) (l' := [(0, .inr (.inr 1826)), (1, .inr (.inr c)), (2, .inl 0), (3, .inl (k : Int)), (4, .inl (dp : Int)), (5, .inl (i : Int)), (6, .inl (H1.1 c i)), (7, .inl (ma (H1.1 1833) (H1.1 1830) (H1.1 c i)))]) (st' := []) rfl ?_
          refine h_run 1 (pc' := 53) (l' := [(0, .inr (.inr 1826)), (1, .inr (.inr c)), (2, .inl 0), (3, .inl (k : Int)), (4, .inl (dp : Int)), (5, .inl (i : Int)), (6, .inl (H1.1 c i)), (7, .inl (ma (H1.1 1833) (H1.1 1830) (H1.1 c i)))]) (st' := [.inl (ma (H1.1 1833) (H1.1 1830) (H1.1 c i))]) rfl ?_
          refine h_zle (off := 13) (t := 66) rfl rfl (by omega) (fun c136 => ?_) (fun c136 => ?_)
          · refine h_run 3 (pc' := 71) (l' := [(0, .inr (.inr 1826)), (1, .inr (.inr c)), (2, .inl 0), (3, .inl (k : Int)), (4, .inl (dp : Int)), (5, .inl (i : Int)), (6, .inl (H1.1 c i)), (7, .inl (ma (H1.1 1833) (H1.1 1830) (H1.1 c i))), (8, .inl 0)]) (st' := [.inl 0]) rfl ?_
            refine h_zeq (off := 9) (t := 80) rfl rfl (by decide) (fun _ => ?_) (fun c => absurd c (by decide))
            refine h_run 1 (pc' := 82) (l' := [(0, .inr (.inr 1826)), (1, .inr (.inr c)), (2, .inl 0), (3, .inl (k : Int)), (4, .inl (dp : Int)), (5, .inl (i : Int)), (6, .inl (H1.1 c i)), (7, .inl (ma (H1.1 1833) (H1.1 1830) (H1.1 c i))), (8, .inl 0)]) (st' := [.inl (H1.1 c i)]) rfl ?_
            refine h_zne (off := 12) (t := 94) rfl rfl (by omega) (fun c137 => ?_) (fun c137 => ?_)
            · refine h_run 2 (pc' := 99) (l' := [(0, .inr (.inr 1826)), (1, .inr (.inr c)), (2, .inl 0), (3, .inl (k : Int)), (4, .inl (dp : Int)), (5, .inl (i : Int)), (6, .inl (H1.1 c i)), (7, .inl (ma (H1.1 1833) (H1.1 1830) (H1.1 c i))), (8, .inl 0)]) (st' := [.inl 1000, .inl (H1.1 c i)]) rfl ?_
              refine h_ilt (off := 52) (t := 151) rfl rfl (by omega) (by decide) (fun c138 => ?_) (fun c138 => ?_)
              · refine h_run 3 (pc' := 156) (l' := [(0, .inr (.inr 1826)), (1, .inr (.inr c)), (2, .inl 0), (3, .inl (k : Int)), (4, .inl (dp : Int)), (5, .inl (i : Int)), (6, .inl (H1.1 c i)), (7, .inl (ma (H1.1 1833) (H1.1 1830) (H1.1 c i))), (8, .inl 0)]) (st' := [.inl 100, .inl (H1.1 c i), .inr (.inr 1826)]) rfl ?_
                refine h_ilt (off := 16) (t := 172) rfl rfl (by omega) (by decide) (fun c139 => ?_) (fun c139 => ?_)
                · refine h_run 5 (pc' := 180) (l' := [(0, .inr (.inr 1826)), (1, .inr (.inr c)), (2, .inl 0), (3, .inl (k : Int)), (4, .inl (dp : Int)), (5, .inl (i : Int)), (6, .inl (H1.1 c i)), (7, .inl (ma (H1.1 1833) (H1.1 1830) (H1.1 c i))), (8, .inl 0)]) (st' := [.inl ((H1.1 c i) - 1), .inr (.inr 1828), .inr (.inr 1826)]) rfl ?_
                  refine h_lld (c := 1828) (j := (((H1.1 c i) - 1)).toNat) (i := ((H1.1 c i) - 1)) rfl rfl (by decide) (by omega) (by omega) ?_
                  have g140 : -9223372036854775808 ≤ (H133.1 1828 (((H1.1 c i) - 1)).toNat) ∧ (H133.1 1828 (((H1.1 c i) - 1)).toNat) ≤ 9223372036854775807 := hrg134.2 1828 (((H1.1 c i) - 1)).toNat 16 .long rfl (by omega)
                  have e141 : (H133.1 1828 (((H1.1 c i) - 1)).toNat) = (H1.1 1828 (((H1.1 c i) - 1)).toNat) := congrFun (hx133f.2.1 1828 (by decide) (by decide)) (((H1.1 c i) - 1)).toNat
                  have e142 : (H1.1 1828 (((H1.1 c i) - 1)).toNat) = (H.1 1828 (((H1.1 c i) - 1)).toNat) := congrFun (hf.2.1 1828 (by decide) (by decide)) (((H1.1 c i) - 1)).toNat
                  refine h_run 0 (pc' := 181) (l' := [(0, .inr (.inr 1826)), (1, .inr (.inr c)), (2, .inl 0), (3, .inl (k : Int)), (4, .inl (dp : Int)), (5, .inl (i : Int)), (6, .inl (H1.1 c i)), (7, .inl (ma (H1.1 1833) (H1.1 1830) (H1.1 c i))), (8, .inl 0)]) (st' := [.inr (.inl (H133.1 1828 (((H1.1 c i) - 1)).toNat)), .inr (.inr 1826)]) rfl ?_
                  have g143 : -2147483648 ≤ (H133.1 1826 59) ∧ (H133.1 1826 59) ≤ 2147483647 := hrg134.1 1826 13 59 _ .int rfl rfl
                  refine h_cv (i := 479) (j := 204) (b := 1826) (M' := mt_204) (xs := [.inr (.inl (H133.1 1828 (((H1.1 c i) - 1)).toNat))]) (rest := []) rfl rfl rfl rfl rfl rfl (Nat.le_of_ble_eq_true rfl) (Nat.le_of_ble_eq_true rfl) (by omega) (m_putName (by omega) (by omega : 0 ≤ (H133.1 1826 59) ∧ (H133.1 1826 59) ≤ 7900)) ?_
                  rintro _ H144 ⟨rfl, hx144f, hx144z⟩
                  refine h_rng (fun hrg145 => ?_)
                  have hf146 : fr [59] [1858, 1859, 1860] H H144 := fr_t hf135 hx144f (by decide) (by decide)
                  replace hx144z : (H133.1 1826 59) ≤ (H144.1 1826 59) ∧ (H144.1 1826 59) ≤ (H133.1 1826 59) + 8 := hx144z
                  refine h_run 0 (pc' := 184) (l' := [(0, .inr (.inr 1826)), (1, .inr (.inr c)), (2, .inl 0), (3, .inl (k : Int)), (4, .inl (dp : Int)), (5, .inl (i : Int)), (6, .inl (H1.1 c i)), (7, .inl (ma (H1.1 1833) (H1.1 1830) (H1.1 c i))), (8, .inl 0)]) (st' := []) rfl ?_
                  refine h_run 4 (pc' := 192) (l' := [(0, .inr (.inr 1826)), (1, .inr (.inr c)), (2, .inl 0), (3, .inl (k : Int)), (4, .inl (dp : Int)), (5, .inl (i : Int)), (6, .inl (H1.1 c i)), (7, .inl (ma (H1.1 1833) (H1.1 1830) (H1.1 c i))), (8, .inl 0)]) (st' := [.inl (ma (H1.1 1833) (H1.1 1830) (H1.1 c i)), .inl (dp : Int), .inr (.inr 1859)]) rfl ?_
                  refine h_ist (c := 1859) (j := dp) (i := (dp : Int)) (x := (ma (H1.1 1833) (H1.1 1830) (H1.1 c i))) rfl rfl (by decide) (by decide) rfl (by omega) (by omega) ?_
                  refine h_run 4 (pc' := 201) (l' := [(0, .inr (.inr 1826)), (1, .inr (.inr c)), (2, .inl 0), (3, .inl (k : Int)), (4, .inl (dp : Int)), (5, .inl (i : Int)), (6, .inl (H1.1 c i)), (7, .inl (ma (H1.1 1833) (H1.1 1830) (H1.1 c i))), (8, .inl 0)]) (st' := [.inl 0, .inl (dp : Int), .inr (.inr 1860)]) rfl ?_
                  refine h_bst (c := 1860) (j := dp) (i := (dp : Int)) (x := 0) (Or.inr rfl) rfl rfl (by decide) (by decide) rfl (by omega) (show (0 : Int) ≤ 0 ∧ 0 ≤ 1 by omega) ?_
                  refine h_run 1 (pc' := 205) (l' := [(0, .inr (.inr 1826)), (1, .inr (.inr c)), (2, .inl 0), (3, .inl (k : Int)), (4, .inl ((dp : Int) + 1)), (5, .inl (i : Int)), (6, .inl (H1.1 c i)), (7, .inl (ma (H1.1 1833) (H1.1 1830) (H1.1 c i))), (8, .inl 0)]) (st' := []) rfl ?_
                  have g147 : -2147483648 ≤ (H144.1 1826 59) ∧ (H144.1 1826 59) ≤ 2147483647 := hrg145.1 1826 13 59 _ .int rfl rfl
                  refine h_loc [0, 1, 2, 3, 4, 5] rfl ?_
                  rw [show ((dp : Int) + 1) = (((dp + 1) : Nat) : Int) by omega]
                  exact ih.2 _ (dp + 1) i (fr_a (fr_a hf146 (by decide)) (by decide)) (by omega) (by omega : 0 ≤ (H144.1 1826 59) ∧ (H144.1 1826 59) + (((dp + 1) : Nat) : Int) ≤ 12 * (i + 1)) (fun x hx => by show (dp : Int) + 1 - (i + 1) ≤ up (H144.1 1859) dp (ma (H1.1 1833) (H1.1 1830) (H1.1 c i)) x ∧ up (H144.1 1859) dp (ma (H1.1 1833) (H1.1 1830) (H1.1 c i)) x ≤ 4; rw [up_if]; by_cases e9 : x = dp; { rw [if_pos e9]; omega }; { rw [if_neg e9, show (H144.1 1859) = (H1.1 1859) from ((hx144f.2.1 1859 (by decide) (by decide)).trans (hx133f.2.1 1859 (by decide) (by decide)))]; have h9 := hlk x (by omega); omega }) (by omega : 1000 * (k - i) + (dp + 1) < w)
                · refine h_run 5 (pc' := 168) (l' := [(0, .inr (.inr 1826)), (1, .inr (.inr c)), (2, .inl 0), (3, .inl (k : Int)), (4, .inl (dp : Int)), (5, .inl (i : Int)), (6, .inl (H1.1 c i)), (7, .inl (ma (H1.1 1833) (H1.1 1830) (H1.1 c i))), (8, .inl 0)]) (st' := [.inl ((H1.1 c i) - 100), .inr (.inr 1832), .inr (.inr 1826)]) rfl ?_
                  refine h_lld (c := 1832) (j := (((H1.1 c i) - 100)).toNat) (i := ((H1.1 c i) - 100)) rfl rfl (by decide) (by omega) (by omega) ?_
                  have g148 : -9223372036854775808 ≤ (H133.1 1832 (((H1.1 c i) - 100)).toNat) ∧ (H133.1 1832 (((H1.1 c i) - 100)).toNat) ≤ 9223372036854775807 := hrg134.2 1832 (((H1.1 c i) - 100)).toNat 16 .long rfl (by omega)
                  have e149 : (H133.1 1832 (((H1.1 c i) - 100)).toNat) = (H1.1 1832 (((H1.1 c i) - 100)).toNat) := congrFun (hx133f.2.1 1832 (by decide) (by decide)) (((H1.1 c i) - 100)).toNat
                  have e150 : (H1.1 1832 (((H1.1 c i) - 100)).toNat) = (H.1 1832 (((H1.1 c i) - 100)).toNat) := congrFun (hf.2.1 1832 (by decide) (by decide)) (((H1.1 c i) - 100)).toNat
                  refine h_run 0 (pc' := 169) (l' := [(0, .inr (.inr 1826)), (1, .inr (.inr c)), (2, .inl 0), (3, .inl (k : Int)), (4, .inl (dp : Int)), (5, .inl (i : Int)), (6, .inl (H1.1 c i)), (7, .inl (ma (H1.1 1833) (H1.1 1830) (H1.1 c i))), (8, .inl 0)]) (st' := [.inr (.inl (H133.1 1832 (((H1.1 c i) - 100)).toNat)), .inr (.inr 1826)]) rfl ?_
                  refine h_run 1 (pc' := 181) (l' := [(0, .inr (.inr 1826)), (1, .inr (.inr c)), (2, .inl 0), (3, .inl (k : Int)), (4, .inl (dp : Int)), (5, .inl (i : Int)), (6, .inl (H1.1 c i)), (7, .inl (ma (H1.1 1833) (H1.1 1830) (H1.1 c i))), (8, .inl 0)]) (st' := [.inr (.inl (H133.1 1832 (((H1.1 c i) - 100)).toNat)), .inr (.inr 1826)]) rfl ?_
                  have g151 : -2147483648 ≤ (H133.1 1826 59) ∧ (H133.1 1826 59) ≤ 2147483647 := hrg134.1 1826 13 59 _ .int rfl rfl
                  refine h_cv (i := 479) (j := 204) (b := 1826) (M' := mt_204) (xs := [.inr (.inl (H133.1 1832 (((H1.1 c i) - 100)).toNat))]) (rest := []) rfl rfl rfl rfl rfl rfl (Nat.le_of_ble_eq_true rfl) (Nat.le_of_ble_eq_true rfl) (by omega) (m_putName (by omega) (by omega : 0 ≤ (H133.1 1826 59) ∧ (H133.1 1826 59) ≤ 7900)) ?_
                  rintro _ H152 ⟨rfl, hx152f, hx152z⟩
                  refine h_rng (fun hrg153 => ?_)
                  have hf154 : fr [59] [1858, 1859, 1860] H H152 := fr_t hf135 hx152f (by decide) (by decide)
                  replace hx152z : (H133.1 1826 59) ≤ (H152.1 1826 59) ∧ (H152.1 1826 59) ≤ (H133.1 1826 59) + 8 := hx152z
                  refine h_run 0 (pc' := 184) (l' := [(0, .inr (.inr 1826)), (1, .inr (.inr c)), (2, .inl 0), (3, .inl (k : Int)), (4, .inl (dp : Int)), (5, .inl (i : Int)), (6, .inl (H1.1 c i)), (7, .inl (ma (H1.1 1833) (H1.1 1830) (H1.1 c i))), (8, .inl 0)]) (st' := []) rfl ?_
                  refine h_run 4 (pc' := 192) (l' := [(0, .inr (.inr 1826)), (1, .inr (.inr c)), (2, .inl 0), (3, .inl (k : Int)), (4, .inl (dp : Int)), (5, .inl (i : Int)), (6, .inl (H1.1 c i)), (7, .inl (ma (H1.1 1833) (H1.1 1830) (H1.1 c i))), (8, .inl 0)]) (st' := [.inl (ma (H1.1 1833) (H1.1 1830) (H1.1 c i)), .inl (dp : Int), .inr (.inr 1859)]) rfl ?_
                  refine h_ist (c := 1859) (j := dp) (i := (dp : Int)) (x := (ma (H1.1 1833) (H1.1 1830) (H1.1 c i))) rfl rfl (by decide) (by decide) rfl (by omega) (by omega) ?_
                  refine h_run 4 (pc' := 201) (l' := [(0, .inr (.inr 1826)), (1, .inr (.inr c)), (2, .inl 0), (3, .inl (k : Int)), (4, .inl (dp : Int)), (5, .inl (i : Int)), (6, .inl (H1.1 c i)), (7, .inl (ma (H1.1 1833) (H1.1 1830) (H1.1 c i))), (8, .inl 0)]) (st' := [.inl 0, .inl (dp : Int), .inr (.inr 1860)]) rfl ?_
                  refine h_bst (c := 1860) (j := dp) (i := (dp : Int)) (x := 0) (Or.inr rfl) rfl rfl (by decide) (by decide) rfl (by omega) (show (0 : Int) ≤ 0 ∧ 0 ≤ 1 by omega) ?_
                  refine h_run 1 (pc' := 205) (l' := [(0, .inr (.inr 1826)), (1, .inr (.inr c)), (2, .inl 0), (3, .inl (k : Int)), (4, .inl ((dp : Int) + 1)), (5, .inl (i : Int)), (6, .inl (H1.1 c i)), (7, .inl (ma (H1.1 1833) (H1.1 1830) (H1.1 c i))), (8, .inl 0)]) (st' := []) rfl ?_
                  have g155 : -2147483648 ≤ (H152.1 1826 59) ∧ (H152.1 1826 59) ≤ 2147483647 := hrg153.1 1826 13 59 _ .int rfl rfl
                  refine h_loc [0, 1, 2, 3, 4, 5] rfl ?_
                  rw [show ((dp : Int) + 1) = (((dp + 1) : Nat) : Int) by omega]
                  exact ih.2 _ (dp + 1) i (fr_a (fr_a hf154 (by decide)) (by decide)) (by omega) (by omega : 0 ≤ (H152.1 1826 59) ∧ (H152.1 1826 59) + (((dp + 1) : Nat) : Int) ≤ 12 * (i + 1)) (fun x hx => by show (dp : Int) + 1 - (i + 1) ≤ up (H152.1 1859) dp (ma (H1.1 1833) (H1.1 1830) (H1.1 c i)) x ∧ up (H152.1 1859) dp (ma (H1.1 1833) (H1.1 1830) (H1.1 c i)) x ≤ 4; rw [up_if]; by_cases e9 : x = dp; { rw [if_pos e9]; omega }; { rw [if_neg e9, show (H152.1 1859) = (H1.1 1859) from ((hx152f.2.1 1859 (by decide) (by decide)).trans (hx133f.2.1 1859 (by decide) (by decide)))]; have h9 := hlk x (by omega); omega }) (by omega : 1000 * (k - i) + (dp + 1) < w)
              · refine h_run 3 (pc' := 108) (l' := [(0, .inr (.inr 1826)), (1, .inr (.inr c)), (2, .inl 0), (3, .inl (k : Int)), (4, .inl (dp : Int)), (5, .inl (i : Int)), (6, .inl (H1.1 c i)), (7, .inl (ma (H1.1 1833) (H1.1 1830) (H1.1 c i))), (8, .inl 0)]) (st' := [.inl 2000, .inl (H1.1 c i), .inr (.inr 1826)]) rfl ?_
                refine h_ilt (off := 8) (t := 116) rfl rfl (by omega) (by decide) (fun c156 => ?_) (fun c156 => ?_)
                · refine h_run 1 (pc' := 118) (l' := [(0, .inr (.inr 1826)), (1, .inr (.inr c)), (2, .inl 0), (3, .inl (k : Int)), (4, .inl (dp : Int)), (5, .inl (i : Int)), (6, .inl (H1.1 c i)), (7, .inl (ma (H1.1 1833) (H1.1 1830) (H1.1 c i))), (8, .inl 0)]) (st' := [.inl 118, .inr (.inr 1826)]) rfl ?_
                  have g157 : -2147483648 ≤ (H133.1 1826 59) ∧ (H133.1 1826 59) ≤ 2147483647 := hrg134.1 1826 13 59 _ .int rfl rfl
                  refine h_cv (i := 473) (j := 203) (b := 1826) (M' := mt_203) (xs := [.inl 118]) (rest := []) rfl rfl rfl rfl rfl rfl (Nat.le_of_ble_eq_true rfl) (Nat.le_of_ble_eq_true rfl) (by omega) (m_letter (by omega) (by omega : 0 ≤ (H133.1 1826 59) ∧ (H133.1 1826 59) ≤ 7950)) ?_
                  rintro _ H158 ⟨rfl, hx158f, hx158z⟩
                  refine h_rng (fun hrg159 => ?_)
                  have hf160 : fr [59] [1858, 1859, 1860] H H158 := fr_t hf135 hx158f (by decide) (by decide)
                  replace hx158z : (H133.1 1826 59) ≤ (H158.1 1826 59) ∧ (H158.1 1826 59) ≤ (H133.1 1826 59) + 1 := hx158z
                  refine h_run 0 (pc' := 121) (l' := [(0, .inr (.inr 1826)), (1, .inr (.inr c)), (2, .inl 0), (3, .inl (k : Int)), (4, .inl (dp : Int)), (5, .inl (i : Int)), (6, .inl (H1.1 c i)), (7, .inl (ma (H1.1 1833) (H1.1 1830) (H1.1 c i))), (8, .inl 0)]) (st' := []) rfl ?_
                  refine h_run 3 (pc' := 127) (l' := [(0, .inr (.inr 1826)), (1, .inr (.inr c)), (2, .inl 0), (3, .inl (k : Int)), (4, .inl (dp : Int)), (5, .inl (i : Int)), (6, .inl (H1.1 c i)), (7, .inl (ma (H1.1 1833) (H1.1 1830) (H1.1 c i))), (8, .inl 0)]) (st' := [.inl 2000, .inl (H1.1 c i), .inr (.inr 1826)]) rfl ?_
                  refine h_ilt (off := 12) (t := 139) rfl rfl (by omega) (by decide) (fun c161 => ?_) (fun c161 => ?_)
                  · refine h_run 3 (pc' := 145) (l' := [(0, .inr (.inr 1826)), (1, .inr (.inr c)), (2, .inl 0), (3, .inl (k : Int)), (4, .inl (dp : Int)), (5, .inl (i : Int)), (6, .inl (H1.1 c i)), (7, .inl (ma (H1.1 1833) (H1.1 1830) (H1.1 c i))), (8, .inl 0)]) (st' := [.inl ((H1.1 c i) - 1000), .inr (.inr 1826)]) rfl ?_
                    have g162 : -2147483648 ≤ (H158.1 1826 59) ∧ (H158.1 1826 59) ≤ 2147483647 := hrg159.1 1826 13 59 _ .int rfl rfl
                    refine h_cv (i := 476) (j := 205) (b := 1826) (M' := mt_205) (xs := [.inl ((H1.1 c i) - 1000)]) (rest := []) rfl rfl rfl rfl rfl rfl (Nat.le_of_ble_eq_true rfl) (Nat.le_of_ble_eq_true rfl) (by omega) (m_putNumber (by omega) (by omega : 0 ≤ (H158.1 1826 59) ∧ (H158.1 1826 59) ≤ 7900) (by omega)) ?_
                    rintro _ H163 ⟨rfl, hx163f, hx163z⟩
                    refine h_rng (fun hrg164 => ?_)
                    have hf165 : fr [59] [1858, 1859, 1860] H H163 := fr_t hf160 hx163f (by decide) (by decide)
                    replace hx163z : (H158.1 1826 59) ≤ (H163.1 1826 59) ∧ (H163.1 1826 59) ≤ (H158.1 1826 59) + 2 := hx163z
                    refine h_run 0 (pc' := 148) (l' := [(0, .inr (.inr 1826)), (1, .inr (.inr c)), (2, .inl 0), (3, .inl (k : Int)), (4, .inl (dp : Int)), (5, .inl (i : Int)), (6, .inl (H1.1 c i)), (7, .inl (ma (H1.1 1833) (H1.1 1830) (H1.1 c i))), (8, .inl 0)]) (st' := []) rfl ?_
                    refine h_run 5 (pc' := 192) (l' := [(0, .inr (.inr 1826)), (1, .inr (.inr c)), (2, .inl 0), (3, .inl (k : Int)), (4, .inl (dp : Int)), (5, .inl (i : Int)), (6, .inl (H1.1 c i)), (7, .inl (ma (H1.1 1833) (H1.1 1830) (H1.1 c i))), (8, .inl 0)]) (st' := [.inl (ma (H1.1 1833) (H1.1 1830) (H1.1 c i)), .inl (dp : Int), .inr (.inr 1859)]) rfl ?_
                    refine h_ist (c := 1859) (j := dp) (i := (dp : Int)) (x := (ma (H1.1 1833) (H1.1 1830) (H1.1 c i))) rfl rfl (by decide) (by decide) rfl (by omega) (by omega) ?_
                    refine h_run 4 (pc' := 201) (l' := [(0, .inr (.inr 1826)), (1, .inr (.inr c)), (2, .inl 0), (3, .inl (k : Int)), (4, .inl (dp : Int)), (5, .inl (i : Int)), (6, .inl (H1.1 c i)), (7, .inl (ma (H1.1 1833) (H1.1 1830) (H1.1 c i))), (8, .inl 0)]) (st' := [.inl 0, .inl (dp : Int), .inr (.inr 1860)]) rfl ?_
                    refine h_bst (c := 1860) (j := dp) (i := (dp : Int)) (x := 0) (Or.inr rfl) rfl rfl (by decide) (by decide) rfl (by omega) (show (0 : Int) ≤ 0 ∧ 0 ≤ 1 by omega) ?_
                    refine h_run 1 (pc' := 205) (l' := [(0, .inr (.inr 1826)), (1, .inr (.inr c)), (2, .inl 0), (3, .inl (k : Int)), (4, .inl ((dp : Int) + 1)), (5, .inl (i : Int)), (6, .inl (H1.1 c i)), (7, .inl (ma (H1.1 1833) (H1.1 1830) (H1.1 c i))), (8, .inl 0)]) (st' := []) rfl ?_
                    have g166 : -2147483648 ≤ (H163.1 1826 59) ∧ (H163.1 1826 59) ≤ 2147483647 := hrg164.1 1826 13 59 _ .int rfl rfl
                    refine h_loc [0, 1, 2, 3, 4, 5] rfl ?_
                    rw [show ((dp : Int) + 1) = (((dp + 1) : Nat) : Int) by omega]
                    exact ih.2 _ (dp + 1) i (fr_a (fr_a hf165 (by decide)) (by decide)) (by omega) (by omega : 0 ≤ (H163.1 1826 59) ∧ (H163.1 1826 59) + (((dp + 1) : Nat) : Int) ≤ 12 * (i + 1)) (fun x hx => by show (dp : Int) + 1 - (i + 1) ≤ up (H163.1 1859) dp (ma (H1.1 1833) (H1.1 1830) (H1.1 c i)) x ∧ up (H163.1 1859) dp (ma (H1.1 1833) (H1.1 1830) (H1.1 c i)) x ≤ 4; rw [up_if]; by_cases e9 : x = dp; { rw [if_pos e9]; omega }; { rw [if_neg e9, show (H163.1 1859) = (H1.1 1859) from (((hx163f.2.1 1859 (by decide) (by decide)).trans (hx158f.2.1 1859 (by decide) (by decide))).trans (hx133f.2.1 1859 (by decide) (by decide)))]; have h9 := hlk x (by omega); omega }) (by omega : 1000 * (k - i) + (dp + 1) < w)
                  · exfalso
                    omega
                · refine h_run 2 (pc' := 118) (l' := [(0, .inr (.inr 1826)), (1, .inr (.inr c)), (2, .inl 0), (3, .inl (k : Int)), (4, .inl (dp : Int)), (5, .inl (i : Int)), (6, .inl (H1.1 c i)), (7, .inl (ma (H1.1 1833) (H1.1 1830) (H1.1 c i))), (8, .inl 0)]) (st' := [.inl 102, .inr (.inr 1826)]) rfl ?_
                  have g167 : -2147483648 ≤ (H133.1 1826 59) ∧ (H133.1 1826 59) ≤ 2147483647 := hrg134.1 1826 13 59 _ .int rfl rfl
                  refine h_cv (i := 473) (j := 203) (b := 1826) (M' := mt_203) (xs := [.inl 102]) (rest := []) rfl rfl rfl rfl rfl rfl (Nat.le_of_ble_eq_true rfl) (Nat.le_of_ble_eq_true rfl) (by omega) (m_letter (by omega) (by omega : 0 ≤ (H133.1 1826 59) ∧ (H133.1 1826 59) ≤ 7950)) ?_
                  rintro _ H168 ⟨rfl, hx168f, hx168z⟩
                  refine h_rng (fun hrg169 => ?_)
                  have hf170 : fr [59] [1858, 1859, 1860] H H168 := fr_t hf135 hx168f (by decide) (by decide)
                  replace hx168z : (H133.1 1826 59) ≤ (H168.1 1826 59) ∧ (H168.1 1826 59) ≤ (H133.1 1826 59) + 1 := hx168z
                  refine h_run 0 (pc' := 121) (l' := [(0, .inr (.inr 1826)), (1, .inr (.inr c)), (2, .inl 0), (3, .inl (k : Int)), (4, .inl (dp : Int)), (5, .inl (i : Int)), (6, .inl (H1.1 c i)), (7, .inl (ma (H1.1 1833) (H1.1 1830) (H1.1 c i))), (8, .inl 0)]) (st' := []) rfl ?_
                  refine h_run 3 (pc' := 127) (l' := [(0, .inr (.inr 1826)), (1, .inr (.inr c)), (2, .inl 0), (3, .inl (k : Int)), (4, .inl (dp : Int)), (5, .inl (i : Int)), (6, .inl (H1.1 c i)), (7, .inl (ma (H1.1 1833) (H1.1 1830) (H1.1 c i))), (8, .inl 0)]) (st' := [.inl 2000, .inl (H1.1 c i), .inr (.inr 1826)]) rfl ?_
                  refine h_ilt (off := 12) (t := 139) rfl rfl (by omega) (by decide) (fun c171 => ?_) (fun c171 => ?_)
                  · exfalso
                    omega
                  · refine h_run 4 (pc' := 145) (l' := [(0, .inr (.inr 1826)), (1, .inr (.inr c)), (2, .inl 0), (3, .inl (k : Int)), (4, .inl (dp : Int)), (5, .inl (i : Int)), (6, .inl (H1.1 c i)), (7, .inl (ma (H1.1 1833) (H1.1 1830) (H1.1 c i))), (8, .inl 0)]) (st' := [.inl ((H1.1 c i) - 2000), .inr (.inr 1826)]) rfl ?_
                    have g172 : -2147483648 ≤ (H168.1 1826 59) ∧ (H168.1 1826 59) ≤ 2147483647 := hrg169.1 1826 13 59 _ .int rfl rfl
                    refine h_cv (i := 476) (j := 205) (b := 1826) (M' := mt_205) (xs := [.inl ((H1.1 c i) - 2000)]) (rest := []) rfl rfl rfl rfl rfl rfl (Nat.le_of_ble_eq_true rfl) (Nat.le_of_ble_eq_true rfl) (by omega) (m_putNumber (by omega) (by omega : 0 ≤ (H168.1 1826 59) ∧ (H168.1 1826 59) ≤ 7900) (by omega)) ?_
                    rintro _ H173 ⟨rfl, hx173f, hx173z⟩
                    refine h_rng (fun hrg174 => ?_)
                    have hf175 : fr [59] [1858, 1859, 1860] H H173 := fr_t hf170 hx173f (by decide) (by decide)
                    replace hx173z : (H168.1 1826 59) ≤ (H173.1 1826 59) ∧ (H173.1 1826 59) ≤ (H168.1 1826 59) + 2 := hx173z
                    refine h_run 0 (pc' := 148) (l' := [(0, .inr (.inr 1826)), (1, .inr (.inr c)), (2, .inl 0), (3, .inl (k : Int)), (4, .inl (dp : Int)), (5, .inl (i : Int)), (6, .inl (H1.1 c i)), (7, .inl (ma (H1.1 1833) (H1.1 1830) (H1.1 c i))), (8, .inl 0)]) (st' := []) rfl ?_
                    refine h_run 5 (pc' := 192) (l' := [(0, .inr (.inr 1826)), (1, .inr (.inr c)), (2, .inl 0), (3, .inl (k : Int)), (4, .inl (dp : Int)), (5, .inl (i : Int)), (6, .inl (H1.1 c i)), (7, .inl (ma (H1.1 1833) (H1.1 1830) (H1.1 c i))), (8, .inl 0)]) (st' := [.inl (ma (H1.1 1833) (H1.1 1830) (H1.1 c i)), .inl (dp : Int), .inr (.inr 1859)]) rfl ?_
                    refine h_ist (c := 1859) (j := dp) (i := (dp : Int)) (x := (ma (H1.1 1833) (H1.1 1830) (H1.1 c i))) rfl rfl (by decide) (by decide) rfl (by omega) (by omega) ?_
                    refine h_run 4 (pc' := 201) (l' := [(0, .inr (.inr 1826)), (1, .inr (.inr c)), (2, .inl 0), (3, .inl (k : Int)), (4, .inl (dp : Int)), (5, .inl (i : Int)), (6, .inl (H1.1 c i)), (7, .inl (ma (H1.1 1833) (H1.1 1830) (H1.1 c i))), (8, .inl 0)]) (st' := [.inl 0, .inl (dp : Int), .inr (.inr 1860)]) rfl ?_
                    refine h_bst (c := 1860) (j := dp) (i := (dp : Int)) (x := 0) (Or.inr rfl) rfl rfl (by decide) (by decide) rfl (by omega) (show (0 : Int) ≤ 0 ∧ 0 ≤ 1 by omega) ?_
                    refine h_run 1 (pc' := 205) (l' := [(0, .inr (.inr 1826)), (1, .inr (.inr c)), (2, .inl 0), (3, .inl (k : Int)), (4, .inl ((dp : Int) + 1)), (5, .inl (i : Int)), (6, .inl (H1.1 c i)), (7, .inl (ma (H1.1 1833) (H1.1 1830) (H1.1 c i))), (8, .inl 0)]) (st' := []) rfl ?_
                    have g176 : -2147483648 ≤ (H173.1 1826 59) ∧ (H173.1 1826 59) ≤ 2147483647 := hrg174.1 1826 13 59 _ .int rfl rfl
                    refine h_loc [0, 1, 2, 3, 4, 5] rfl ?_
                    rw [show ((dp : Int) + 1) = (((dp + 1) : Nat) : Int) by omega]
                    exact ih.2 _ (dp + 1) i (fr_a (fr_a hf175 (by decide)) (by decide)) (by omega) (by omega : 0 ≤ (H173.1 1826 59) ∧ (H173.1 1826 59) + (((dp + 1) : Nat) : Int) ≤ 12 * (i + 1)) (fun x hx => by show (dp : Int) + 1 - (i + 1) ≤ up (H173.1 1859) dp (ma (H1.1 1833) (H1.1 1830) (H1.1 c i)) x ∧ up (H173.1 1859) dp (ma (H1.1 1833) (H1.1 1830) (H1.1 c i)) x ≤ 4; rw [up_if]; by_cases e9 : x = dp; { rw [if_pos e9]; omega }; { rw [if_neg e9, show (H173.1 1859) = (H1.1 1859) from (((hx173f.2.1 1859 (by decide) (by decide)).trans (hx168f.2.1 1859 (by decide) (by decide))).trans (hx133f.2.1 1859 (by decide) (by decide)))]; have h9 := hlk x (by omega); omega }) (by omega : 1000 * (k - i) + (dp + 1) < w)
            · refine h_run 2 (pc' := 88) (l' := [(0, .inr (.inr 1826)), (1, .inr (.inr c)), (2, .inl 0), (3, .inl (k : Int)), (4, .inl (dp : Int)), (5, .inl (i : Int)), (6, .inl (H1.1 c i)), (7, .inl (ma (H1.1 1833) (H1.1 1830) (H1.1 c i))), (8, .inl 0)]) (st' := [.inl 95, .inr (.inr 1826)]) rfl ?_
              have g177 : -2147483648 ≤ (H133.1 1826 59) ∧ (H133.1 1826 59) ≤ 2147483647 := hrg134.1 1826 13 59 _ .int rfl rfl
              refine h_cv (i := 473) (j := 203) (b := 1826) (M' := mt_203) (xs := [.inl 95]) (rest := []) rfl rfl rfl rfl rfl rfl (Nat.le_of_ble_eq_true rfl) (Nat.le_of_ble_eq_true rfl) (by omega) (m_letter (by omega) (by omega : 0 ≤ (H133.1 1826 59) ∧ (H133.1 1826 59) ≤ 7950)) ?_
              rintro _ H178 ⟨rfl, hx178f, hx178z⟩
              refine h_rng (fun hrg179 => ?_)
              have hf180 : fr [59] [1858, 1859, 1860] H H178 := fr_t hf135 hx178f (by decide) (by decide)
              replace hx178z : (H133.1 1826 59) ≤ (H178.1 1826 59) ∧ (H178.1 1826 59) ≤ (H133.1 1826 59) + 1 := hx178z
              refine h_run 0 (pc' := 91) (l' := [(0, .inr (.inr 1826)), (1, .inr (.inr c)), (2, .inl 0), (3, .inl (k : Int)), (4, .inl (dp : Int)), (5, .inl (i : Int)), (6, .inl (H1.1 c i)), (7, .inl (ma (H1.1 1833) (H1.1 1830) (H1.1 c i))), (8, .inl 0)]) (st' := []) rfl ?_
              refine h_run 5 (pc' := 192) (l' := [(0, .inr (.inr 1826)), (1, .inr (.inr c)), (2, .inl 0), (3, .inl (k : Int)), (4, .inl (dp : Int)), (5, .inl (i : Int)), (6, .inl (H1.1 c i)), (7, .inl (ma (H1.1 1833) (H1.1 1830) (H1.1 c i))), (8, .inl 0)]) (st' := [.inl (ma (H1.1 1833) (H1.1 1830) (H1.1 c i)), .inl (dp : Int), .inr (.inr 1859)]) rfl ?_
              refine h_ist (c := 1859) (j := dp) (i := (dp : Int)) (x := (ma (H1.1 1833) (H1.1 1830) (H1.1 c i))) rfl rfl (by decide) (by decide) rfl (by omega) (by omega) ?_
              refine h_run 4 (pc' := 201) (l' := [(0, .inr (.inr 1826)), (1, .inr (.inr c)), (2, .inl 0), (3, .inl (k : Int)), (4, .inl (dp : Int)), (5, .inl (i : Int)), (6, .inl (H1.1 c i)), (7, .inl (ma (H1.1 1833) (H1.1 1830) (H1.1 c i))), (8, .inl 0)]) (st' := [.inl 0, .inl (dp : Int), .inr (.inr 1860)]) rfl ?_
              refine h_bst (c := 1860) (j := dp) (i := (dp : Int)) (x := 0) (Or.inr rfl) rfl rfl (by decide) (by decide) rfl (by omega) (show (0 : Int) ≤ 0 ∧ 0 ≤ 1 by omega) ?_
              refine h_run 1 (pc' := 205) (l' := [(0, .inr (.inr 1826)), (1, .inr (.inr c)), (2, .inl 0), (3, .inl (k : Int)), (4, .inl ((dp : Int) + 1)), (5, .inl (i : Int)), (6, .inl (H1.1 c i)), (7, .inl (ma (H1.1 1833) (H1.1 1830) (H1.1 c i))), (8, .inl 0)]) (st' := []) rfl ?_
              have g181 : -2147483648 ≤ (H178.1 1826 59) ∧ (H178.1 1826 59) ≤ 2147483647 := hrg179.1 1826 13 59 _ .int rfl rfl
              refine h_loc [0, 1, 2, 3, 4, 5] rfl ?_
              rw [show ((dp : Int) + 1) = (((dp + 1) : Nat) : Int) by omega]
              exact ih.2 _ (dp + 1) i (fr_a (fr_a hf180 (by decide)) (by decide)) (by omega) (by omega : 0 ≤ (H178.1 1826 59) ∧ (H178.1 1826 59) + (((dp + 1) : Nat) : Int) ≤ 12 * (i + 1)) (fun x hx => by show (dp : Int) + 1 - (i + 1) ≤ up (H178.1 1859) dp (ma (H1.1 1833) (H1.1 1830) (H1.1 c i)) x ∧ up (H178.1 1859) dp (ma (H1.1 1833) (H1.1 1830) (H1.1 c i)) x ≤ 4; rw [up_if]; by_cases e9 : x = dp; { rw [if_pos e9]; omega }; { rw [if_neg e9, show (H178.1 1859) = (H1.1 1859) from ((hx178f.2.1 1859 (by decide) (by decide)).trans (hx133f.2.1 1859 (by decide) (by decide)))]; have h9 := hlk x (by omega); omega }) (by omega : 1000 * (k - i) + (dp + 1) < w)
          · refine h_run 2 (pc' := 59) (l' := [(0, .inr (.inr 1826)), (1, .inr (.inr c)), (2, .inl 0), (3, .inl (k : Int)), (4, .inl (dp : Int)), (5, .inl (i : Int)), (6, .inl (H1.1 c i)), (7, .inl (ma (H1.1 1833) (H1.1 1830) (H1.1 c i)))]) (st' := [.inl 0, .inl (i : Int)]) rfl ?_
            refine h_ile (off := 7) (t := 66) rfl rfl (by omega) (by decide) (fun c182 => ?_) (fun c182 => ?_)
            · refine h_run 3 (pc' := 71) (l' := [(0, .inr (.inr 1826)), (1, .inr (.inr c)), (2, .inl 0), (3, .inl (k : Int)), (4, .inl (dp : Int)), (5, .inl (i : Int)), (6, .inl (H1.1 c i)), (7, .inl (ma (H1.1 1833) (H1.1 1830) (H1.1 c i))), (8, .inl 0)]) (st' := [.inl 0]) rfl ?_
              refine h_zeq (off := 9) (t := 80) rfl rfl (by decide) (fun _ => ?_) (fun c => absurd c (by decide))
              refine h_run 1 (pc' := 82) (l' := [(0, .inr (.inr 1826)), (1, .inr (.inr c)), (2, .inl 0), (3, .inl (k : Int)), (4, .inl (dp : Int)), (5, .inl (i : Int)), (6, .inl (H1.1 c i)), (7, .inl (ma (H1.1 1833) (H1.1 1830) (H1.1 c i))), (8, .inl 0)]) (st' := [.inl (H1.1 c i)]) rfl ?_
              refine h_zne (off := 12) (t := 94) rfl rfl (by omega) (fun c183 => ?_) (fun c183 => ?_)
              · refine h_run 2 (pc' := 99) (l' := [(0, .inr (.inr 1826)), (1, .inr (.inr c)), (2, .inl 0), (3, .inl (k : Int)), (4, .inl (dp : Int)), (5, .inl (i : Int)), (6, .inl (H1.1 c i)), (7, .inl (ma (H1.1 1833) (H1.1 1830) (H1.1 c i))), (8, .inl 0)]) (st' := [.inl 1000, .inl (H1.1 c i)]) rfl ?_
                refine h_ilt (off := 52) (t := 151) rfl rfl (by omega) (by decide) (fun c184 => ?_) (fun c184 => ?_)
                · refine h_run 3 (pc' := 156) (l' := [(0, .inr (.inr 1826)), (1, .inr (.inr c)), (2, .inl 0), (3, .inl (k : Int)), (4, .inl (dp : Int)), (5, .inl (i : Int)), (6, .inl (H1.1 c i)), (7, .inl (ma (H1.1 1833) (H1.1 1830) (H1.1 c i))), (8, .inl 0)]) (st' := [.inl 100, .inl (H1.1 c i), .inr (.inr 1826)]) rfl ?_
                  refine h_ilt (off := 16) (t := 172) rfl rfl (by omega) (by decide) (fun c185 => ?_) (fun c185 => ?_)
                  · refine h_run 5 (pc' := 180) (l' := [(0, .inr (.inr 1826)), (1, .inr (.inr c)), (2, .inl 0), (3, .inl (k : Int)), (4, .inl (dp : Int)), (5, .inl (i : Int)), (6, .inl (H1.1 c i)), (7, .inl (ma (H1.1 1833) (H1.1 1830) (H1.1 c i))), (8, .inl 0)]) (st' := [.inl ((H1.1 c i) - 1), .inr (.inr 1828), .inr (.inr 1826)]) rfl ?_
                    refine h_lld (c := 1828) (j := (((H1.1 c i) - 1)).toNat) (i := ((H1.1 c i) - 1)) rfl rfl (by decide) (by omega) (by omega) ?_
                    have g186 : -9223372036854775808 ≤ (H133.1 1828 (((H1.1 c i) - 1)).toNat) ∧ (H133.1 1828 (((H1.1 c i) - 1)).toNat) ≤ 9223372036854775807 := hrg134.2 1828 (((H1.1 c i) - 1)).toNat 16 .long rfl (by omega)
                    have e187 : (H133.1 1828 (((H1.1 c i) - 1)).toNat) = (H1.1 1828 (((H1.1 c i) - 1)).toNat) := congrFun (hx133f.2.1 1828 (by decide) (by decide)) (((H1.1 c i) - 1)).toNat
                    have e188 : (H1.1 1828 (((H1.1 c i) - 1)).toNat) = (H.1 1828 (((H1.1 c i) - 1)).toNat) := congrFun (hf.2.1 1828 (by decide) (by decide)) (((H1.1 c i) - 1)).toNat
                    refine h_run 0 (pc' := 181) (l' := [(0, .inr (.inr 1826)), (1, .inr (.inr c)), (2, .inl 0), (3, .inl (k : Int)), (4, .inl (dp : Int)), (5, .inl (i : Int)), (6, .inl (H1.1 c i)), (7, .inl (ma (H1.1 1833) (H1.1 1830) (H1.1 c i))), (8, .inl 0)]) (st' := [.inr (.inl (H133.1 1828 (((H1.1 c i) - 1)).toNat)), .inr (.inr 1826)]) rfl ?_
                    have g189 : -2147483648 ≤ (H133.1 1826 59) ∧ (H133.1 1826 59) ≤ 2147483647 := hrg134.1 1826 13 59 _ .int rfl rfl
                    refine h_cv (i := 479) (j := 204) (b := 1826) (M' := mt_204) (xs := [.inr (.inl (H133.1 1828 (((H1.1 c i) - 1)).toNat))]) (rest := []) rfl rfl rfl rfl rfl rfl (Nat.le_of_ble_eq_true rfl) (Nat.le_of_ble_eq_true rfl) (by omega) (m_putName (by omega) (by omega : 0 ≤ (H133.1 1826 59) ∧ (H133.1 1826 59) ≤ 7900)) ?_
                    rintro _ H190 ⟨rfl, hx190f, hx190z⟩
                    refine h_rng (fun hrg191 => ?_)
                    have hf192 : fr [59] [1858, 1859, 1860] H H190 := fr_t hf135 hx190f (by decide) (by decide)
                    replace hx190z : (H133.1 1826 59) ≤ (H190.1 1826 59) ∧ (H190.1 1826 59) ≤ (H133.1 1826 59) + 8 := hx190z
                    refine h_run 0 (pc' := 184) (l' := [(0, .inr (.inr 1826)), (1, .inr (.inr c)), (2, .inl 0), (3, .inl (k : Int)), (4, .inl (dp : Int)), (5, .inl (i : Int)), (6, .inl (H1.1 c i)), (7, .inl (ma (H1.1 1833) (H1.1 1830) (H1.1 c i))), (8, .inl 0)]) (st' := []) rfl ?_
                    refine h_run 4 (pc' := 192) (l' := [(0, .inr (.inr 1826)), (1, .inr (.inr c)), (2, .inl 0), (3, .inl (k : Int)), (4, .inl (dp : Int)), (5, .inl (i : Int)), (6, .inl (H1.1 c i)), (7, .inl (ma (H1.1 1833) (H1.1 1830) (H1.1 c i))), (8, .inl 0)]) (st' := [.inl (ma (H1.1 1833) (H1.1 1830) (H1.1 c i)), .inl (dp : Int), .inr (.inr 1859)]) rfl ?_
                    refine h_ist (c := 1859) (j := dp) (i := (dp : Int)) (x := (ma (H1.1 1833) (H1.1 1830) (H1.1 c i))) rfl rfl (by decide) (by decide) rfl (by omega) (by omega) ?_
                    refine h_run 4 (pc' := 201) (l' := [(0, .inr (.inr 1826)), (1, .inr (.inr c)), (2, .inl 0), (3, .inl (k : Int)), (4, .inl (dp : Int)), (5, .inl (i : Int)), (6, .inl (H1.1 c i)), (7, .inl (ma (H1.1 1833) (H1.1 1830) (H1.1 c i))), (8, .inl 0)]) (st' := [.inl 0, .inl (dp : Int), .inr (.inr 1860)]) rfl ?_
                    refine h_bst (c := 1860) (j := dp) (i := (dp : Int)) (x := 0) (Or.inr rfl) rfl rfl (by decide) (by decide) rfl (by omega) (show (0 : Int) ≤ 0 ∧ 0 ≤ 1 by omega) ?_
                    refine h_run 1 (pc' := 205) (l' := [(0, .inr (.inr 1826)), (1, .inr (.inr c)), (2, .inl 0), (3, .inl (k : Int)), (4, .inl ((dp : Int) + 1)), (5, .inl (i : Int)), (6, .inl (H1.1 c i)), (7, .inl (ma (H1.1 1833) (H1.1 1830) (H1.1 c i))), (8, .inl 0)]) (st' := []) rfl ?_
                    have g193 : -2147483648 ≤ (H190.1 1826 59) ∧ (H190.1 1826 59) ≤ 2147483647 := hrg191.1 1826 13 59 _ .int rfl rfl
                    refine h_loc [0, 1, 2, 3, 4, 5] rfl ?_
                    rw [show ((dp : Int) + 1) = (((dp + 1) : Nat) : Int) by omega]
                    exact ih.2 _ (dp + 1) i (fr_a (fr_a hf192 (by decide)) (by decide)) (by omega) (by omega : 0 ≤ (H190.1 1826 59) ∧ (H190.1 1826 59) + (((dp + 1) : Nat) : Int) ≤ 12 * (i + 1)) (fun x hx => by show (dp : Int) + 1 - (i + 1) ≤ up (H190.1 1859) dp (ma (H1.1 1833) (H1.1 1830) (H1.1 c i)) x ∧ up (H190.1 1859) dp (ma (H1.1 1833) (H1.1 1830) (H1.1 c i)) x ≤ 4; rw [up_if]; by_cases e9 : x = dp; { rw [if_pos e9]; omega }; { rw [if_neg e9, show (H190.1 1859) = (H1.1 1859) from ((hx190f.2.1 1859 (by decide) (by decide)).trans (hx133f.2.1 1859 (by decide) (by decide)))]; have h9 := hlk x (by omega); omega }) (by omega : 1000 * (k - i) + (dp + 1) < w)
                  · refine h_run 5 (pc' := 168) (l' := [(0, .inr (.inr 1826)), (1, .inr (.inr c)), (2, .inl 0), (3, .inl (k : Int)), (4, .inl (dp : Int)), (5, .inl (i : Int)), (6, .inl (H1.1 c i)), (7, .inl (ma (H1.1 1833) (H1.1 1830) (H1.1 c i))), (8, .inl 0)]) (st' := [.inl ((H1.1 c i) - 100), .inr (.inr 1832), .inr (.inr 1826)]) rfl ?_
                    refine h_lld (c := 1832) (j := (((H1.1 c i) - 100)).toNat) (i := ((H1.1 c i) - 100)) rfl rfl (by decide) (by omega) (by omega) ?_
                    have g194 : -9223372036854775808 ≤ (H133.1 1832 (((H1.1 c i) - 100)).toNat) ∧ (H133.1 1832 (((H1.1 c i) - 100)).toNat) ≤ 9223372036854775807 := hrg134.2 1832 (((H1.1 c i) - 100)).toNat 16 .long rfl (by omega)
                    have e195 : (H133.1 1832 (((H1.1 c i) - 100)).toNat) = (H1.1 1832 (((H1.1 c i) - 100)).toNat) := congrFun (hx133f.2.1 1832 (by decide) (by decide)) (((H1.1 c i) - 100)).toNat
                    have e196 : (H1.1 1832 (((H1.1 c i) - 100)).toNat) = (H.1 1832 (((H1.1 c i) - 100)).toNat) := congrFun (hf.2.1 1832 (by decide) (by decide)) (((H1.1 c i) - 100)).toNat
                    refine h_run 0 (pc' := 169) (l' := [(0, .inr (.inr 1826)), (1, .inr (.inr c)), (2, .inl 0), (3, .inl (k : Int)), (4, .inl (dp : Int)), (5, .inl (i : Int)), (6, .inl (H1.1 c i)), (7, .inl (ma (H1.1 1833) (H1.1 1830) (H1.1 c i))), (8, .inl 0)]) (st' := [.inr (.inl (H133.1 1832 (((H1.1 c i) - 100)).toNat)), .inr (.inr 1826)]) rfl ?_
                    refine h_run 1 (pc' := 181) (l' := [(0, .inr (.inr 1826)), (1, .inr (.inr c)), (2, .inl 0), (3, .inl (k : Int)), (4, .inl (dp : Int)), (5, .inl (i : Int)), (6, .inl (H1.1 c i)), (7, .inl (ma (H1.1 1833) (H1.1 1830) (H1.1 c i))), (8, .inl 0)]) (st' := [.inr (.inl (H133.1 1832 (((H1.1 c i) - 100)).toNat)), .inr (.inr 1826)]) rfl ?_
                    have g197 : -2147483648 ≤ (H133.1 1826 59) ∧ (H133.1 1826 59) ≤ 2147483647 := hrg134.1 1826 13 59 _ .int rfl rfl
                    refine h_cv (i := 479) (j := 204) (b := 1826) (M' := mt_204) (xs := [.inr (.inl (H133.1 1832 (((H1.1 c i) - 100)).toNat))]) (rest := []) rfl rfl rfl rfl rfl rfl (Nat.le_of_ble_eq_true rfl) (Nat.le_of_ble_eq_true rfl) (by omega) (m_putName (by omega) (by omega : 0 ≤ (H133.1 1826 59) ∧ (H133.1 1826 59) ≤ 7900)) ?_
                    rintro _ H198 ⟨rfl, hx198f, hx198z⟩
                    refine h_rng (fun hrg199 => ?_)
                    have hf200 : fr [59] [1858, 1859, 1860] H H198 := fr_t hf135 hx198f (by decide) (by decide)
                    replace hx198z : (H133.1 1826 59) ≤ (H198.1 1826 59) ∧ (H198.1 1826 59) ≤ (H133.1 1826 59) + 8 := hx198z
                    refine h_run 0 (pc' := 184) (l' := [(0, .inr (.inr 1826)), (1, .inr (.inr c)), (2, .inl 0), (3, .inl (k : Int)), (4, .inl (dp : Int)), (5, .inl (i : Int)), (6, .inl (H1.1 c i)), (7, .inl (ma (H1.1 1833) (H1.1 1830) (H1.1 c i))), (8, .inl 0)]) (st' := []) rfl ?_
                    refine h_run 4 (pc' := 192) (l' := [(0, .inr (.inr 1826)), (1, .inr (.inr c)), (2, .inl 0), (3, .inl (k : Int)), (4, .inl (dp : Int)), (5, .inl (i : Int)), (6, .inl (H1.1 c i)), (7, .inl (ma (H1.1 1833) (H1.1 1830) (H1.1 c i))), (8, .inl 0)]) (st' := [.inl (ma (H1.1 1833) (H1.1 1830) (H1.1 c i)), .inl (dp : Int), .inr (.inr 1859)]) rfl ?_
                    refine h_ist (c := 1859) (j := dp) (i := (dp : Int)) (x := (ma (H1.1 1833) (H1.1 1830) (H1.1 c i))) rfl rfl (by decide) (by decide) rfl (by omega) (by omega) ?_
                    refine h_run 4 (pc' := 201) (l' := [(0, .inr (.inr 1826)), (1, .inr (.inr c)), (2, .inl 0), (3, .inl (k : Int)), (4, .inl (dp : Int)), (5, .inl (i : Int)), (6, .inl (H1.1 c i)), (7, .inl (ma (H1.1 1833) (H1.1 1830) (H1.1 c i))), (8, .inl 0)]) (st' := [.inl 0, .inl (dp : Int), .inr (.inr 1860)]) rfl ?_
                    refine h_bst (c := 1860) (j := dp) (i := (dp : Int)) (x := 0) (Or.inr rfl) rfl rfl (by decide) (by decide) rfl (by omega) (show (0 : Int) ≤ 0 ∧ 0 ≤ 1 by omega) ?_
                    refine h_run 1 (pc' := 205) (l' := [(0, .inr (.inr 1826)), (1, .inr (.inr c)), (2, .inl 0), (3, .inl (k : Int)), (4, .inl ((dp : Int) + 1)), (5, .inl (i : Int)), (6, .inl (H1.1 c i)), (7, .inl (ma (H1.1 1833) (H1.1 1830) (H1.1 c i))), (8, .inl 0)]) (st' := []) rfl ?_
                    have g201 : -2147483648 ≤ (H198.1 1826 59) ∧ (H198.1 1826 59) ≤ 2147483647 := hrg199.1 1826 13 59 _ .int rfl rfl
                    refine h_loc [0, 1, 2, 3, 4, 5] rfl ?_
                    rw [show ((dp : Int) + 1) = (((dp + 1) : Nat) : Int) by omega]
                    exact ih.2 _ (dp + 1) i (fr_a (fr_a hf200 (by decide)) (by decide)) (by omega) (by omega : 0 ≤ (H198.1 1826 59) ∧ (H198.1 1826 59) + (((dp + 1) : Nat) : Int) ≤ 12 * (i + 1)) (fun x hx => by show (dp : Int) + 1 - (i + 1) ≤ up (H198.1 1859) dp (ma (H1.1 1833) (H1.1 1830) (H1.1 c i)) x ∧ up (H198.1 1859) dp (ma (H1.1 1833) (H1.1 1830) (H1.1 c i)) x ≤ 4; rw [up_if]; by_cases e9 : x = dp; { rw [if_pos e9]; omega }; { rw [if_neg e9, show (H198.1 1859) = (H1.1 1859) from ((hx198f.2.1 1859 (by decide) (by decide)).trans (hx133f.2.1 1859 (by decide) (by decide)))]; have h9 := hlk x (by omega); omega }) (by omega : 1000 * (k - i) + (dp + 1) < w)
                · refine h_run 3 (pc' := 108) (l' := [(0, .inr (.inr 1826)), (1, .inr (.inr c)), (2, .inl 0), (3, .inl (k : Int)), (4, .inl (dp : Int)), (5, .inl (i : Int)), (6, .inl (H1.1 c i)), (7, .inl (ma (H1.1 1833) (H1.1 1830) (H1.1 c i))), (8, .inl 0)]) (st' := [.inl 2000, .inl (H1.1 c i), .inr (.inr 1826)]) rfl ?_
                  refine h_ilt (off := 8) (t := 116) rfl rfl (by omega) (by decide) (fun c202 => ?_) (fun c202 => ?_)
                  · refine h_run 1 (pc' := 118) (l' := [(0, .inr (.inr 1826)), (1, .inr (.inr c)), (2, .inl 0), (3, .inl (k : Int)), (4, .inl (dp : Int)), (5, .inl (i : Int)), (6, .inl (H1.1 c i)), (7, .inl (ma (H1.1 1833) (H1.1 1830) (H1.1 c i))), (8, .inl 0)]) (st' := [.inl 118, .inr (.inr 1826)]) rfl ?_
                    have g203 : -2147483648 ≤ (H133.1 1826 59) ∧ (H133.1 1826 59) ≤ 2147483647 := hrg134.1 1826 13 59 _ .int rfl rfl
                    refine h_cv (i := 473) (j := 203) (b := 1826) (M' := mt_203) (xs := [.inl 118]) (rest := []) rfl rfl rfl rfl rfl rfl (Nat.le_of_ble_eq_true rfl) (Nat.le_of_ble_eq_true rfl) (by omega) (m_letter (by omega) (by omega : 0 ≤ (H133.1 1826 59) ∧ (H133.1 1826 59) ≤ 7950)) ?_
                    rintro _ H204 ⟨rfl, hx204f, hx204z⟩
                    refine h_rng (fun hrg205 => ?_)
                    have hf206 : fr [59] [1858, 1859, 1860] H H204 := fr_t hf135 hx204f (by decide) (by decide)
                    replace hx204z : (H133.1 1826 59) ≤ (H204.1 1826 59) ∧ (H204.1 1826 59) ≤ (H133.1 1826 59) + 1 := hx204z
                    refine h_run 0 (pc' := 121) (l' := [(0, .inr (.inr 1826)), (1, .inr (.inr c)), (2, .inl 0), (3, .inl (k : Int)), (4, .inl (dp : Int)), (5, .inl (i : Int)), (6, .inl (H1.1 c i)), (7, .inl (ma (H1.1 1833) (H1.1 1830) (H1.1 c i))), (8, .inl 0)]) (st' := []) rfl ?_
                    refine h_run 3 (pc' := 127) (l' := [(0, .inr (.inr 1826)), (1, .inr (.inr c)), (2, .inl 0), (3, .inl (k : Int)), (4, .inl (dp : Int)), (5, .inl (i : Int)), (6, .inl (H1.1 c i)), (7, .inl (ma (H1.1 1833) (H1.1 1830) (H1.1 c i))), (8, .inl 0)]) (st' := [.inl 2000, .inl (H1.1 c i), .inr (.inr 1826)]) rfl ?_
                    refine h_ilt (off := 12) (t := 139) rfl rfl (by omega) (by decide) (fun c207 => ?_) (fun c207 => ?_)
                    · refine h_run 3 (pc' := 145) (l' := [(0, .inr (.inr 1826)), (1, .inr (.inr c)), (2, .inl 0), (3, .inl (k : Int)), (4, .inl (dp : Int)), (5, .inl (i : Int)), (6, .inl (H1.1 c i)), (7, .inl (ma (H1.1 1833) (H1.1 1830) (H1.1 c i))), (8, .inl 0)]) (st' := [.inl ((H1.1 c i) - 1000), .inr (.inr 1826)]) rfl ?_
                      have g208 : -2147483648 ≤ (H204.1 1826 59) ∧ (H204.1 1826 59) ≤ 2147483647 := hrg205.1 1826 13 59 _ .int rfl rfl
                      refine h_cv (i := 476) (j := 205) (b := 1826) (M' := mt_205) (xs := [.inl ((H1.1 c i) - 1000)]) (rest := []) rfl rfl rfl rfl rfl rfl (Nat.le_of_ble_eq_true rfl) (Nat.le_of_ble_eq_true rfl) (by omega) (m_putNumber (by omega) (by omega : 0 ≤ (H204.1 1826 59) ∧ (H204.1 1826 59) ≤ 7900) (by omega)) ?_
                      rintro _ H209 ⟨rfl, hx209f, hx209z⟩
                      refine h_rng (fun hrg210 => ?_)
                      have hf211 : fr [59] [1858, 1859, 1860] H H209 := fr_t hf206 hx209f (by decide) (by decide)
                      replace hx209z : (H204.1 1826 59) ≤ (H209.1 1826 59) ∧ (H209.1 1826 59) ≤ (H204.1 1826 59) + 2 := hx209z
                      refine h_run 0 (pc' := 148) (l' := [(0, .inr (.inr 1826)), (1, .inr (.inr c)), (2, .inl 0), (3, .inl (k : Int)), (4, .inl (dp : Int)), (5, .inl (i : Int)), (6, .inl (H1.1 c i)), (7, .inl (ma (H1.1 1833) (H1.1 1830) (H1.1 c i))), (8, .inl 0)]) (st' := []) rfl ?_
                      refine h_run 5 (pc' := 192) (l' := [(0, .inr (.inr 1826)), (1, .inr (.inr c)), (2, .inl 0), (3, .inl (k : Int)), (4, .inl (dp : Int)), (5, .inl (i : Int)), (6, .inl (H1.1 c i)), (7, .inl (ma (H1.1 1833) (H1.1 1830) (H1.1 c i))), (8, .inl 0)]) (st' := [.inl (ma (H1.1 1833) (H1.1 1830) (H1.1 c i)), .inl (dp : Int), .inr (.inr 1859)]) rfl ?_
                      refine h_ist (c := 1859) (j := dp) (i := (dp : Int)) (x := (ma (H1.1 1833) (H1.1 1830) (H1.1 c i))) rfl rfl (by decide) (by decide) rfl (by omega) (by omega) ?_
                      refine h_run 4 (pc' := 201) (l' := [(0, .inr (.inr 1826)), (1, .inr (.inr c)), (2, .inl 0), (3, .inl (k : Int)), (4, .inl (dp : Int)), (5, .inl (i : Int)), (6, .inl (H1.1 c i)), (7, .inl (ma (H1.1 1833) (H1.1 1830) (H1.1 c i))), (8, .inl 0)]) (st' := [.inl 0, .inl (dp : Int), .inr (.inr 1860)]) rfl ?_
                      refine h_bst (c := 1860) (j := dp) (i := (dp : Int)) (x := 0) (Or.inr rfl) rfl rfl (by decide) (by decide) rfl (by omega) (show (0 : Int) ≤ 0 ∧ 0 ≤ 1 by omega) ?_
                      refine h_run 1 (pc' := 205) (l' := [(0, .inr (.inr 1826)), (1, .inr (.inr c)), (2, .inl 0), (3, .inl (k : Int)), (4, .inl ((dp : Int) + 1)), (5, .inl (i : Int)), (6, .inl (H1.1 c i)), (7, .inl (ma (H1.1 1833) (H1.1 1830) (H1.1 c i))), (8, .inl 0)]) (st' := []) rfl ?_
                      have g212 : -2147483648 ≤ (H209.1 1826 59) ∧ (H209.1 1826 59) ≤ 2147483647 := hrg210.1 1826 13 59 _ .int rfl rfl
                      refine h_loc [0, 1, 2, 3, 4, 5] rfl ?_
                      rw [show ((dp : Int) + 1) = (((dp + 1) : Nat) : Int) by omega]
                      exact ih.2 _ (dp + 1) i (fr_a (fr_a hf211 (by decide)) (by decide)) (by omega) (by omega : 0 ≤ (H209.1 1826 59) ∧ (H209.1 1826 59) + (((dp + 1) : Nat) : Int) ≤ 12 * (i + 1)) (fun x hx => by show (dp : Int) + 1 - (i + 1) ≤ up (H209.1 1859) dp (ma (H1.1 1833) (H1.1 1830) (H1.1 c i)) x ∧ up (H209.1 1859) dp (ma (H1.1 1833) (H1.1 1830) (H1.1 c i)) x ≤ 4; rw [up_if]; by_cases e9 : x = dp; { rw [if_pos e9]; omega }; { rw [if_neg e9, show (H209.1 1859) = (H1.1 1859) from (((hx209f.2.1 1859 (by decide) (by decide)).trans (hx204f.2.1 1859 (by decide) (by decide))).trans (hx133f.2.1 1859 (by decide) (by decide)))]; have h9 := hlk x (by omega); omega }) (by omega : 1000 * (k - i) + (dp + 1) < w)
                    · exfalso
                      omega
                  · refine h_run 2 (pc' := 118) (l' := [(0, .inr (.inr 1826)), (1, .inr (.inr c)), (2, .inl 0), (3, .inl (k : Int)), (4, .inl (dp : Int)), (5, .inl (i : Int)), (6, .inl (H1.1 c i)), (7, .inl (ma (H1.1 1833) (H1.1 1830) (H1.1 c i))), (8, .inl 0)]) (st' := [.inl 102, .inr (.inr 1826)]) rfl ?_
                    have g213 : -2147483648 ≤ (H133.1 1826 59) ∧ (H133.1 1826 59) ≤ 2147483647 := hrg134.1 1826 13 59 _ .int rfl rfl
                    refine h_cv (i := 473) (j := 203) (b := 1826) (M' := mt_203) (xs := [.inl 102]) (rest := []) rfl rfl rfl rfl rfl rfl (Nat.le_of_ble_eq_true rfl) (Nat.le_of_ble_eq_true rfl) (by omega) (m_letter (by omega) (by omega : 0 ≤ (H133.1 1826 59) ∧ (H133.1 1826 59) ≤ 7950)) ?_
                    rintro _ H214 ⟨rfl, hx214f, hx214z⟩
                    refine h_rng (fun hrg215 => ?_)
                    have hf216 : fr [59] [1858, 1859, 1860] H H214 := fr_t hf135 hx214f (by decide) (by decide)
                    replace hx214z : (H133.1 1826 59) ≤ (H214.1 1826 59) ∧ (H214.1 1826 59) ≤ (H133.1 1826 59) + 1 := hx214z
                    refine h_run 0 (pc' := 121) (l' := [(0, .inr (.inr 1826)), (1, .inr (.inr c)), (2, .inl 0), (3, .inl (k : Int)), (4, .inl (dp : Int)), (5, .inl (i : Int)), (6, .inl (H1.1 c i)), (7, .inl (ma (H1.1 1833) (H1.1 1830) (H1.1 c i))), (8, .inl 0)]) (st' := []) rfl ?_
                    refine h_run 3 (pc' := 127) (l' := [(0, .inr (.inr 1826)), (1, .inr (.inr c)), (2, .inl 0), (3, .inl (k : Int)), (4, .inl (dp : Int)), (5, .inl (i : Int)), (6, .inl (H1.1 c i)), (7, .inl (ma (H1.1 1833) (H1.1 1830) (H1.1 c i))), (8, .inl 0)]) (st' := [.inl 2000, .inl (H1.1 c i), .inr (.inr 1826)]) rfl ?_
                    refine h_ilt (off := 12) (t := 139) rfl rfl (by omega) (by decide) (fun c217 => ?_) (fun c217 => ?_)
                    · exfalso
                      omega
                    · refine h_run 4 (pc' := 145) (l' := [(0, .inr (.inr 1826)), (1, .inr (.inr c)), (2, .inl 0), (3, .inl (k : Int)), (4, .inl (dp : Int)), (5, .inl (i : Int)), (6, .inl (H1.1 c i)), (7, .inl (ma (H1.1 1833) (H1.1 1830) (H1.1 c i))), (8, .inl 0)]) (st' := [.inl ((H1.1 c i) - 2000), .inr (.inr 1826)]) rfl ?_
                      have g218 : -2147483648 ≤ (H214.1 1826 59) ∧ (H214.1 1826 59) ≤ 2147483647 := hrg215.1 1826 13 59 _ .int rfl rfl
                      refine h_cv (i := 476) (j := 205) (b := 1826) (M' := mt_205) (xs := [.inl ((H1.1 c i) - 2000)]) (rest := []) rfl rfl rfl rfl rfl rfl (Nat.le_of_ble_eq_true rfl) (Nat.le_of_ble_eq_true rfl) (by omega) (m_putNumber (by omega) (by omega : 0 ≤ (H214.1 1826 59) ∧ (H214.1 1826 59) ≤ 7900) (by omega)) ?_
                      rintro _ H219 ⟨rfl, hx219f, hx219z⟩
                      refine h_rng (fun hrg220 => ?_)
                      have hf221 : fr [59] [1858, 1859, 1860] H H219 := fr_t hf216 hx219f (by decide) (by decide)
                      replace hx219z : (H214.1 1826 59) ≤ (H219.1 1826 59) ∧ (H219.1 1826 59) ≤ (H214.1 1826 59) + 2 := hx219z
                      refine h_run 0 (pc' := 148) (l' := [(0, .inr (.inr 1826)), (1, .inr (.inr c)), (2, .inl 0), (3, .inl (k : Int)), (4, .inl (dp : Int)), (5, .inl (i : Int)), (6, .inl (H1.1 c i)), (7, .inl (ma (H1.1 1833) (H1.1 1830) (H1.1 c i))), (8, .inl 0)]) (st' := []) rfl ?_
                      refine h_run 5 (pc' := 192) (l' := [(0, .inr (.inr 1826)), (1, .inr (.inr c)), (2, .inl 0), (3, .inl (k : Int)), (4, .inl (dp : Int)), (5, .inl (i : Int)), (6, .inl (H1.1 c i)), (7, .inl (ma (H1.1 1833) (H1.1 1830) (H1.1 c i))), (8, .inl 0)]) (st' := [.inl (ma (H1.1 1833) (H1.1 1830) (H1.1 c i)), .inl (dp : Int), .inr (.inr 1859)]) rfl ?_
                      refine h_ist (c := 1859) (j := dp) (i := (dp : Int)) (x := (ma (H1.1 1833) (H1.1 1830) (H1.1 c i))) rfl rfl (by decide) (by decide) rfl (by omega) (by omega) ?_
                      refine h_run 4 (pc' := 201) (l' := [(0, .inr (.inr 1826)), (1, .inr (.inr c)), (2, .inl 0), (3, .inl (k : Int)), (4, .inl (dp : Int)), (5, .inl (i : Int)), (6, .inl (H1.1 c i)), (7, .inl (ma (H1.1 1833) (H1.1 1830) (H1.1 c i))), (8, .inl 0)]) (st' := [.inl 0, .inl (dp : Int), .inr (.inr 1860)]) rfl ?_
                      refine h_bst (c := 1860) (j := dp) (i := (dp : Int)) (x := 0) (Or.inr rfl) rfl rfl (by decide) (by decide) rfl (by omega) (show (0 : Int) ≤ 0 ∧ 0 ≤ 1 by omega) ?_
                      refine h_run 1 (pc' := 205) (l' := [(0, .inr (.inr 1826)), (1, .inr (.inr c)), (2, .inl 0), (3, .inl (k : Int)), (4, .inl ((dp : Int) + 1)), (5, .inl (i : Int)), (6, .inl (H1.1 c i)), (7, .inl (ma (H1.1 1833) (H1.1 1830) (H1.1 c i))), (8, .inl 0)]) (st' := []) rfl ?_
                      have g222 : -2147483648 ≤ (H219.1 1826 59) ∧ (H219.1 1826 59) ≤ 2147483647 := hrg220.1 1826 13 59 _ .int rfl rfl
                      refine h_loc [0, 1, 2, 3, 4, 5] rfl ?_
                      rw [show ((dp : Int) + 1) = (((dp + 1) : Nat) : Int) by omega]
                      exact ih.2 _ (dp + 1) i (fr_a (fr_a hf221 (by decide)) (by decide)) (by omega) (by omega : 0 ≤ (H219.1 1826 59) ∧ (H219.1 1826 59) + (((dp + 1) : Nat) : Int) ≤ 12 * (i + 1)) (fun x hx => by show (dp : Int) + 1 - (i + 1) ≤ up (H219.1 1859) dp (ma (H1.1 1833) (H1.1 1830) (H1.1 c i)) x ∧ up (H219.1 1859) dp (ma (H1.1 1833) (H1.1 1830) (H1.1 c i)) x ≤ 4; rw [up_if]; by_cases e9 : x = dp; { rw [if_pos e9]; omega }; { rw [if_neg e9, show (H219.1 1859) = (H1.1 1859) from (((hx219f.2.1 1859 (by decide) (by decide)).trans (hx214f.2.1 1859 (by decide) (by decide))).trans (hx133f.2.1 1859 (by decide) (by decide)))]; have h9 := hlk x (by omega); omega }) (by omega : 1000 * (k - i) + (dp + 1) < w)
              · refine h_run 2 (pc' := 88) (l' := [(0, .inr (.inr 1826)), (1, .inr (.inr c)), (2, .inl 0), (3, .inl (k : Int)), (4, .inl (dp : Int)), (5, .inl (i : Int)), (6, .inl (H1.1 c i)), (7, .inl (ma (H1.1 1833) (H1.1 1830) (H1.1 c i))), (8, .inl 0)]) (st' := [.inl 95, .inr (.inr 1826)]) rfl ?_
                have g223 : -2147483648 ≤ (H133.1 1826 59) ∧ (H133.1 1826 59) ≤ 2147483647 := hrg134.1 1826 13 59 _ .int rfl rfl
                refine h_cv (i := 473) (j := 203) (b := 1826) (M' := mt_203) (xs := [.inl 95]) (rest := []) rfl rfl rfl rfl rfl rfl (Nat.le_of_ble_eq_true rfl) (Nat.le_of_ble_eq_true rfl) (by omega) (m_letter (by omega) (by omega : 0 ≤ (H133.1 1826 59) ∧ (H133.1 1826 59) ≤ 7950)) ?_
                rintro _ H224 ⟨rfl, hx224f, hx224z⟩
                refine h_rng (fun hrg225 => ?_)
                have hf226 : fr [59] [1858, 1859, 1860] H H224 := fr_t hf135 hx224f (by decide) (by decide)
                replace hx224z : (H133.1 1826 59) ≤ (H224.1 1826 59) ∧ (H224.1 1826 59) ≤ (H133.1 1826 59) + 1 := hx224z
                refine h_run 0 (pc' := 91) (l' := [(0, .inr (.inr 1826)), (1, .inr (.inr c)), (2, .inl 0), (3, .inl (k : Int)), (4, .inl (dp : Int)), (5, .inl (i : Int)), (6, .inl (H1.1 c i)), (7, .inl (ma (H1.1 1833) (H1.1 1830) (H1.1 c i))), (8, .inl 0)]) (st' := []) rfl ?_
                refine h_run 5 (pc' := 192) (l' := [(0, .inr (.inr 1826)), (1, .inr (.inr c)), (2, .inl 0), (3, .inl (k : Int)), (4, .inl (dp : Int)), (5, .inl (i : Int)), (6, .inl (H1.1 c i)), (7, .inl (ma (H1.1 1833) (H1.1 1830) (H1.1 c i))), (8, .inl 0)]) (st' := [.inl (ma (H1.1 1833) (H1.1 1830) (H1.1 c i)), .inl (dp : Int), .inr (.inr 1859)]) rfl ?_
                refine h_ist (c := 1859) (j := dp) (i := (dp : Int)) (x := (ma (H1.1 1833) (H1.1 1830) (H1.1 c i))) rfl rfl (by decide) (by decide) rfl (by omega) (by omega) ?_
                refine h_run 4 (pc' := 201) (l' := [(0, .inr (.inr 1826)), (1, .inr (.inr c)), (2, .inl 0), (3, .inl (k : Int)), (4, .inl (dp : Int)), (5, .inl (i : Int)), (6, .inl (H1.1 c i)), (7, .inl (ma (H1.1 1833) (H1.1 1830) (H1.1 c i))), (8, .inl 0)]) (st' := [.inl 0, .inl (dp : Int), .inr (.inr 1860)]) rfl ?_
                refine h_bst (c := 1860) (j := dp) (i := (dp : Int)) (x := 0) (Or.inr rfl) rfl rfl (by decide) (by decide) rfl (by omega) (show (0 : Int) ≤ 0 ∧ 0 ≤ 1 by omega) ?_
                refine h_run 1 (pc' := 205) (l' := [(0, .inr (.inr 1826)), (1, .inr (.inr c)), (2, .inl 0), (3, .inl (k : Int)), (4, .inl ((dp : Int) + 1)), (5, .inl (i : Int)), (6, .inl (H1.1 c i)), (7, .inl (ma (H1.1 1833) (H1.1 1830) (H1.1 c i))), (8, .inl 0)]) (st' := []) rfl ?_
                have g227 : -2147483648 ≤ (H224.1 1826 59) ∧ (H224.1 1826 59) ≤ 2147483647 := hrg225.1 1826 13 59 _ .int rfl rfl
                refine h_loc [0, 1, 2, 3, 4, 5] rfl ?_
                rw [show ((dp : Int) + 1) = (((dp + 1) : Nat) : Int) by omega]
                exact ih.2 _ (dp + 1) i (fr_a (fr_a hf226 (by decide)) (by decide)) (by omega) (by omega : 0 ≤ (H224.1 1826 59) ∧ (H224.1 1826 59) + (((dp + 1) : Nat) : Int) ≤ 12 * (i + 1)) (fun x hx => by show (dp : Int) + 1 - (i + 1) ≤ up (H224.1 1859) dp (ma (H1.1 1833) (H1.1 1830) (H1.1 c i)) x ∧ up (H224.1 1859) dp (ma (H1.1 1833) (H1.1 1830) (H1.1 c i)) x ≤ 4; rw [up_if]; by_cases e9 : x = dp; { rw [if_pos e9]; omega }; { rw [if_neg e9, show (H224.1 1859) = (H1.1 1859) from ((hx224f.2.1 1859 (by decide) (by decide)).trans (hx133f.2.1 1859 (by decide) (by decide)))]; have h9 := hlk x (by omega); omega }) (by omega : 1000 * (k - i) + (dp + 1) < w)
            · refine h_run 4 (pc' := 71) (l' := [(0, .inr (.inr 1826)), (1, .inr (.inr c)), (2, .inl 0), (3, .inl (k : Int)), (4, .inl (dp : Int)), (5, .inl (i : Int)), (6, .inl (H1.1 c i)), (7, .inl (ma (H1.1 1833) (H1.1 1830) (H1.1 c i))), (8, .inl 1)]) (st' := [.inl 1]) rfl ?_
              refine h_zeq (off := 9) (t := 80) rfl rfl (by decide) (fun c => absurd c (by decide)) (fun _ => ?_)
              refine h_run 2 (pc' := 77) (l' := [(0, .inr (.inr 1826)), (1, .inr (.inr c)), (2, .inl 0), (3, .inl (k : Int)), (4, .inl (dp : Int)), (5, .inl (i : Int)), (6, .inl (H1.1 c i)), (7, .inl (ma (H1.1 1833) (H1.1 1830) (H1.1 c i))), (8, .inl 1)]) (st' := [.inl 40, .inr (.inr 1826)]) rfl ?_
              have g228 : -2147483648 ≤ (H133.1 1826 59) ∧ (H133.1 1826 59) ≤ 2147483647 := hrg134.1 1826 13 59 _ .int rfl rfl
              refine h_cv (i := 473) (j := 203) (b := 1826) (M' := mt_203) (xs := [.inl 40]) (rest := []) rfl rfl rfl rfl rfl rfl (Nat.le_of_ble_eq_true rfl) (Nat.le_of_ble_eq_true rfl) (by omega) (m_letter (by omega) (by omega : 0 ≤ (H133.1 1826 59) ∧ (H133.1 1826 59) ≤ 7950)) ?_
              rintro _ H229 ⟨rfl, hx229f, hx229z⟩
              refine h_rng (fun hrg230 => ?_)
              have hf231 : fr [59] [1858, 1859, 1860] H H229 := fr_t hf135 hx229f (by decide) (by decide)
              replace hx229z : (H133.1 1826 59) ≤ (H229.1 1826 59) ∧ (H229.1 1826 59) ≤ (H133.1 1826 59) + 1 := hx229z
              refine h_run 0 (pc' := 80) (l' := [(0, .inr (.inr 1826)), (1, .inr (.inr c)), (2, .inl 0), (3, .inl (k : Int)), (4, .inl (dp : Int)), (5, .inl (i : Int)), (6, .inl (H1.1 c i)), (7, .inl (ma (H1.1 1833) (H1.1 1830) (H1.1 c i))), (8, .inl 1)]) (st' := []) rfl ?_
              refine h_run 1 (pc' := 82) (l' := [(0, .inr (.inr 1826)), (1, .inr (.inr c)), (2, .inl 0), (3, .inl (k : Int)), (4, .inl (dp : Int)), (5, .inl (i : Int)), (6, .inl (H1.1 c i)), (7, .inl (ma (H1.1 1833) (H1.1 1830) (H1.1 c i))), (8, .inl 1)]) (st' := [.inl (H1.1 c i)]) rfl ?_
              refine h_zne (off := 12) (t := 94) rfl rfl (by omega) (fun c232 => ?_) (fun c232 => ?_)
              · refine h_run 2 (pc' := 99) (l' := [(0, .inr (.inr 1826)), (1, .inr (.inr c)), (2, .inl 0), (3, .inl (k : Int)), (4, .inl (dp : Int)), (5, .inl (i : Int)), (6, .inl (H1.1 c i)), (7, .inl (ma (H1.1 1833) (H1.1 1830) (H1.1 c i))), (8, .inl 1)]) (st' := [.inl 1000, .inl (H1.1 c i)]) rfl ?_
                refine h_ilt (off := 52) (t := 151) rfl rfl (by omega) (by decide) (fun c233 => ?_) (fun c233 => ?_)
                · refine h_run 3 (pc' := 156) (l' := [(0, .inr (.inr 1826)), (1, .inr (.inr c)), (2, .inl 0), (3, .inl (k : Int)), (4, .inl (dp : Int)), (5, .inl (i : Int)), (6, .inl (H1.1 c i)), (7, .inl (ma (H1.1 1833) (H1.1 1830) (H1.1 c i))), (8, .inl 1)]) (st' := [.inl 100, .inl (H1.1 c i), .inr (.inr 1826)]) rfl ?_
                  refine h_ilt (off := 16) (t := 172) rfl rfl (by omega) (by decide) (fun c234 => ?_) (fun c234 => ?_)
                  · refine h_run 5 (pc' := 180) (l' := [(0, .inr (.inr 1826)), (1, .inr (.inr c)), (2, .inl 0), (3, .inl (k : Int)), (4, .inl (dp : Int)), (5, .inl (i : Int)), (6, .inl (H1.1 c i)), (7, .inl (ma (H1.1 1833) (H1.1 1830) (H1.1 c i))), (8, .inl 1)]) (st' := [.inl ((H1.1 c i) - 1), .inr (.inr 1828), .inr (.inr 1826)]) rfl ?_
                    refine h_lld (c := 1828) (j := (((H1.1 c i) - 1)).toNat) (i := ((H1.1 c i) - 1)) rfl rfl (by decide) (by omega) (by omega) ?_
                    have g235 : -9223372036854775808 ≤ (H229.1 1828 (((H1.1 c i) - 1)).toNat) ∧ (H229.1 1828 (((H1.1 c i) - 1)).toNat) ≤ 9223372036854775807 := hrg230.2 1828 (((H1.1 c i) - 1)).toNat 16 .long rfl (by omega)
                    have e236 : (H229.1 1828 (((H1.1 c i) - 1)).toNat) = (H133.1 1828 (((H1.1 c i) - 1)).toNat) := congrFun (hx229f.2.1 1828 (by decide) (by decide)) (((H1.1 c i) - 1)).toNat
                    have e237 : (H133.1 1828 (((H1.1 c i) - 1)).toNat) = (H1.1 1828 (((H1.1 c i) - 1)).toNat) := congrFun (hx133f.2.1 1828 (by decide) (by decide)) (((H1.1 c i) - 1)).toNat
                    have e238 : (H1.1 1828 (((H1.1 c i) - 1)).toNat) = (H.1 1828 (((H1.1 c i) - 1)).toNat) := congrFun (hf.2.1 1828 (by decide) (by decide)) (((H1.1 c i) - 1)).toNat
                    refine h_run 0 (pc' := 181) (l' := [(0, .inr (.inr 1826)), (1, .inr (.inr c)), (2, .inl 0), (3, .inl (k : Int)), (4, .inl (dp : Int)), (5, .inl (i : Int)), (6, .inl (H1.1 c i)), (7, .inl (ma (H1.1 1833) (H1.1 1830) (H1.1 c i))), (8, .inl 1)]) (st' := [.inr (.inl (H229.1 1828 (((H1.1 c i) - 1)).toNat)), .inr (.inr 1826)]) rfl ?_
                    have g239 : -2147483648 ≤ (H229.1 1826 59) ∧ (H229.1 1826 59) ≤ 2147483647 := hrg230.1 1826 13 59 _ .int rfl rfl
                    refine h_cv (i := 479) (j := 204) (b := 1826) (M' := mt_204) (xs := [.inr (.inl (H229.1 1828 (((H1.1 c i) - 1)).toNat))]) (rest := []) rfl rfl rfl rfl rfl rfl (Nat.le_of_ble_eq_true rfl) (Nat.le_of_ble_eq_true rfl) (by omega) (m_putName (by omega) (by omega : 0 ≤ (H229.1 1826 59) ∧ (H229.1 1826 59) ≤ 7900)) ?_
                    rintro _ H240 ⟨rfl, hx240f, hx240z⟩
                    refine h_rng (fun hrg241 => ?_)
                    have hf242 : fr [59] [1858, 1859, 1860] H H240 := fr_t hf231 hx240f (by decide) (by decide)
                    replace hx240z : (H229.1 1826 59) ≤ (H240.1 1826 59) ∧ (H240.1 1826 59) ≤ (H229.1 1826 59) + 8 := hx240z
                    refine h_run 0 (pc' := 184) (l' := [(0, .inr (.inr 1826)), (1, .inr (.inr c)), (2, .inl 0), (3, .inl (k : Int)), (4, .inl (dp : Int)), (5, .inl (i : Int)), (6, .inl (H1.1 c i)), (7, .inl (ma (H1.1 1833) (H1.1 1830) (H1.1 c i))), (8, .inl 1)]) (st' := []) rfl ?_
                    refine h_run 4 (pc' := 192) (l' := [(0, .inr (.inr 1826)), (1, .inr (.inr c)), (2, .inl 0), (3, .inl (k : Int)), (4, .inl (dp : Int)), (5, .inl (i : Int)), (6, .inl (H1.1 c i)), (7, .inl (ma (H1.1 1833) (H1.1 1830) (H1.1 c i))), (8, .inl 1)]) (st' := [.inl (ma (H1.1 1833) (H1.1 1830) (H1.1 c i)), .inl (dp : Int), .inr (.inr 1859)]) rfl ?_
                    refine h_ist (c := 1859) (j := dp) (i := (dp : Int)) (x := (ma (H1.1 1833) (H1.1 1830) (H1.1 c i))) rfl rfl (by decide) (by decide) rfl (by omega) (by omega) ?_
                    refine h_run 4 (pc' := 201) (l' := [(0, .inr (.inr 1826)), (1, .inr (.inr c)), (2, .inl 0), (3, .inl (k : Int)), (4, .inl (dp : Int)), (5, .inl (i : Int)), (6, .inl (H1.1 c i)), (7, .inl (ma (H1.1 1833) (H1.1 1830) (H1.1 c i))), (8, .inl 1)]) (st' := [.inl 1, .inl (dp : Int), .inr (.inr 1860)]) rfl ?_
                    refine h_bst (c := 1860) (j := dp) (i := (dp : Int)) (x := 1) (Or.inr rfl) rfl rfl (by decide) (by decide) rfl (by omega) (show (0 : Int) ≤ 1 ∧ 1 ≤ 1 by omega) ?_
                    refine h_run 1 (pc' := 205) (l' := [(0, .inr (.inr 1826)), (1, .inr (.inr c)), (2, .inl 0), (3, .inl (k : Int)), (4, .inl ((dp : Int) + 1)), (5, .inl (i : Int)), (6, .inl (H1.1 c i)), (7, .inl (ma (H1.1 1833) (H1.1 1830) (H1.1 c i))), (8, .inl 1)]) (st' := []) rfl ?_
                    have g243 : -2147483648 ≤ (H240.1 1826 59) ∧ (H240.1 1826 59) ≤ 2147483647 := hrg241.1 1826 13 59 _ .int rfl rfl
                    refine h_loc [0, 1, 2, 3, 4, 5] rfl ?_
                    rw [show ((dp : Int) + 1) = (((dp + 1) : Nat) : Int) by omega]
                    exact ih.2 _ (dp + 1) i (fr_a (fr_a hf242 (by decide)) (by decide)) (by omega) (by omega : 0 ≤ (H240.1 1826 59) ∧ (H240.1 1826 59) + (((dp + 1) : Nat) : Int) ≤ 12 * (i + 1)) (fun x hx => by show (dp : Int) + 1 - (i + 1) ≤ up (H240.1 1859) dp (ma (H1.1 1833) (H1.1 1830) (H1.1 c i)) x ∧ up (H240.1 1859) dp (ma (H1.1 1833) (H1.1 1830) (H1.1 c i)) x ≤ 4; rw [up_if]; by_cases e9 : x = dp; { rw [if_pos e9]; omega }; { rw [if_neg e9, show (H240.1 1859) = (H1.1 1859) from (((hx240f.2.1 1859 (by decide) (by decide)).trans (hx229f.2.1 1859 (by decide) (by decide))).trans (hx133f.2.1 1859 (by decide) (by decide)))]; have h9 := hlk x (by omega); omega }) (by omega : 1000 * (k - i) + (dp + 1) < w)
                  · refine h_run 5 (pc' := 168) (l' := [(0, .inr (.inr 1826)), (1, .inr (.inr c)), (2, .inl 0), (3, .inl (k : Int)), (4, .inl (dp : Int)), (5, .inl (i : Int)), (6, .inl (H1.1 c i)), (7, .inl (ma (H1.1 1833) (H1.1 1830) (H1.1 c i))), (8, .inl 1)]) (st' := [.inl ((H1.1 c i) - 100), .inr (.inr 1832), .inr (.inr 1826)]) rfl ?_
                    refine h_lld (c := 1832) (j := (((H1.1 c i) - 100)).toNat) (i := ((H1.1 c i) - 100)) rfl rfl (by decide) (by omega) (by omega) ?_
                    have g244 : -9223372036854775808 ≤ (H229.1 1832 (((H1.1 c i) - 100)).toNat) ∧ (H229.1 1832 (((H1.1 c i) - 100)).toNat) ≤ 9223372036854775807 := hrg230.2 1832 (((H1.1 c i) - 100)).toNat 16 .long rfl (by omega)
                    have e245 : (H229.1 1832 (((H1.1 c i) - 100)).toNat) = (H133.1 1832 (((H1.1 c i) - 100)).toNat) := congrFun (hx229f.2.1 1832 (by decide) (by decide)) (((H1.1 c i) - 100)).toNat
                    have e246 : (H133.1 1832 (((H1.1 c i) - 100)).toNat) = (H1.1 1832 (((H1.1 c i) - 100)).toNat) := congrFun (hx133f.2.1 1832 (by decide) (by decide)) (((H1.1 c i) - 100)).toNat
                    have e247 : (H1.1 1832 (((H1.1 c i) - 100)).toNat) = (H.1 1832 (((H1.1 c i) - 100)).toNat) := congrFun (hf.2.1 1832 (by decide) (by decide)) (((H1.1 c i) - 100)).toNat
                    refine h_run 0 (pc' := 169) (l' := [(0, .inr (.inr 1826)), (1, .inr (.inr c)), (2, .inl 0), (3, .inl (k : Int)), (4, .inl (dp : Int)), (5, .inl (i : Int)), (6, .inl (H1.1 c i)), (7, .inl (ma (H1.1 1833) (H1.1 1830) (H1.1 c i))), (8, .inl 1)]) (st' := [.inr (.inl (H229.1 1832 (((H1.1 c i) - 100)).toNat)), .inr (.inr 1826)]) rfl ?_
                    refine h_run 1 (pc' := 181) (l' := [(0, .inr (.inr 1826)), (1, .inr (.inr c)), (2, .inl 0), (3, .inl (k : Int)), (4, .inl (dp : Int)), (5, .inl (i : Int)), (6, .inl (H1.1 c i)), (7, .inl (ma (H1.1 1833) (H1.1 1830) (H1.1 c i))), (8, .inl 1)]) (st' := [.inr (.inl (H229.1 1832 (((H1.1 c i) - 100)).toNat)), .inr (.inr 1826)]) rfl ?_
                    have g248 : -2147483648 ≤ (H229.1 1826 59) ∧ (H229.1 1826 59) ≤ 2147483647 := hrg230.1 1826 13 59 _ .int rfl rfl
                    refine h_cv (i := 479) (j := 204) (b := 1826) (M' := mt_204) (xs := [.inr (.inl (H229.1 1832 (((H1.1 c i) - 100)).toNat))]) (rest := []) rfl rfl rfl rfl rfl rfl (Nat.le_of_ble_eq_true rfl) (Nat.le_of_ble_eq_true rfl) (by omega) (m_putName (by omega) (by omega : 0 ≤ (H229.1 1826 59) ∧ (H229.1 1826 59) ≤ 7900)) ?_
                    rintro _ H249 ⟨rfl, hx249f, hx249z⟩
                    refine h_rng (fun hrg250 => ?_)
                    have hf251 : fr [59] [1858, 1859, 1860] H H249 := fr_t hf231 hx249f (by decide) (by decide)
                    replace hx249z : (H229.1 1826 59) ≤ (H249.1 1826 59) ∧ (H249.1 1826 59) ≤ (H229.1 1826 59) + 8 := hx249z
                    refine h_run 0 (pc' := 184) (l' := [(0, .inr (.inr 1826)), (1, .inr (.inr c)), (2, .inl 0), (3, .inl (k : Int)), (4, .inl (dp : Int)), (5, .inl (i : Int)), (6, .inl (H1.1 c i)), (7, .inl (ma (H1.1 1833) (H1.1 1830) (H1.1 c i))), (8, .inl 1)]) (st' := []) rfl ?_
                    refine h_run 4 (pc' := 192) (l' := [(0, .inr (.inr 1826)), (1, .inr (.inr c)), (2, .inl 0), (3, .inl (k : Int)), (4, .inl (dp : Int)), (5, .inl (i : Int)), (6, .inl (H1.1 c i)), (7, .inl (ma (H1.1 1833) (H1.1 1830) (H1.1 c i))), (8, .inl 1)]) (st' := [.inl (ma (H1.1 1833) (H1.1 1830) (H1.1 c i)), .inl (dp : Int), .inr (.inr 1859)]) rfl ?_
                    refine h_ist (c := 1859) (j := dp) (i := (dp : Int)) (x := (ma (H1.1 1833) (H1.1 1830) (H1.1 c i))) rfl rfl (by decide) (by decide) rfl (by omega) (by omega) ?_
                    refine h_run 4 (pc' := 201) (l' := [(0, .inr (.inr 1826)), (1, .inr (.inr c)), (2, .inl 0), (3, .inl (k : Int)), (4, .inl (dp : Int)), (5, .inl (i : Int)), (6, .inl (H1.1 c i)), (7, .inl (ma (H1.1 1833) (H1.1 1830) (H1.1 c i))), (8, .inl 1)]) (st' := [.inl 1, .inl (dp : Int), .inr (.inr 1860)]) rfl ?_
                    refine h_bst (c := 1860) (j := dp) (i := (dp : Int)) (x := 1) (Or.inr rfl) rfl rfl (by decide) (by decide) rfl (by omega) (show (0 : Int) ≤ 1 ∧ 1 ≤ 1 by omega) ?_
                    refine h_run 1 (pc' := 205) (l' := [(0, .inr (.inr 1826)), (1, .inr (.inr c)), (2, .inl 0), (3, .inl (k : Int)), (4, .inl ((dp : Int) + 1)), (5, .inl (i : Int)), (6, .inl (H1.1 c i)), (7, .inl (ma (H1.1 1833) (H1.1 1830) (H1.1 c i))), (8, .inl 1)]) (st' := []) rfl ?_
                    have g252 : -2147483648 ≤ (H249.1 1826 59) ∧ (H249.1 1826 59) ≤ 2147483647 := hrg250.1 1826 13 59 _ .int rfl rfl
                    refine h_loc [0, 1, 2, 3, 4, 5] rfl ?_
                    rw [show ((dp : Int) + 1) = (((dp + 1) : Nat) : Int) by omega]
                    exact ih.2 _ (dp + 1) i (fr_a (fr_a hf251 (by decide)) (by decide)) (by omega) (by omega : 0 ≤ (H249.1 1826 59) ∧ (H249.1 1826 59) + (((dp + 1) : Nat) : Int) ≤ 12 * (i + 1)) (fun x hx => by show (dp : Int) + 1 - (i + 1) ≤ up (H249.1 1859) dp (ma (H1.1 1833) (H1.1 1830) (H1.1 c i)) x ∧ up (H249.1 1859) dp (ma (H1.1 1833) (H1.1 1830) (H1.1 c i)) x ≤ 4; rw [up_if]; by_cases e9 : x = dp; { rw [if_pos e9]; omega }; { rw [if_neg e9, show (H249.1 1859) = (H1.1 1859) from (((hx249f.2.1 1859 (by decide) (by decide)).trans (hx229f.2.1 1859 (by decide) (by decide))).trans (hx133f.2.1 1859 (by decide) (by decide)))]; have h9 := hlk x (by omega); omega }) (by omega : 1000 * (k - i) + (dp + 1) < w)
                · refine h_run 3 (pc' := 108) (l' := [(0, .inr (.inr 1826)), (1, .inr (.inr c)), (2, .inl 0), (3, .inl (k : Int)), (4, .inl (dp : Int)), (5, .inl (i : Int)), (6, .inl (H1.1 c i)), (7, .inl (ma (H1.1 1833) (H1.1 1830) (H1.1 c i))), (8, .inl 1)]) (st' := [.inl 2000, .inl (H1.1 c i), .inr (.inr 1826)]) rfl ?_
                  refine h_ilt (off := 8) (t := 116) rfl rfl (by omega) (by decide) (fun c253 => ?_) (fun c253 => ?_)
                  · refine h_run 1 (pc' := 118) (l' := [(0, .inr (.inr 1826)), (1, .inr (.inr c)), (2, .inl 0), (3, .inl (k : Int)), (4, .inl (dp : Int)), (5, .inl (i : Int)), (6, .inl (H1.1 c i)), (7, .inl (ma (H1.1 1833) (H1.1 1830) (H1.1 c i))), (8, .inl 1)]) (st' := [.inl 118, .inr (.inr 1826)]) rfl ?_
                    have g254 : -2147483648 ≤ (H229.1 1826 59) ∧ (H229.1 1826 59) ≤ 2147483647 := hrg230.1 1826 13 59 _ .int rfl rfl
                    refine h_cv (i := 473) (j := 203) (b := 1826) (M' := mt_203) (xs := [.inl 118]) (rest := []) rfl rfl rfl rfl rfl rfl (Nat.le_of_ble_eq_true rfl) (Nat.le_of_ble_eq_true rfl) (by omega) (m_letter (by omega) (by omega : 0 ≤ (H229.1 1826 59) ∧ (H229.1 1826 59) ≤ 7950)) ?_
                    rintro _ H255 ⟨rfl, hx255f, hx255z⟩
                    refine h_rng (fun hrg256 => ?_)
                    have hf257 : fr [59] [1858, 1859, 1860] H H255 := fr_t hf231 hx255f (by decide) (by decide)
                    replace hx255z : (H229.1 1826 59) ≤ (H255.1 1826 59) ∧ (H255.1 1826 59) ≤ (H229.1 1826 59) + 1 := hx255z
                    refine h_run 0 (pc' := 121) (l' := [(0, .inr (.inr 1826)), (1, .inr (.inr c)), (2, .inl 0), (3, .inl (k : Int)), (4, .inl (dp : Int)), (5, .inl (i : Int)), (6, .inl (H1.1 c i)), (7, .inl (ma (H1.1 1833) (H1.1 1830) (H1.1 c i))), (8, .inl 1)]) (st' := []) rfl ?_
                    refine h_run 3 (pc' := 127) (l' := [(0, .inr (.inr 1826)), (1, .inr (.inr c)), (2, .inl 0), (3, .inl (k : Int)), (4, .inl (dp : Int)), (5, .inl (i : Int)), (6, .inl (H1.1 c i)), (7, .inl (ma (H1.1 1833) (H1.1 1830) (H1.1 c i))), (8, .inl 1)]) (st' := [.inl 2000, .inl (H1.1 c i), .inr (.inr 1826)]) rfl ?_
                    refine h_ilt (off := 12) (t := 139) rfl rfl (by omega) (by decide) (fun c258 => ?_) (fun c258 => ?_)
                    · refine h_run 3 (pc' := 145) (l' := [(0, .inr (.inr 1826)), (1, .inr (.inr c)), (2, .inl 0), (3, .inl (k : Int)), (4, .inl (dp : Int)), (5, .inl (i : Int)), (6, .inl (H1.1 c i)), (7, .inl (ma (H1.1 1833) (H1.1 1830) (H1.1 c i))), (8, .inl 1)]) (st' := [.inl ((H1.1 c i) - 1000), .inr (.inr 1826)]) rfl ?_
                      have g259 : -2147483648 ≤ (H255.1 1826 59) ∧ (H255.1 1826 59) ≤ 2147483647 := hrg256.1 1826 13 59 _ .int rfl rfl
                      refine h_cv (i := 476) (j := 205) (b := 1826) (M' := mt_205) (xs := [.inl ((H1.1 c i) - 1000)]) (rest := []) rfl rfl rfl rfl rfl rfl (Nat.le_of_ble_eq_true rfl) (Nat.le_of_ble_eq_true rfl) (by omega) (m_putNumber (by omega) (by omega : 0 ≤ (H255.1 1826 59) ∧ (H255.1 1826 59) ≤ 7900) (by omega)) ?_
                      rintro _ H260 ⟨rfl, hx260f, hx260z⟩
                      refine h_rng (fun hrg261 => ?_)
                      have hf262 : fr [59] [1858, 1859, 1860] H H260 := fr_t hf257 hx260f (by decide) (by decide)
                      replace hx260z : (H255.1 1826 59) ≤ (H260.1 1826 59) ∧ (H260.1 1826 59) ≤ (H255.1 1826 59) + 2 := hx260z
                      refine h_run 0 (pc' := 148) (l' := [(0, .inr (.inr 1826)), (1, .inr (.inr c)), (2, .inl 0), (3, .inl (k : Int)), (4, .inl (dp : Int)), (5, .inl (i : Int)), (6, .inl (H1.1 c i)), (7, .inl (ma (H1.1 1833) (H1.1 1830) (H1.1 c i))), (8, .inl 1)]) (st' := []) rfl ?_
                      refine h_run 5 (pc' := 192) (l' := [(0, .inr (.inr 1826)), (1, .inr (.inr c)), (2, .inl 0), (3, .inl (k : Int)), (4, .inl (dp : Int)), (5, .inl (i : Int)), (6, .inl (H1.1 c i)), (7, .inl (ma (H1.1 1833) (H1.1 1830) (H1.1 c i))), (8, .inl 1)]) (st' := [.inl (ma (H1.1 1833) (H1.1 1830) (H1.1 c i)), .inl (dp : Int), .inr (.inr 1859)]) rfl ?_
                      refine h_ist (c := 1859) (j := dp) (i := (dp : Int)) (x := (ma (H1.1 1833) (H1.1 1830) (H1.1 c i))) rfl rfl (by decide) (by decide) rfl (by omega) (by omega) ?_
                      refine h_run 4 (pc' := 201) (l' := [(0, .inr (.inr 1826)), (1, .inr (.inr c)), (2, .inl 0), (3, .inl (k : Int)), (4, .inl (dp : Int)), (5, .inl (i : Int)), (6, .inl (H1.1 c i)), (7, .inl (ma (H1.1 1833) (H1.1 1830) (H1.1 c i))), (8, .inl 1)]) (st' := [.inl 1, .inl (dp : Int), .inr (.inr 1860)]) rfl ?_
                      refine h_bst (c := 1860) (j := dp) (i := (dp : Int)) (x := 1) (Or.inr rfl) rfl rfl (by decide) (by decide) rfl (by omega) (show (0 : Int) ≤ 1 ∧ 1 ≤ 1 by omega) ?_
                      refine h_run 1 (pc' := 205) (l' := [(0, .inr (.inr 1826)), (1, .inr (.inr c)), (2, .inl 0), (3, .inl (k : Int)), (4, .inl ((dp : Int) + 1)), (5, .inl (i : Int)), (6, .inl (H1.1 c i)), (7, .inl (ma (H1.1 1833) (H1.1 1830) (H1.1 c i))), (8, .inl 1)]) (st' := []) rfl ?_
                      have g263 : -2147483648 ≤ (H260.1 1826 59) ∧ (H260.1 1826 59) ≤ 2147483647 := hrg261.1 1826 13 59 _ .int rfl rfl
                      refine h_loc [0, 1, 2, 3, 4, 5] rfl ?_
                      rw [show ((dp : Int) + 1) = (((dp + 1) : Nat) : Int) by omega]
                      exact ih.2 _ (dp + 1) i (fr_a (fr_a hf262 (by decide)) (by decide)) (by omega) (by omega : 0 ≤ (H260.1 1826 59) ∧ (H260.1 1826 59) + (((dp + 1) : Nat) : Int) ≤ 12 * (i + 1)) (fun x hx => by show (dp : Int) + 1 - (i + 1) ≤ up (H260.1 1859) dp (ma (H1.1 1833) (H1.1 1830) (H1.1 c i)) x ∧ up (H260.1 1859) dp (ma (H1.1 1833) (H1.1 1830) (H1.1 c i)) x ≤ 4; rw [up_if]; by_cases e9 : x = dp; { rw [if_pos e9]; omega }; { rw [if_neg e9, show (H260.1 1859) = (H1.1 1859) from ((((hx260f.2.1 1859 (by decide) (by decide)).trans (hx255f.2.1 1859 (by decide) (by decide))).trans (hx229f.2.1 1859 (by decide) (by decide))).trans (hx133f.2.1 1859 (by decide) (by decide)))]; have h9 := hlk x (by omega); omega }) (by omega : 1000 * (k - i) + (dp + 1) < w)
                    · exfalso
                      omega
                  · refine h_run 2 (pc' := 118) (l' := [(0, .inr (.inr 1826)), (1, .inr (.inr c)), (2, .inl 0), (3, .inl (k : Int)), (4, .inl (dp : Int)), (5, .inl (i : Int)), (6, .inl (H1.1 c i)), (7, .inl (ma (H1.1 1833) (H1.1 1830) (H1.1 c i))), (8, .inl 1)]) (st' := [.inl 102, .inr (.inr 1826)]) rfl ?_
                    have g264 : -2147483648 ≤ (H229.1 1826 59) ∧ (H229.1 1826 59) ≤ 2147483647 := hrg230.1 1826 13 59 _ .int rfl rfl
                    refine h_cv (i := 473) (j := 203) (b := 1826) (M' := mt_203) (xs := [.inl 102]) (rest := []) rfl rfl rfl rfl rfl rfl (Nat.le_of_ble_eq_true rfl) (Nat.le_of_ble_eq_true rfl) (by omega) (m_letter (by omega) (by omega : 0 ≤ (H229.1 1826 59) ∧ (H229.1 1826 59) ≤ 7950)) ?_
                    rintro _ H265 ⟨rfl, hx265f, hx265z⟩
                    refine h_rng (fun hrg266 => ?_)
                    have hf267 : fr [59] [1858, 1859, 1860] H H265 := fr_t hf231 hx265f (by decide) (by decide)
                    replace hx265z : (H229.1 1826 59) ≤ (H265.1 1826 59) ∧ (H265.1 1826 59) ≤ (H229.1 1826 59) + 1 := hx265z
                    refine h_run 0 (pc' := 121) (l' := [(0, .inr (.inr 1826)), (1, .inr (.inr c)), (2, .inl 0), (3, .inl (k : Int)), (4, .inl (dp : Int)), (5, .inl (i : Int)), (6, .inl (H1.1 c i)), (7, .inl (ma (H1.1 1833) (H1.1 1830) (H1.1 c i))), (8, .inl 1)]) (st' := []) rfl ?_
                    refine h_run 3 (pc' := 127) (l' := [(0, .inr (.inr 1826)), (1, .inr (.inr c)), (2, .inl 0), (3, .inl (k : Int)), (4, .inl (dp : Int)), (5, .inl (i : Int)), (6, .inl (H1.1 c i)), (7, .inl (ma (H1.1 1833) (H1.1 1830) (H1.1 c i))), (8, .inl 1)]) (st' := [.inl 2000, .inl (H1.1 c i), .inr (.inr 1826)]) rfl ?_
                    refine h_ilt (off := 12) (t := 139) rfl rfl (by omega) (by decide) (fun c268 => ?_) (fun c268 => ?_)
                    · exfalso
                      omega
                    · refine h_run 4 (pc' := 145) (l' := [(0, .inr (.inr 1826)), (1, .inr (.inr c)), (2, .inl 0), (3, .inl (k : Int)), (4, .inl (dp : Int)), (5, .inl (i : Int)), (6, .inl (H1.1 c i)), (7, .inl (ma (H1.1 1833) (H1.1 1830) (H1.1 c i))), (8, .inl 1)]) (st' := [.inl ((H1.1 c i) - 2000), .inr (.inr 1826)]) rfl ?_
                      have g269 : -2147483648 ≤ (H265.1 1826 59) ∧ (H265.1 1826 59) ≤ 2147483647 := hrg266.1 1826 13 59 _ .int rfl rfl
                      refine h_cv (i := 476) (j := 205) (b := 1826) (M' := mt_205) (xs := [.inl ((H1.1 c i) - 2000)]) (rest := []) rfl rfl rfl rfl rfl rfl (Nat.le_of_ble_eq_true rfl) (Nat.le_of_ble_eq_true rfl) (by omega) (m_putNumber (by omega) (by omega : 0 ≤ (H265.1 1826 59) ∧ (H265.1 1826 59) ≤ 7900) (by omega)) ?_
                      rintro _ H270 ⟨rfl, hx270f, hx270z⟩
                      refine h_rng (fun hrg271 => ?_)
                      have hf272 : fr [59] [1858, 1859, 1860] H H270 := fr_t hf267 hx270f (by decide) (by decide)
                      replace hx270z : (H265.1 1826 59) ≤ (H270.1 1826 59) ∧ (H270.1 1826 59) ≤ (H265.1 1826 59) + 2 := hx270z
                      refine h_run 0 (pc' := 148) (l' := [(0, .inr (.inr 1826)), (1, .inr (.inr c)), (2, .inl 0), (3, .inl (k : Int)), (4, .inl (dp : Int)), (5, .inl (i : Int)), (6, .inl (H1.1 c i)), (7, .inl (ma (H1.1 1833) (H1.1 1830) (H1.1 c i))), (8, .inl 1)]) (st' := []) rfl ?_
                      refine h_run 5 (pc' := 192) (l' := [(0, .inr (.inr 1826)), (1, .inr (.inr c)), (2, .inl 0), (3, .inl (k : Int)), (4, .inl (dp : Int)), (5, .inl (i : Int)), (6, .inl (H1.1 c i)), (7, .inl (ma (H1.1 1833) (H1.1 1830) (H1.1 c i))), (8, .inl 1)]) (st' := [.inl (ma (H1.1 1833) (H1.1 1830) (H1.1 c i)), .inl (dp : Int), .inr (.inr 1859)]) rfl ?_
                      refine h_ist (c := 1859) (j := dp) (i := (dp : Int)) (x := (ma (H1.1 1833) (H1.1 1830) (H1.1 c i))) rfl rfl (by decide) (by decide) rfl (by omega) (by omega) ?_
                      refine h_run 4 (pc' := 201) (l' := [(0, .inr (.inr 1826)), (1, .inr (.inr c)), (2, .inl 0), (3, .inl (k : Int)), (4, .inl (dp : Int)), (5, .inl (i : Int)), (6, .inl (H1.1 c i)), (7, .inl (ma (H1.1 1833) (H1.1 1830) (H1.1 c i))), (8, .inl 1)]) (st' := [.inl 1, .inl (dp : Int), .inr (.inr 1860)]) rfl ?_
                      refine h_bst (c := 1860) (j := dp) (i := (dp : Int)) (x := 1) (Or.inr rfl) rfl rfl (by decide) (by decide) rfl (by omega) (show (0 : Int) ≤ 1 ∧ 1 ≤ 1 by omega) ?_
                      refine h_run 1 (pc' := 205) (l' := [(0, .inr (.inr 1826)), (1, .inr (.inr c)), (2, .inl 0), (3, .inl (k : Int)), (4, .inl ((dp : Int) + 1)), (5, .inl (i : Int)), (6, .inl (H1.1 c i)), (7, .inl (ma (H1.1 1833) (H1.1 1830) (H1.1 c i))), (8, .inl 1)]) (st' := []) rfl ?_
                      have g273 : -2147483648 ≤ (H270.1 1826 59) ∧ (H270.1 1826 59) ≤ 2147483647 := hrg271.1 1826 13 59 _ .int rfl rfl
                      refine h_loc [0, 1, 2, 3, 4, 5] rfl ?_
                      rw [show ((dp : Int) + 1) = (((dp + 1) : Nat) : Int) by omega]
                      exact ih.2 _ (dp + 1) i (fr_a (fr_a hf272 (by decide)) (by decide)) (by omega) (by omega : 0 ≤ (H270.1 1826 59) ∧ (H270.1 1826 59) + (((dp + 1) : Nat) : Int) ≤ 12 * (i + 1)) (fun x hx => by show (dp : Int) + 1 - (i + 1) ≤ up (H270.1 1859) dp (ma (H1.1 1833) (H1.1 1830) (H1.1 c i)) x ∧ up (H270.1 1859) dp (ma (H1.1 1833) (H1.1 1830) (H1.1 c i)) x ≤ 4; rw [up_if]; by_cases e9 : x = dp; { rw [if_pos e9]; omega }; { rw [if_neg e9, show (H270.1 1859) = (H1.1 1859) from ((((hx270f.2.1 1859 (by decide) (by decide)).trans (hx265f.2.1 1859 (by decide) (by decide))).trans (hx229f.2.1 1859 (by decide) (by decide))).trans (hx133f.2.1 1859 (by decide) (by decide)))]; have h9 := hlk x (by omega); omega }) (by omega : 1000 * (k - i) + (dp + 1) < w)
              · refine h_run 2 (pc' := 88) (l' := [(0, .inr (.inr 1826)), (1, .inr (.inr c)), (2, .inl 0), (3, .inl (k : Int)), (4, .inl (dp : Int)), (5, .inl (i : Int)), (6, .inl (H1.1 c i)), (7, .inl (ma (H1.1 1833) (H1.1 1830) (H1.1 c i))), (8, .inl 1)]) (st' := [.inl 95, .inr (.inr 1826)]) rfl ?_
                have g274 : -2147483648 ≤ (H229.1 1826 59) ∧ (H229.1 1826 59) ≤ 2147483647 := hrg230.1 1826 13 59 _ .int rfl rfl
                refine h_cv (i := 473) (j := 203) (b := 1826) (M' := mt_203) (xs := [.inl 95]) (rest := []) rfl rfl rfl rfl rfl rfl (Nat.le_of_ble_eq_true rfl) (Nat.le_of_ble_eq_true rfl) (by omega) (m_letter (by omega) (by omega : 0 ≤ (H229.1 1826 59) ∧ (H229.1 1826 59) ≤ 7950)) ?_
                rintro _ H275 ⟨rfl, hx275f, hx275z⟩
                refine h_rng (fun hrg276 => ?_)
                have hf277 : fr [59] [1858, 1859, 1860] H H275 := fr_t hf231 hx275f (by decide) (by decide)
                replace hx275z : (H229.1 1826 59) ≤ (H275.1 1826 59) ∧ (H275.1 1826 59) ≤ (H229.1 1826 59) + 1 := hx275z
                refine h_run 0 (pc' := 91) (l' := [(0, .inr (.inr 1826)), (1, .inr (.inr c)), (2, .inl 0), (3, .inl (k : Int)), (4, .inl (dp : Int)), (5, .inl (i : Int)), (6, .inl (H1.1 c i)), (7, .inl (ma (H1.1 1833) (H1.1 1830) (H1.1 c i))), (8, .inl 1)]) (st' := []) rfl ?_
                refine h_run 5 (pc' := 192) (l' := [(0, .inr (.inr 1826)), (1, .inr (.inr c)), (2, .inl 0), (3, .inl (k : Int)), (4, .inl (dp : Int)), (5, .inl (i : Int)), (6, .inl (H1.1 c i)), (7, .inl (ma (H1.1 1833) (H1.1 1830) (H1.1 c i))), (8, .inl 1)]) (st' := [.inl (ma (H1.1 1833) (H1.1 1830) (H1.1 c i)), .inl (dp : Int), .inr (.inr 1859)]) rfl ?_
                refine h_ist (c := 1859) (j := dp) (i := (dp : Int)) (x := (ma (H1.1 1833) (H1.1 1830) (H1.1 c i))) rfl rfl (by decide) (by decide) rfl (by omega) (by omega) ?_
                refine h_run 4 (pc' := 201) (l' := [(0, .inr (.inr 1826)), (1, .inr (.inr c)), (2, .inl 0), (3, .inl (k : Int)), (4, .inl (dp : Int)), (5, .inl (i : Int)), (6, .inl (H1.1 c i)), (7, .inl (ma (H1.1 1833) (H1.1 1830) (H1.1 c i))), (8, .inl 1)]) (st' := [.inl 1, .inl (dp : Int), .inr (.inr 1860)]) rfl ?_
                refine h_bst (c := 1860) (j := dp) (i := (dp : Int)) (x := 1) (Or.inr rfl) rfl rfl (by decide) (by decide) rfl (by omega) (show (0 : Int) ≤ 1 ∧ 1 ≤ 1 by omega) ?_
                refine h_run 1 (pc' := 205) (l' := [(0, .inr (.inr 1826)), (1, .inr (.inr c)), (2, .inl 0), (3, .inl (k : Int)), (4, .inl ((dp : Int) + 1)), (5, .inl (i : Int)), (6, .inl (H1.1 c i)), (7, .inl (ma (H1.1 1833) (H1.1 1830) (H1.1 c i))), (8, .inl 1)]) (st' := []) rfl ?_
                have g278 : -2147483648 ≤ (H275.1 1826 59) ∧ (H275.1 1826 59) ≤ 2147483647 := hrg276.1 1826 13 59 _ .int rfl rfl
                refine h_loc [0, 1, 2, 3, 4, 5] rfl ?_
                rw [show ((dp : Int) + 1) = (((dp + 1) : Nat) : Int) by omega]
                exact ih.2 _ (dp + 1) i (fr_a (fr_a hf277 (by decide)) (by decide)) (by omega) (by omega : 0 ≤ (H275.1 1826 59) ∧ (H275.1 1826 59) + (((dp + 1) : Nat) : Int) ≤ 12 * (i + 1)) (fun x hx => by show (dp : Int) + 1 - (i + 1) ≤ up (H275.1 1859) dp (ma (H1.1 1833) (H1.1 1830) (H1.1 c i)) x ∧ up (H275.1 1859) dp (ma (H1.1 1833) (H1.1 1830) (H1.1 c i)) x ≤ 4; rw [up_if]; by_cases e9 : x = dp; { rw [if_pos e9]; omega }; { rw [if_neg e9, show (H275.1 1859) = (H1.1 1859) from (((hx275f.2.1 1859 (by decide) (by decide)).trans (hx229f.2.1 1859 (by decide) (by decide))).trans (hx133f.2.1 1859 (by decide) (by decide)))]; have h9 := hlk x (by omega); omega }) (by omega : 1000 * (k - i) + (dp + 1) < w)
    · intro H1 dp i hf hi hz hlk hw
      refine h_rng (fun hrg279 => ?_)
      obtain ⟨⟨pb1, pb2, pb3, pb4, pb5⟩, pw1, pw2, pw3, pw4⟩ := (id hP : PW H (H.1 1826 1) (H.1 1826 3) (H.1 1826 8) (H.1 1826 13) (H.1 1826 19))
      refine h_run 1 (pc' := 207) (l' := [(0, .inr (.inr 1826)), (1, .inr (.inr c)), (2, .inl 0), (3, .inl (k : Int)), (4, .inl (dp : Int)), (5, .inl (i : Int))]) (st' := [.inl (dp : Int)]) rfl ?_
      refine h_zle (off := 55) (t := 262) rfl rfl (by omega) (fun c280 => ?_) (fun c280 => ?_)
      · refine h_run 2 (pc' := 18) (l' := [(0, .inr (.inr 1826)), (1, .inr (.inr c)), (2, .inl 0), (3, .inl (k : Int)), (4, .inl (dp : Int)), (5, .inl ((i : Int) + 1))]) (st' := []) rfl ?_
        have g281 : -2147483648 ≤ (H1.1 1826 59) ∧ (H1.1 1826 59) ≤ 2147483647 := hrg279.1 1826 13 59 _ .int rfl rfl
        rw [show ((i : Int) + 1) = (((i + 1) : Nat) : Int) by omega]
        exact ih.1 _ dp (i + 1) hf (by omega) (by omega : 0 ≤ (H1.1 1826 59) ∧ (H1.1 1826 59) + ((dp : Nat) : Int) ≤ 12 * (i + 1)) (fun x hx => by have h9 := hlk x hx; omega) (by omega : 1000 * (k - (i + 1)) + 900 < w)
      · refine h_run 5 (pc' := 218) (l' := [(0, .inr (.inr 1826)), (1, .inr (.inr c)), (2, .inl 0), (3, .inl (k : Int)), (4, .inl (dp : Int)), (5, .inl (i : Int))]) (st' := [.inl ((dp : Int) - 1), .inr (.inr 1859)]) rfl ?_
        refine h_ild (c := 1859) (j := (((dp : Int) - 1)).toNat) (i := ((dp : Int) - 1)) rfl rfl (by decide) (by omega) (by omega) ?_
        have g282 : -2147483648 ≤ (H1.1 1859 (((dp : Int) - 1)).toNat) ∧ (H1.1 1859 (((dp : Int) - 1)).toNat) ≤ 2147483647 := hrg279.2 1859 (((dp : Int) - 1)).toNat 400 .int rfl (by omega)
        refine h_run 0 (pc' := 219) (l' := [(0, .inr (.inr 1826)), (1, .inr (.inr c)), (2, .inl 0), (3, .inl (k : Int)), (4, .inl (dp : Int)), (5, .inl (i : Int))]) (st' := [.inl (H1.1 1859 (((dp : Int) - 1)).toNat)]) rfl ?_
        refine h_zne (off := 43) (t := 262) rfl rfl (by omega) (fun c283 => ?_) (fun c283 => ?_)
        · refine h_run 2 (pc' := 18) (l' := [(0, .inr (.inr 1826)), (1, .inr (.inr c)), (2, .inl 0), (3, .inl (k : Int)), (4, .inl (dp : Int)), (5, .inl ((i : Int) + 1))]) (st' := []) rfl ?_
          have g284 : -2147483648 ≤ (H1.1 1826 59) ∧ (H1.1 1826 59) ≤ 2147483647 := hrg279.1 1826 13 59 _ .int rfl rfl
          rw [show ((i : Int) + 1) = (((i + 1) : Nat) : Int) by omega]
          exact ih.1 _ dp (i + 1) hf (by omega) (by omega : 0 ≤ (H1.1 1826 59) ∧ (H1.1 1826 59) + ((dp : Nat) : Int) ≤ 12 * (i + 1)) (fun x hx => by have h9 := hlk x hx; omega) (by omega : 1000 * (k - (i + 1)) + 900 < w)
        · refine h_run 1 (pc' := 225) (l' := [(0, .inr (.inr 1826)), (1, .inr (.inr c)), (2, .inl 0), (3, .inl (k : Int)), (4, .inl ((dp : Int) + (-1))), (5, .inl (i : Int))]) (st' := []) rfl ?_
          obtain ⟨e, he⟩ : ∃ e : Nat, dp = e + 1 := ⟨dp - 1, by omega⟩
          rw [show ((dp : Int) + (-1)) = (e : Int) by omega]
          refine h_run 3 (pc' := 231) (l' := [(0, .inr (.inr 1826)), (1, .inr (.inr c)), (2, .inl 0), (3, .inl (k : Int)), (4, .inl (e : Int)), (5, .inl (i : Int))]) (st' := [.inl (e : Int), .inr (.inr 1860)]) rfl ?_
          refine h_bld (c := 1860) (j := e) (i := (e : Int)) (Or.inr rfl) rfl rfl (by decide) rfl (by omega) ?_
          have g285 : 0 ≤ (H1.1 1860 e) ∧ (H1.1 1860 e) ≤ 1 := hrg279.2 1860 e 400 .boolean rfl (by omega)
          refine h_run 0 (pc' := 232) (l' := [(0, .inr (.inr 1826)), (1, .inr (.inr c)), (2, .inl 0), (3, .inl (k : Int)), (4, .inl (e : Int)), (5, .inl (i : Int))]) (st' := [.inl (H1.1 1860 e)]) rfl ?_
          refine h_zeq (off := 9) (t := 241) rfl rfl (by omega) (fun c286 => ?_) (fun c286 => ?_)
          · refine h_run 1 (pc' := 243) (l' := [(0, .inr (.inr 1826)), (1, .inr (.inr c)), (2, .inl 0), (3, .inl (k : Int)), (4, .inl (e : Int)), (5, .inl (i : Int))]) (st' := [.inl (e : Int)]) rfl ?_
            refine h_zle (off := -38) (t := 205) rfl rfl (by omega) (fun c287 => ?_) (fun c287 => ?_)
            · have g288 : -2147483648 ≤ (H1.1 1826 59) ∧ (H1.1 1826 59) ≤ 2147483647 := hrg279.1 1826 13 59 _ .int rfl rfl
              exact ih.2 _ e i hf (by omega) (by omega : 0 ≤ (H1.1 1826 59) ∧ (H1.1 1826 59) + ((e : Nat) : Int) ≤ 12 * (i + 1)) (fun x hx => by rw [show (H1.1 1859) = (H1.1 1859) from rfl]; have h9 := hlk x (by omega); omega) (by omega : 1000 * (k - i) + e < w)
            · have hl9 := hlk ((e : Int) - 1).toNat (by omega)
              refine h_run 6 (pc' := 255) (l' := [(0, .inr (.inr 1826)), (1, .inr (.inr c)), (2, .inl 0), (3, .inl (k : Int)), (4, .inl (e : Int)), (5, .inl (i : Int))]) (st' := [.inl ((e : Int) - 1), .inr (.inr 1859), .inl ((e : Int) - 1), .inr (.inr 1859)]) rfl ?_
              refine h_ild (c := 1859) (j := (((e : Int) - 1)).toNat) (i := ((e : Int) - 1)) rfl rfl (by decide) (by omega) (by omega) ?_
              have g289 : -2147483648 ≤ (H1.1 1859 (((e : Int) - 1)).toNat) ∧ (H1.1 1859 (((e : Int) - 1)).toNat) ≤ 2147483647 := hrg279.2 1859 (((e : Int) - 1)).toNat 400 .int rfl (by omega)
              refine h_run 0 (pc' := 256) (l' := [(0, .inr (.inr 1826)), (1, .inr (.inr c)), (2, .inl 0), (3, .inl (k : Int)), (4, .inl (e : Int)), (5, .inl (i : Int))]) (st' := [.inl (H1.1 1859 (((e : Int) - 1)).toNat), .inl ((e : Int) - 1), .inr (.inr 1859)]) rfl ?_
              refine h_run 2 (pc' := 258) (l' := [(0, .inr (.inr 1826)), (1, .inr (.inr c)), (2, .inl 0), (3, .inl (k : Int)), (4, .inl (e : Int)), (5, .inl (i : Int))]) (st' := [.inl ((H1.1 1859 (((e : Int) - 1)).toNat) - 1), .inl ((e : Int) - 1), .inr (.inr 1859)]) rfl ?_
              refine h_ist (c := 1859) (j := (((e : Int) - 1)).toNat) (i := ((e : Int) - 1)) (x := ((H1.1 1859 (((e : Int) - 1)).toNat) - 1)) rfl rfl (by decide) (by decide) (by omega) (by omega) (by omega) ?_
              refine h_run 1 (pc' := 205) (l' := [(0, .inr (.inr 1826)), (1, .inr (.inr c)), (2, .inl 0), (3, .inl (k : Int)), (4, .inl (e : Int)), (5, .inl (i : Int))]) (st' := []) rfl ?_
              have g290 : -2147483648 ≤ (H1.1 1826 59) ∧ (H1.1 1826 59) ≤ 2147483647 := hrg279.1 1826 13 59 _ .int rfl rfl
              exact ih.2 _ e i (fr_a hf (by decide)) (by omega) (by omega : 0 ≤ (H1.1 1826 59) ∧ (H1.1 1826 59) + ((e : Nat) : Int) ≤ 12 * (i + 1)) (fun x hx => by show (e : Int) - (i + 1) ≤ up (H1.1 1859) (((e : Int) - 1)).toNat ((H1.1 1859 (((e : Int) - 1)).toNat) - 1) x ∧ up (H1.1 1859) (((e : Int) - 1)).toNat ((H1.1 1859 (((e : Int) - 1)).toNat) - 1) x ≤ 4; rw [up_if]; have h9 := hlk x (by omega); by_cases e9 : x = (((e : Int) - 1)).toNat; { rw [if_pos e9]; rw [e9] at h9; omega }; { rw [if_neg e9, show (H1.1 1859) = (H1.1 1859) from rfl]; omega }) (by omega : 1000 * (k - i) + e < w)
          · refine h_run 2 (pc' := 238) (l' := [(0, .inr (.inr 1826)), (1, .inr (.inr c)), (2, .inl 0), (3, .inl (k : Int)), (4, .inl (e : Int)), (5, .inl (i : Int))]) (st' := [.inl 41, .inr (.inr 1826)]) rfl ?_
            have g291 : -2147483648 ≤ (H1.1 1826 59) ∧ (H1.1 1826 59) ≤ 2147483647 := hrg279.1 1826 13 59 _ .int rfl rfl
            refine h_cv (i := 473) (j := 203) (b := 1826) (M' := mt_203) (xs := [.inl 41]) (rest := []) rfl rfl rfl rfl rfl rfl (Nat.le_of_ble_eq_true rfl) (Nat.le_of_ble_eq_true rfl) (by omega) (m_letter (by omega) (by omega : 0 ≤ (H1.1 1826 59) ∧ (H1.1 1826 59) ≤ 7950)) ?_
            rintro _ H292 ⟨rfl, hx292f, hx292z⟩
            refine h_rng (fun hrg293 => ?_)
            have hf294 : fr [59] [1858, 1859, 1860] H H292 := fr_t hf hx292f (by decide) (by decide)
            replace hx292z : (H1.1 1826 59) ≤ (H292.1 1826 59) ∧ (H292.1 1826 59) ≤ (H1.1 1826 59) + 1 := hx292z
            refine h_run 0 (pc' := 241) (l' := [(0, .inr (.inr 1826)), (1, .inr (.inr c)), (2, .inl 0), (3, .inl (k : Int)), (4, .inl (e : Int)), (5, .inl (i : Int))]) (st' := []) rfl ?_
            refine h_run 1 (pc' := 243) (l' := [(0, .inr (.inr 1826)), (1, .inr (.inr c)), (2, .inl 0), (3, .inl (k : Int)), (4, .inl (e : Int)), (5, .inl (i : Int))]) (st' := [.inl (e : Int)]) rfl ?_
            refine h_zle (off := -38) (t := 205) rfl rfl (by omega) (fun c295 => ?_) (fun c295 => ?_)
            · have g296 : -2147483648 ≤ (H292.1 1826 59) ∧ (H292.1 1826 59) ≤ 2147483647 := hrg293.1 1826 13 59 _ .int rfl rfl
              exact ih.2 _ e i hf294 (by omega) (by omega : 0 ≤ (H292.1 1826 59) ∧ (H292.1 1826 59) + ((e : Nat) : Int) ≤ 12 * (i + 1)) (fun x hx => by rw [show (H292.1 1859) = (H1.1 1859) from (hx292f.2.1 1859 (by decide) (by decide))]; have h9 := hlk x (by omega); omega) (by omega : 1000 * (k - i) + e < w)
            · have hl9 := hlk ((e : Int) - 1).toNat (by omega)
              refine h_run 6 (pc' := 255) (l' := [(0, .inr (.inr 1826)), (1, .inr (.inr c)), (2, .inl 0), (3, .inl (k : Int)), (4, .inl (e : Int)), (5, .inl (i : Int))]) (st' := [.inl ((e : Int) - 1), .inr (.inr 1859), .inl ((e : Int) - 1), .inr (.inr 1859)]) rfl ?_
              refine h_ild (c := 1859) (j := (((e : Int) - 1)).toNat) (i := ((e : Int) - 1)) rfl rfl (by decide) (by omega) (by omega) ?_
              have g297 : -2147483648 ≤ (H292.1 1859 (((e : Int) - 1)).toNat) ∧ (H292.1 1859 (((e : Int) - 1)).toNat) ≤ 2147483647 := hrg293.2 1859 (((e : Int) - 1)).toNat 400 .int rfl (by omega)
              have e298 : (H292.1 1859 (((e : Int) - 1)).toNat) = (H1.1 1859 (((e : Int) - 1)).toNat) := congrFun (hx292f.2.1 1859 (by decide) (by decide)) (((e : Int) - 1)).toNat
              refine h_run 0 (pc' := 256) (l' := [(0, .inr (.inr 1826)), (1, .inr (.inr c)), (2, .inl 0), (3, .inl (k : Int)), (4, .inl (e : Int)), (5, .inl (i : Int))]) (st' := [.inl (H292.1 1859 (((e : Int) - 1)).toNat), .inl ((e : Int) - 1), .inr (.inr 1859)]) rfl ?_
              refine h_run 2 (pc' := 258) (l' := [(0, .inr (.inr 1826)), (1, .inr (.inr c)), (2, .inl 0), (3, .inl (k : Int)), (4, .inl (e : Int)), (5, .inl (i : Int))]) (st' := [.inl ((H292.1 1859 (((e : Int) - 1)).toNat) - 1), .inl ((e : Int) - 1), .inr (.inr 1859)]) rfl ?_
              refine h_ist (c := 1859) (j := (((e : Int) - 1)).toNat) (i := ((e : Int) - 1)) (x := ((H292.1 1859 (((e : Int) - 1)).toNat) - 1)) rfl rfl (by decide) (by decide) (by omega) (by omega) (by omega) ?_
              refine h_run 1 (pc' := 205) (l' := [(0, .inr (.inr 1826)), (1, .inr (.inr c)), (2, .inl 0), (3, .inl (k : Int)), (4, .inl (e : Int)), (5, .inl (i : Int))]) (st' := []) rfl ?_
              have g299 : -2147483648 ≤ (H292.1 1826 59) ∧ (H292.1 1826 59) ≤ 2147483647 := hrg293.1 1826 13 59 _ .int rfl rfl
              exact ih.2 _ e i (fr_a hf294 (by decide)) (by omega) (by omega : 0 ≤ (H292.1 1826 59) ∧ (H292.1 1826 59) + ((e : Nat) : Int) ≤ 12 * (i + 1)) (fun x hx => by show (e : Int) - (i + 1) ≤ up (H292.1 1859) (((e : Int) - 1)).toNat ((H292.1 1859 (((e : Int) - 1)).toNat) - 1) x ∧ up (H292.1 1859) (((e : Int) - 1)).toNat ((H292.1 1859 (((e : Int) - 1)).toNat) - 1) x ≤ 4; rw [up_if]; have h9 := hlk x (by omega); by_cases e9 : x = (((e : Int) - 1)).toNat; { rw [if_pos e9]; rw [e9] at h9; omega }; { rw [if_neg e9, show (H292.1 1859) = (H1.1 1859) from (hx292f.2.1 1859 (by decide) (by decide))]; omega }) (by omega : 1000 * (k - i) + e < w)
set_option maxRecDepth 100000 in
theorem m_print2 {zC : Nat → Option zsh} {d : Nat} (hd : 3 ≤ d) {H : hp} {c n k : Nat} {ok : Int → Prop} (hc : zs zC c = some (.inr (.int, n))) (hn : n ≤ 100000) (hcm : c ≠ 1826 ∧ c ∉ [1858, 1859, 1860]) (hok : ∀ s, ok s → sg0 s) (hP : PWc H) (hT : tm (ma (H.1 1833) (H.1 1830)) ok (H.1 c) k 0 1) (hk : k ≤ n ∧ k ≤ 240) : hG (zs zC) d mt_206 0 (zargs 0 [.inr (.inr 1826), .inr (.inr c), .inl 0]) [] H (fun r9 H2 => r9 = none ∧ fr [59] [1858, 1859, 1860] H H2 ∧ (0 ≤ (H2.1 1826 59) ∧ (H2.1 1826 59) ≤ 8000)) := by
  refine h_rng (fun hrg0 => ?_)
  refine h_run 0 (pc' := 0) (l' := [(0, .inr (.inr 1826)), (1, .inr (.inr c)), (2, .inl 0)]) (st' := []) rfl ?_
  obtain ⟨⟨pb1, pb2, pb3, pb4, pb5⟩, pw1, pw2, pw3, pw4⟩ := (id hP : PW H (H.1 1826 1) (H.1 1826 3) (H.1 1826 8) (H.1 1826 13) (H.1 1826 19))
  refine h_run 2 (pc' := 2) (l' := [(0, .inr (.inr 1826)), (1, .inr (.inr c)), (2, .inl 0)]) (st' := [.inl 0, .inr (.inr 1826)]) rfl ?_
  refine h_puti (i := 470) (ci := 13) (k := 59) (a := 1826) (x := 0) rfl rfl rfl rfl rfl rfl (by decide) (by decide) ?_
  refine h_run 3 (pc' := 8) (l' := [(0, .inr (.inr 1826)), (1, .inr (.inr c)), (2, .inl 0)]) (st' := [.inl 0, .inr (.inr c), .inr (.inr 1826)]) rfl ?_
  refine h_cv (i := 427) (j := 155) (b := 1826) (M' := mt_155) (xs := [.inl 0, .inr (.inr c)]) (rest := []) rfl rfl rfl rfl rfl rfl (Nat.le_of_ble_eq_true rfl) (Nat.le_of_ble_eq_true rfl) (by omega) (m_behind (by omega) (n := n) (a := 0) (k := k) hc hn (by show tm (ma (H.1 1833) (H.1 1830)) sg0 ((zu H 1826 _).1 c) k 0 1; rw [zu_ne (k := c) _ _ hcm.1]; exact tm_sg0 hT hok) (by omega)) ?_
  rintro _ _ ⟨rfl, rfl⟩
  rw [Nat.zero_add]
  refine h_run 0 (pc' := 11) (l' := [(0, .inr (.inr 1826)), (1, .inr (.inr c)), (2, .inl 0)]) (st' := [.inl (k : Int)]) rfl ?_
  refine h_run 5 (pc' := 18) (l' := [(0, .inr (.inr 1826)), (1, .inr (.inr c)), (2, .inl 0), (3, .inl (k : Int)), (4, .inl 0), (5, .inl 0)]) (st' := []) rfl ?_
  exact (m_print2_cut hd hc hn hcm hok hP hT hk _).1 _ 0 0 (fr_o (fr_rf _ _ _) (by decide)) (by omega) (by omega : 0 ≤ (0 : Int) ∧ (0 : Int) + ((0 : Nat) : Int) ≤ 12 * 0) (fun x hx => absurd hx (Nat.not_lt_zero _)) (Nat.lt_succ_self _)

/-! work -/
set_option maxRecDepth 100000 in
theorem m_work2_cut {zC : Nat → Option zsh} {d : Nat} (hd : 9 ≤ d) {H : hp} {x : Int} (hx : -2147483648 ≤ x ∧ x ≤ 2147483647) (ht : 0 ≤ (H.1 1826 28) ∧ (H.1 1826 28) ≤ 1000) (hst : 0 ≤ (H.1 1826 32) ∧ (H.1 1826 32) ≤ 1000) (hP : PWc H) (hou : 0 ≤ (H.1 1826 59) ∧ (H.1 1826 59) ≤ 8000) : ∀ w : Nat, (∀ (H1 : hp) (k : Nat) (i : Nat), (fr [28, 29, 30, 31, 32, 33, 34, 35, 36, 39, 40, 41, 43, 44, 47, 50, 51, 53, 55, 56, 57, 59] [1849, 1850, 1851, 1852, 1853, 1854, 1855, 1856, 1857, 1858, 1859, 1860] H H1) → ((H1.1 1826 55) = ((k : Nat) : Int) ∧ (H1.1 1826 43) = ((k : Nat) : Int) ∧ k ≤ 40) → ((H1.1 1826 28) = 0) → (0 ≤ (H1.1 1826 59) ∧ (H1.1 1826 59) ≤ 8000) → (0 ≤ (H1.1 1826 32) ∧ (H1.1 1826 32) ≤ 1000) → (0 ≤ x ∧ x ≤ 2000) → (i ≤ k) → (tm (ma (H.1 1833) (H.1 1830)) (m_sg (H.1 1826 3) (H.1 1826 8) 0) (H1.1 1851) k 0 1) → (∀ x, x < i → (H1.1 1857) (0 + x) = (H1.1 1851) x) → k - i < w → hG (zs zC) d mt_201 98 [(0, .inr (.inr 1826)), (1, .inl x), (2, .inl (i : Int))] [] H1 (fun r9 H2 => (∃ r0 : Int, r9 = some (.inl r0)) ∧ fr [28, 29, 30, 31, 32, 33, 34, 35, 36, 39, 40, 41, 43, 44, 47, 50, 51, 53, 55, 56, 57, 59] [1849, 1850, 1851, 1852, 1853, 1854, 1855, 1856, 1857, 1858, 1859, 1860] H H2 ∧ (H2.1 1826 28) = 0 ∧ (0 ≤ (H2.1 1826 32) ∧ (H2.1 1826 32) ≤ 1000) ∧ (0 ≤ (H2.1 1826 59) ∧ (H2.1 1826 59) ≤ 8000))) := by
  intro w
  induction w with
  | zero => exact fun _ _ _ _ _ _ _ _ _ _ _ _ h => absurd h (Nat.not_lt_zero _)
  | succ w ih =>
    intro H1 k i hf hz htp hou1 hst1 hxr hi hrt hcp hw
    refine h_rng (fun hrg1 => ?_)
    obtain ⟨⟨pb1, pb2, pb3, pb4, pb5⟩, pw1, pw2, pw3, pw4⟩ := (id hP : PW H (H.1 1826 1) (H.1 1826 3) (H.1 1826 8) (H.1 1826 13) (H.1 1826 19))
    have e_funArity : (H1.1 1833) = (H.1 1833) := hf.2.1 1833 (by decide) (by decide)
    have e_conArity : (H1.1 1830) = (H.1 1830) := hf.2.1 1830 (by decide) (by decide)
    have f_cons : (H1.1 1826 3) = (H.1 1826 3) := hf.2.2 3 (by decide)
    have f_funs : (H1.1 1826 8) = (H.1 1826 8) := hf.2.2 8 (by decide)
    have hP1 := PWc_fr hP hf (by decide) (by decide)
    refine h_run 3 (pc' := 103) (l' := [(0, .inr (.inr 1826)), (1, .inl x), (2, .inl (i : Int))]) (st' := [.inl (H1.1 1826 43), .inl (i : Int)]) rfl ?_
    have g2 : -2147483648 ≤ (H1.1 1826 43) ∧ (H1.1 1826 43) ≤ 2147483647 := hrg1.1 1826 13 43 _ .int rfl rfl
    refine h_ige (off := 21) (t := 124) rfl rfl (by omega) (by omega) (fun c3 => ?_) (fun c3 => ?_)
    · refine h_run 2 (pc' := 126) (l' := [(0, .inr (.inr 1826)), (1, .inl x), (2, .inl (i : Int))]) (st' := [.inl x, .inr (.inr 1826)]) rfl ?_
      refine h_cv (i := 460) (j := 200) (b := 1826) (M' := mt_200) (xs := [.inl x]) (rest := []) rfl rfl rfl rfl rfl rfl (Nat.le_of_ble_eq_true rfl) (Nat.le_of_ble_eq_true rfl) (by omega) (m_run (by omega) (N := k) (by omega) hP1 (by omega : (H1.1 1826 55) = ((k : Nat) : Int) ∧ k ≤ 240) (by rw [e_funArity, e_conArity, f_cons, f_funs]; exact tm_at hrt (fun x hx => by rw [hcp x (by omega), Nat.zero_add]))) ?_
      rintro _ H4 ⟨hx4f, hx4r, rfl, hx4b, ⟨hx4M, hx4z, hx4m, hx4t⟩, hx4k⟩
      refine h_rng (fun hrg5 => ?_)
      have hf6 : fr [28, 29, 30, 31, 32, 33, 34, 35, 36, 39, 40, 41, 43, 44, 47, 50, 51, 53, 55, 56, 57, 59] [1849, 1850, 1851, 1852, 1853, 1854, 1855, 1856, 1857, 1858, 1859, 1860] H H4 := fr_t hf hx4f (by decide) (by decide)
      refine h_run 0 (pc' := 129) (l' := [(0, .inr (.inr 1826)), (1, .inl x), (2, .inl (i : Int))]) (st' := [.inl hx4r]) rfl ?_
      refine h_run 4 (pc' := 135) (l' := [(0, .inr (.inr 1826)), (1, .inl x), (2, .inl hx4r)]) (st' := [.inl (H4.1 1826 56), .inr (.inr 1826)]) rfl ?_
      have g7 : -2147483648 ≤ (H4.1 1826 56) ∧ (H4.1 1826 56) ≤ 2147483647 := hrg5.1 1826 13 56 _ .int rfl rfl
      refine h_puti (i := 463) (ci := 13) (k := 57) (a := 1826) (x := (H4.1 1826 56)) rfl rfl rfl rfl rfl rfl (by decide) (by omega) ?_
      refine h_run 4 (pc' := 144) (l' := [(0, .inr (.inr 1826)), (1, .inl x), (2, .inl hx4r)]) (st' := [.inl 0, .inr (.inr 1857), .inr (.inr 1826)]) rfl ?_
      refine h_cv (i := 466) (j := 206) (b := 1826) (M' := mt_206) (xs := [.inl 0, .inr (.inr 1857)]) (rest := []) rfl rfl rfl rfl rfl rfl (Nat.le_of_ble_eq_true rfl) (Nat.le_of_ble_eq_true rfl) (by omega) (m_print2 (by omega) (c := 1857) (n := 400) (k := hx4M) (ok := m_sg (H1.1 1826 3) (H1.1 1826 8) 0) rfl (by decide) (by decide) (fun s9 h9 => by unfold m_sg at h9; unfold sg0; omega) (PWc_o (PWc_fr hP1 hx4f (by decide) (by decide)) (by decide)) (by show tm (ma (H4.1 1833) (H4.1 1830)) (m_sg (H1.1 1826 3) (H1.1 1826 8) 0) (H4.1 1857) hx4M 0 1; rw [show (H4.1 1833) = (H1.1 1833) from hx4f.2.1 1833 (by decide) (by decide), show (H4.1 1830) = (H1.1 1830) from hx4f.2.1 1830 (by decide) (by decide)]; exact hx4t) (by omega)) ?_
      rintro _ H8 ⟨rfl, hx8f, hx8o⟩
      refine h_rng (fun hrg9 => ?_)
      have hf10 : fr [28, 29, 30, 31, 32, 33, 34, 35, 36, 39, 40, 41, 43, 44, 47, 50, 51, 53, 55, 56, 57, 59] [1849, 1850, 1851, 1852, 1853, 1854, 1855, 1856, 1857, 1858, 1859, 1860] H H8 := fr_t (fr_o hf6 (by decide)) hx8f (by decide) (by decide)
      refine h_run 0 (pc' := 147) (l' := [(0, .inr (.inr 1826)), (1, .inl x), (2, .inl hx4r)]) (st' := []) rfl ?_
      refine h_run 1 (pc' := 148) (l' := [(0, .inr (.inr 1826)), (1, .inl x), (2, .inl hx4r)]) (st' := [.inl hx4r]) rfl ?_
      refine h_reti (x := hx4r) rfl rfl ?_
      have g11 : -2147483648 ≤ (H8.1 1826 28) ∧ (H8.1 1826 28) ≤ 2147483647 := hrg9.1 1826 13 28 _ .int rfl rfl
      have e12 : (H8.1 1826 28) = (H4.1 1826 28) := hx8f.2.2 28 (by decide)
      have e13 : (H4.1 1826 28) = (H1.1 1826 28) := hx4f.2.2 28 (by decide)
      have g14 : -2147483648 ≤ (H8.1 1826 32) ∧ (H8.1 1826 32) ≤ 2147483647 := hrg9.1 1826 13 32 _ .int rfl rfl
      have e15 : (H8.1 1826 32) = (H4.1 1826 32) := hx8f.2.2 32 (by decide)
      have e16 : (H4.1 1826 32) = (H1.1 1826 32) := hx4f.2.2 32 (by decide)
      have g17 : -2147483648 ≤ (H8.1 1826 59) ∧ (H8.1 1826 59) ≤ 2147483647 := hrg9.1 1826 13 59 _ .int rfl rfl
      exact ⟨⟨_, rfl⟩, hf10, (by omega : (H8.1 1826 28) = 0), (by omega : 0 ≤ (H8.1 1826 32) ∧ (H8.1 1826 32) ≤ 1000), (by omega : 0 ≤ (H8.1 1826 59) ∧ (H8.1 1826 59) ≤ 8000)⟩
    · refine h_run 6 (pc' := 116) (l' := [(0, .inr (.inr 1826)), (1, .inl x), (2, .inl (i : Int))]) (st' := [.inl (i : Int), .inr (.inr 1851), .inl (i : Int), .inr (.inr 1857)]) rfl ?_
      refine h_ild (c := 1851) (j := i) (i := (i : Int)) rfl rfl (by decide) rfl (by omega) ?_
      have g18 : -2147483648 ≤ (H1.1 1851 i) ∧ (H1.1 1851 i) ≤ 2147483647 := hrg1.2 1851 i 48 .int rfl (by omega)
      refine h_run 0 (pc' := 117) (l' := [(0, .inr (.inr 1826)), (1, .inl x), (2, .inl (i : Int))]) (st' := [.inl (H1.1 1851 i), .inl (i : Int), .inr (.inr 1857)]) rfl ?_
      refine h_ist (c := 1857) (j := i) (i := (i : Int)) (x := (H1.1 1851 i)) rfl rfl (by decide) (by decide) rfl (by omega) (by omega) ?_
      refine h_run 2 (pc' := 98) (l' := [(0, .inr (.inr 1826)), (1, .inl x), (2, .inl ((i : Int) + 1))]) (st' := []) rfl ?_
      have g19 : -2147483648 ≤ (H1.1 1826 55) ∧ (H1.1 1826 55) ≤ 2147483647 := hrg1.1 1826 13 55 _ .int rfl rfl
      have g20 : -2147483648 ≤ (H1.1 1826 28) ∧ (H1.1 1826 28) ≤ 2147483647 := hrg1.1 1826 13 28 _ .int rfl rfl
      have g21 : -2147483648 ≤ (H1.1 1826 32) ∧ (H1.1 1826 32) ≤ 2147483647 := hrg1.1 1826 13 32 _ .int rfl rfl
      have g22 : -2147483648 ≤ (H1.1 1826 59) ∧ (H1.1 1826 59) ≤ 2147483647 := hrg1.1 1826 13 59 _ .int rfl rfl
      rw [show ((i : Int) + 1) = (((i + 1) : Nat) : Int) by omega]
      exact ih _ (k) (i + 1) (fr_a hf (by decide)) (by omega : (H1.1 1826 55) = (((k) : Nat) : Int) ∧ (H1.1 1826 43) = (((k) : Nat) : Int) ∧ (k) ≤ 40) (by omega : (H1.1 1826 28) = 0) (by omega : 0 ≤ (H1.1 1826 59) ∧ (H1.1 1826 59) ≤ 8000) (by omega : 0 ≤ (H1.1 1826 32) ∧ (H1.1 1826 32) ≤ 1000) (by omega) (by omega) hrt (by have h9 := cp_up hcp; rw [Nat.zero_add] at h9; exact h9) (by omega : (k) - (i + 1) < w)
set_option maxRecDepth 100000 in
theorem m_work2 {zC : Nat → Option zsh} {d : Nat} (hd : 9 ≤ d) {H : hp} {x : Int} (hx : -2147483648 ≤ x ∧ x ≤ 2147483647) (ht : 0 ≤ (H.1 1826 28) ∧ (H.1 1826 28) ≤ 1000) (hst : 0 ≤ (H.1 1826 32) ∧ (H.1 1826 32) ≤ 1000) (hP : PWc H) (hou : 0 ≤ (H.1 1826 59) ∧ (H.1 1826 59) ≤ 8000) : hG (zs zC) d mt_201 0 (zargs 0 [.inr (.inr 1826), .inl x]) [] H (fun r9 H2 => (∃ r0 : Int, r9 = some (.inl r0)) ∧ fr [28, 29, 30, 31, 32, 33, 34, 35, 36, 39, 40, 41, 43, 44, 47, 50, 51, 53, 55, 56, 57, 59] [1849, 1850, 1851, 1852, 1853, 1854, 1855, 1856, 1857, 1858, 1859, 1860] H H2 ∧ (H2.1 1826 28) = 0 ∧ (0 ≤ (H2.1 1826 32) ∧ (H2.1 1826 32) ≤ 1000) ∧ (0 ≤ (H2.1 1826 59) ∧ (H2.1 1826 59) ≤ 8000)) := by
  refine h_rng (fun hrg0 => ?_)
  refine h_run 0 (pc' := 0) (l' := [(0, .inr (.inr 1826)), (1, .inl x)]) (st' := []) rfl ?_
  obtain ⟨⟨pb1, pb2, pb3, pb4, pb5⟩, pw1, pw2, pw3, pw4⟩ := (id hP : PW H (H.1 1826 1) (H.1 1826 3) (H.1 1826 8) (H.1 1826 13) (H.1 1826 19))
  refine h_run 1 (pc' := 1) (l' := [(0, .inr (.inr 1826)), (1, .inl x)]) (st' := [.inl x]) rfl ?_
  refine h_zlt (off := 10) (t := 11) rfl rfl (by omega) (fun c23 => ?_) (fun c23 => ?_)
  · refine h_run 2 (pc' := 13) (l' := [(0, .inr (.inr 1826)), (1, .inl x)]) (st' := [.inl 0, .inr (.inr 1826)]) rfl ?_
    refine h_puti (i := 393) (ci := 13) (k := 28) (a := 1826) (x := 0) rfl rfl rfl rfl rfl rfl (by decide) (by decide) ?_
    refine h_run 1 (pc' := 18) (l' := [(0, .inr (.inr 1826)), (1, .inl x)]) (st' := [.inl (-102)]) rfl ?_
    refine h_reti (x := (-102)) rfl rfl ?_
    have g24 : -2147483648 ≤ (H.1 1826 32) ∧ (H.1 1826 32) ≤ 2147483647 := hrg0.1 1826 13 32 _ .int rfl rfl
    have g25 : -2147483648 ≤ (H.1 1826 59) ∧ (H.1 1826 59) ≤ 2147483647 := hrg0.1 1826 13 59 _ .int rfl rfl
    exact ⟨⟨_, rfl⟩, (fr_o (fr_rf _ _ _) (by decide)), (by omega : (0 : Int) = 0), (by omega : 0 ≤ (H.1 1826 32) ∧ (H.1 1826 32) ≤ 1000), (by omega : 0 ≤ (H.1 1826 59) ∧ (H.1 1826 59) ≤ 8000)⟩
  · refine h_run 2 (pc' := 8) (l' := [(0, .inr (.inr 1826)), (1, .inl x)]) (st' := [.inl 2000, .inl x]) rfl ?_
    refine h_ile (off := 11) (t := 19) rfl rfl (by omega) (by decide) (fun c26 => ?_) (fun c26 => ?_)
    · refine h_run 1 (pc' := 20) (l' := [(0, .inr (.inr 1826)), (1, .inl x)]) (st' := [.inr (.inr 1826)]) rfl ?_
      have g27 : -2147483648 ≤ (H.1 1826 28) ∧ (H.1 1826 28) ≤ 2147483647 := hrg0.1 1826 13 28 _ .int rfl rfl
      have g28 : -2147483648 ≤ (H.1 1826 32) ∧ (H.1 1826 32) ≤ 2147483647 := hrg0.1 1826 13 32 _ .int rfl rfl
      refine h_cv (i := 396) (j := 191) (b := 1826) (M' := mt_191) (xs := []) (rest := []) rfl rfl rfl rfl rfl rfl (Nat.le_of_ble_eq_true rfl) (Nat.le_of_ble_eq_true rfl) (by omega) (m_openTape (by omega) (by omega : 0 ≤ (H.1 1826 28) ∧ (H.1 1826 28) ≤ 1000) (by omega : 0 ≤ (H.1 1826 32) ∧ (H.1 1826 32) ≤ 1000)) ?_
      rintro _ H29 ⟨rfl, hx29f, hx29t, hx29a, hx29c, hx29e⟩
      refine h_rng (fun hrg30 => ?_)
      have hf31 : fr [28, 29, 30, 31, 32, 33, 34, 35, 36, 39, 40, 41, 43, 44, 47, 50, 51, 53, 55, 56, 57, 59] [1849, 1850, 1851, 1852, 1853, 1854, 1855, 1856, 1857, 1858, 1859, 1860] H H29 := fr_t (fr_rf _ _ _) hx29f (by decide) (by decide)
      replace hx29t : (H29.1 1826 28) = 0 ∧ (H29.1 1826 29) = (H.1 1826 28) := hx29t
      refine h_run 0 (pc' := 23) (l' := [(0, .inr (.inr 1826)), (1, .inl x)]) (st' := []) rfl ?_
      refine h_run 1 (pc' := 24) (l' := [(0, .inr (.inr 1826)), (1, .inl x)]) (st' := [.inr (.inr 1826)]) rfl ?_
      refine h_cv (i := 379) (j := 185) (b := 1826) (M' := mt_185) (xs := []) (rest := []) rfl rfl rfl rfl rfl rfl (Nat.le_of_ble_eq_true rfl) (Nat.le_of_ble_eq_true rfl) (by omega) (m_beginTerm (by omega)) ?_
      rintro _ _ ⟨rfl, rfl⟩
      refine h_run 0 (pc' := 27) (l' := [(0, .inr (.inr 1826)), (1, .inl x)]) (st' := []) rfl ?_
      refine h_run 2 (pc' := 29) (l' := [(0, .inr (.inr 1826)), (1, .inl x)]) (st' := [.inl 3, .inr (.inr 1826)]) rfl ?_
      refine h_puti (i := 367) (ci := 13) (k := 44) (a := 1826) (x := 3) rfl rfl rfl rfl rfl rfl (by decide) (by decide) ?_
      refine h_run 1 (pc' := 33) (l' := [(0, .inr (.inr 1826)), (1, .inl x)]) (st' := [.inr (.inr 1826)]) rfl ?_
      have g32 : -2147483648 ≤ (H29.1 1826 35) ∧ (H29.1 1826 35) ≤ 2147483647 := hrg30.1 1826 13 35 _ .int rfl rfl
      refine h_cv (i := 293) (j := 158) (b := 1826) (M' := mt_158) (xs := []) (rest := []) rfl rfl rfl rfl rfl rfl (Nat.le_of_ble_eq_true rfl) (Nat.le_of_ble_eq_true rfl) (by omega) (m_good (by omega)) ?_
      rintro _ _ ⟨⟨rfl, b33⟩ | ⟨rfl, b33⟩, rfl⟩
      · have b33x : (H29.1 1826 35) = 0 := b33
        refine h_run 0 (pc' := 36) (l' := [(0, .inr (.inr 1826)), (1, .inl x)]) (st' := [.inl 1]) rfl ?_
        refine h_zeq (off := 9) (t := 45) rfl rfl (by decide) (fun c => absurd c (by decide)) (fun _ => ?_)
        refine h_run 2 (pc' := 41) (l' := [(0, .inr (.inr 1826)), (1, .inl x)]) (st' := [.inl (-1), .inr (.inr 1826)]) rfl ?_
        have g34 : -2147483648 ≤ (H29.1 1826 30) ∧ (H29.1 1826 30) ≤ 2147483647 := hrg30.1 1826 13 30 _ .int rfl rfl
        have g35 : -2147483648 ≤ (H29.1 1826 29) ∧ (H29.1 1826 29) ≤ 2147483647 := hrg30.1 1826 13 29 _ .int rfl rfl
        have g36 : -2147483648 ≤ (H29.1 1826 1) ∧ (H29.1 1826 1) ≤ 2147483647 := hrg30.1 1826 13 1 _ .int rfl rfl
        have e37 : (H29.1 1826 1) = (H.1 1826 1) := hx29f.2.2 1 (by decide)
        have g39 : -2147483648 ≤ (H29.1 1826 32) ∧ (H29.1 1826 32) ≤ 2147483647 := hrg30.1 1826 13 32 _ .int rfl rfl
        refine h_cv (i := 385) (j := 180) (b := 1826) (M' := mt_180) (xs := [.inl (-1)]) (rest := []) rfl rfl rfl rfl rfl rfl (Nat.le_of_ble_eq_true rfl) (Nat.le_of_ble_eq_true rfl) (by omega) (m_term (by omega) (by omega : 0 ≤ (H29.1 1826 30) ∧ (H29.1 1826 30) ≤ (H29.1 1826 29) ∧ (H29.1 1826 29) ≤ 1000) (by omega : 0 ≤ (H29.1 1826 35) ∧ (H29.1 1826 35) ≤ 5) (by omega : 0 ≤ (H29.1 1826 32) ∧ (H29.1 1826 32) ≤ 1000) (PWc_o (PWc_o (PWc_o (PWc_o (PWc_o (PWc_fr hP hf31 (by decide) (by decide)) (by decide)) (by decide)) (by decide)) (by decide)) (by decide)) (by omega : 1 ≤ (3 : Int) ∧ (3 : Int) ≤ 3) (by omega : -1 ≤ (-1 : Int) ∧ (-1 : Int) < (H29.1 1826 1)) (by omega : 0 ≤ (0 : Int) ∧ (0 : Int) ≤ 10) (fun _ => ⟨rfl, rfl, rfl, (by omega : 0 ≤ (0 : Int) ∧ (0 : Int) ≤ 39 ∧ ((3 : Int) = 2 → (0 : Int) ≤ 6)), fun (q9 : (3 : Int) = 2) => absurd q9 (by decide)⟩)) ?_
        rintro _ H38 ⟨⟨hx38r, rfl, hx38x, hx38y⟩, hx38f, hx38a, hx38c, -, hx38e, hx38v, hx38p⟩
        refine h_rng (fun hrg40 => ?_)
        have hf41 : fr [28, 29, 30, 31, 32, 33, 34, 35, 36, 39, 40, 41, 43, 44, 47, 50, 51, 53, 55, 56, 57, 59] [1849, 1850, 1851, 1852, 1853, 1854, 1855, 1856, 1857, 1858, 1859, 1860] H H38 := fr_t (fr_o (fr_o (fr_o (fr_o (fr_o hf31 (by decide)) (by decide)) (by decide)) (by decide)) (by decide)) hx38f (by decide) (by decide)
        replace hx38y : hx38r < (H29.1 1826 1) := hx38y
        replace hx38a : (H29.1 1826 30) ≤ (H38.1 1826 30) ∧ (H38.1 1826 30) ≤ (H29.1 1826 29) := hx38a
        replace hx38v : ((3 : Int) ≠ 2 → (H38.1 1826 39) = (0 : Int)) ∧ (0 : Int) ≤ (H38.1 1826 39) := hx38v
        have hx38k : (H38.1 1826 35) = 0 → 0 ≤ (H38.1 1826 43) ∧ (H38.1 1826 43) ≤ 40 := fun q9 => by obtain ⟨⟨k9, h9, h8, -⟩, -⟩ := hx38p q9; omega
        have hx38w : (H38.1 1826 35) = 0 → 0 ≤ (H38.1 1826 39) ∧ (H38.1 1826 39) ≤ 39 ∧ ((H38.1 1826 44) = 2 → (H38.1 1826 39) ≤ 6) := fun q9 => (TT_vars (hx38p q9).2).1
        refine h_run 0 (pc' := 44) (l' := [(0, .inr (.inr 1826)), (1, .inl x)]) (st' := [.inl hx38r]) rfl ?_
        refine h_run 2 (pc' := 46) (l' := [(0, .inr (.inr 1826)), (1, .inl x)]) (st' := [.inr (.inr 1826)]) rfl ?_
        have g42 : -2147483648 ≤ (H38.1 1826 35) ∧ (H38.1 1826 35) ≤ 2147483647 := hrg40.1 1826 13 35 _ .int rfl rfl
        refine h_cv (i := 293) (j := 158) (b := 1826) (M' := mt_158) (xs := []) (rest := []) rfl rfl rfl rfl rfl rfl (Nat.le_of_ble_eq_true rfl) (Nat.le_of_ble_eq_true rfl) (by omega) (m_good (by omega)) ?_
        rintro _ _ ⟨⟨rfl, b43⟩ | ⟨rfl, b43⟩, rfl⟩
        · have b43x : (H38.1 1826 35) = 0 := b43
          replace hx38k := hx38k b43x
          replace hx38w := hx38w b43x
          refine h_run 0 (pc' := 49) (l' := [(0, .inr (.inr 1826)), (1, .inl x)]) (st' := [.inl 1]) rfl ?_
          refine h_zeq (off := 15) (t := 64) rfl rfl (by decide) (fun c => absurd c (by decide)) (fun _ => ?_)
          refine h_run 2 (pc' := 56) (l' := [(0, .inr (.inr 1826)), (1, .inl x)]) (st' := [.inl (H38.1 1826 31)]) rfl ?_
          have g44 : -2147483648 ≤ (H38.1 1826 31) ∧ (H38.1 1826 31) ≤ 2147483647 := hrg40.1 1826 13 31 _ .int rfl rfl
          refine h_zeq (off := 8) (t := 64) rfl rfl (by omega) (fun c45 => ?_) (fun c45 => ?_)
          · refine h_run 1 (pc' := 65) (l' := [(0, .inr (.inr 1826)), (1, .inl x)]) (st' := [.inr (.inr 1826)]) rfl ?_
            refine h_cv (i := 293) (j := 158) (b := 1826) (M' := mt_158) (xs := []) (rest := []) rfl rfl rfl rfl rfl rfl (Nat.le_of_ble_eq_true rfl) (Nat.le_of_ble_eq_true rfl) (by omega) (m_good1 (by omega) (by omega : (H38.1 1826 35) = 0)) ?_
            rintro _ _ ⟨rfl, rfl⟩
            refine h_run 0 (pc' := 68) (l' := [(0, .inr (.inr 1826)), (1, .inl x)]) (st' := [.inl 1]) rfl ?_
            refine h_zne (off := 20) (t := 88) rfl rfl (by decide) (fun _ => ?_) (fun c => absurd c (by decide))
            have g46 : -2147483648 ≤ (H38.1 1826 39) ∧ (H38.1 1826 39) ≤ 2147483647 := hrg40.1 1826 13 39 _ .int rfl rfl
            have g47 : -2147483648 ≤ (H38.1 1826 43) ∧ (H38.1 1826 43) ≤ 2147483647 := hrg40.1 1826 13 43 _ .int rfl rfl
            have g48 : -2147483648 ≤ (H38.1 1826 3) ∧ (H38.1 1826 3) ≤ 2147483647 := hrg40.1 1826 13 3 _ .int rfl rfl
            have e49 : (H38.1 1826 3) = (H29.1 1826 3) := hx38f.2.2 3 (by decide)
            have e50 : (H29.1 1826 3) = (H.1 1826 3) := hx29f.2.2 3 (by decide)
            have g51 : -2147483648 ≤ (H38.1 1826 8) ∧ (H38.1 1826 8) ≤ 2147483647 := hrg40.1 1826 13 8 _ .int rfl rfl
            have e52 : (H38.1 1826 8) = (H29.1 1826 8) := hx38f.2.2 8 (by decide)
            have e53 : (H29.1 1826 8) = (H.1 1826 8) := hx29f.2.2 8 (by decide)
            obtain ⟨⟨k, hk1, hk2, hk3⟩, -⟩ := hx38p (by omega)
            have hv0 : (H38.1 1826 39) = 0 := hx38v.1 (by decide)
            rw [hv0, show (H38.1 1833) = (H.1 1833) from hf41.2.1 1833 (by decide) (by decide), show (H38.1 1830) = (H.1 1830) from hf41.2.1 1830 (by decide) (by decide), show (H38.1 1826 3) = (H.1 1826 3) from hf41.2.2 3 (by decide), show (H38.1 1826 8) = (H.1 1826 8) from hf41.2.2 8 (by decide)] at hk3
            refine h_run 3 (pc' := 93) (l' := [(0, .inr (.inr 1826)), (1, .inl x)]) (st' := [.inl (H38.1 1826 43), .inr (.inr 1826)]) rfl ?_
            refine h_puti (i := 447) (ci := 13) (k := 55) (a := 1826) (x := (H38.1 1826 43)) rfl rfl rfl rfl rfl rfl (by decide) (by omega) ?_
            refine h_run 2 (pc' := 98) (l' := [(0, .inr (.inr 1826)), (1, .inl x), (2, .inl 0)]) (st' := []) rfl ?_
            have g54 : -2147483648 ≤ (H38.1 1826 28) ∧ (H38.1 1826 28) ≤ 2147483647 := hrg40.1 1826 13 28 _ .int rfl rfl
            have e55 : (H38.1 1826 28) = (H29.1 1826 28) := hx38f.2.2 28 (by decide)
            have g56 : -2147483648 ≤ (H38.1 1826 32) ∧ (H38.1 1826 32) ≤ 2147483647 := hrg40.1 1826 13 32 _ .int rfl rfl
            have g57 : -2147483648 ≤ (H38.1 1826 59) ∧ (H38.1 1826 59) ≤ 2147483647 := hrg40.1 1826 13 59 _ .int rfl rfl
            have e58 : (H38.1 1826 59) = (H29.1 1826 59) := hx38f.2.2 59 (by decide)
            have e59 : (H29.1 1826 59) = (H.1 1826 59) := hx29f.2.2 59 (by decide)
            exact (m_work2_cut hd hx ht hst hP hou _) _ (k) 0 (fr_o hf41 (by decide)) (by omega : (H38.1 1826 43) = (((k) : Nat) : Int) ∧ (H38.1 1826 43) = (((k) : Nat) : Int) ∧ (k) ≤ 40) (by omega : (H38.1 1826 28) = 0) (by omega : 0 ≤ (H38.1 1826 59) ∧ (H38.1 1826 59) ≤ 8000) (by omega : 0 ≤ (H38.1 1826 32) ∧ (H38.1 1826 32) ≤ 1000) (by omega) (by omega) hk3 (fun x hx => absurd hx (Nat.not_lt_zero _)) (Nat.lt_succ_self _)
          · refine h_run 2 (pc' := 61) (l' := [(0, .inr (.inr 1826)), (1, .inl x)]) (st' := [.inl 2, .inr (.inr 1826)]) rfl ?_
            refine h_cv (i := 278) (j := 159) (b := 1826) (M' := mt_159) (xs := [.inl 2]) (rest := []) rfl rfl rfl rfl rfl rfl (Nat.le_of_ble_eq_true rfl) (Nat.le_of_ble_eq_true rfl) (by omega) (m_bad0 (by omega) (by omega) (by omega : (H38.1 1826 35) = 0)) ?_
            rintro _ _ ⟨rfl, rfl⟩
            refine h_run 0 (pc' := 64) (l' := [(0, .inr (.inr 1826)), (1, .inl x)]) (st' := []) rfl ?_
            refine h_run 1 (pc' := 65) (l' := [(0, .inr (.inr 1826)), (1, .inl x)]) (st' := [.inr (.inr 1826)]) rfl ?_
            refine h_cv (i := 293) (j := 158) (b := 1826) (M' := mt_158) (xs := []) (rest := []) rfl rfl rfl rfl rfl rfl (Nat.le_of_ble_eq_true rfl) (Nat.le_of_ble_eq_true rfl) (by omega) (m_good0 (by omega) (by omega : (2 : Int) ≠ 0)) ?_
            rintro _ _ ⟨rfl, rfl⟩
            refine h_run 0 (pc' := 68) (l' := [(0, .inr (.inr 1826)), (1, .inl x)]) (st' := [.inl 0]) rfl ?_
            refine h_zne (off := 20) (t := 88) rfl rfl (by decide) (fun c => absurd c (by decide)) (fun _ => ?_)
            refine h_run 3 (pc' := 76) (l' := [(0, .inr (.inr 1826)), (1, .inl x)]) (st' := [.inl 2, .inr (.inr 1826)]) rfl ?_
            refine h_puti (i := 411) (ci := 13) (k := 34) (a := 1826) (x := 2) rfl rfl rfl rfl rfl rfl (by decide) (by decide) ?_
            refine h_run 4 (pc' := 87) (l' := [(0, .inr (.inr 1826)), (1, .inl x)]) (st' := [.inl ((-1000) - (H38.1 1826 32))]) rfl ?_
            refine h_reti (x := ((-1000) - (H38.1 1826 32))) rfl rfl ?_
            have g60 : -2147483648 ≤ (H38.1 1826 28) ∧ (H38.1 1826 28) ≤ 2147483647 := hrg40.1 1826 13 28 _ .int rfl rfl
            have e61 : (H38.1 1826 28) = (H29.1 1826 28) := hx38f.2.2 28 (by decide)
            have g62 : -2147483648 ≤ (H38.1 1826 32) ∧ (H38.1 1826 32) ≤ 2147483647 := hrg40.1 1826 13 32 _ .int rfl rfl
            have g63 : -2147483648 ≤ (H38.1 1826 59) ∧ (H38.1 1826 59) ≤ 2147483647 := hrg40.1 1826 13 59 _ .int rfl rfl
            have e64 : (H38.1 1826 59) = (H29.1 1826 59) := hx38f.2.2 59 (by decide)
            have e65 : (H29.1 1826 59) = (H.1 1826 59) := hx29f.2.2 59 (by decide)
            exact ⟨⟨_, rfl⟩, (fr_o (fr_o (fr_o hf41 (by decide)) (by decide)) (by decide)), (by omega : (H38.1 1826 28) = 0), (by omega : 0 ≤ (H38.1 1826 32) ∧ (H38.1 1826 32) ≤ 1000), (by omega : 0 ≤ (H38.1 1826 59) ∧ (H38.1 1826 59) ≤ 8000)⟩
        · have b43x : (H38.1 1826 35) ≠ 0 := b43
          clear hx38k
          clear hx38w
          refine h_run 0 (pc' := 49) (l' := [(0, .inr (.inr 1826)), (1, .inl x)]) (st' := [.inl 0]) rfl ?_
          refine h_zeq (off := 15) (t := 64) rfl rfl (by decide) (fun _ => ?_) (fun c => absurd c (by decide))
          refine h_run 1 (pc' := 65) (l' := [(0, .inr (.inr 1826)), (1, .inl x)]) (st' := [.inr (.inr 1826)]) rfl ?_
          refine h_cv (i := 293) (j := 158) (b := 1826) (M' := mt_158) (xs := []) (rest := []) rfl rfl rfl rfl rfl rfl (Nat.le_of_ble_eq_true rfl) (Nat.le_of_ble_eq_true rfl) (by omega) (m_good0 (by omega) (by omega : (H38.1 1826 35) ≠ 0)) ?_
          rintro _ _ ⟨rfl, rfl⟩
          refine h_run 0 (pc' := 68) (l' := [(0, .inr (.inr 1826)), (1, .inl x)]) (st' := [.inl 0]) rfl ?_
          refine h_zne (off := 20) (t := 88) rfl rfl (by decide) (fun c => absurd c (by decide)) (fun _ => ?_)
          refine h_run 3 (pc' := 76) (l' := [(0, .inr (.inr 1826)), (1, .inl x)]) (st' := [.inl (H38.1 1826 35), .inr (.inr 1826)]) rfl ?_
          refine h_puti (i := 411) (ci := 13) (k := 34) (a := 1826) (x := (H38.1 1826 35)) rfl rfl rfl rfl rfl rfl (by decide) (by omega) ?_
          refine h_run 3 (pc' := 86) (l' := [(0, .inr (.inr 1826)), (1, .inl x)]) (st' := [.inl (H38.1 1826 36), .inl (-1000)]) rfl ?_
          have g66 : -2147483648 ≤ (H38.1 1826 36) ∧ (H38.1 1826 36) ≤ 2147483647 := hrg40.1 1826 13 36 _ .int rfl rfl
          refine h_run 1 (pc' := 87) (l' := [(0, .inr (.inr 1826)), (1, .inl x)]) (st' := [.inl ((-1000) - (H38.1 1826 36))]) rfl ?_
          refine h_reti (x := ((-1000) - (H38.1 1826 36))) rfl rfl ?_
          have g67 : -2147483648 ≤ (H38.1 1826 28) ∧ (H38.1 1826 28) ≤ 2147483647 := hrg40.1 1826 13 28 _ .int rfl rfl
          have e68 : (H38.1 1826 28) = (H29.1 1826 28) := hx38f.2.2 28 (by decide)
          have g69 : -2147483648 ≤ (H38.1 1826 32) ∧ (H38.1 1826 32) ≤ 2147483647 := hrg40.1 1826 13 32 _ .int rfl rfl
          have g70 : -2147483648 ≤ (H38.1 1826 59) ∧ (H38.1 1826 59) ≤ 2147483647 := hrg40.1 1826 13 59 _ .int rfl rfl
          have e71 : (H38.1 1826 59) = (H29.1 1826 59) := hx38f.2.2 59 (by decide)
          have e72 : (H29.1 1826 59) = (H.1 1826 59) := hx29f.2.2 59 (by decide)
          exact ⟨⟨_, rfl⟩, (fr_o hf41 (by decide)), (by omega : (H38.1 1826 28) = 0), (by omega : 0 ≤ (H38.1 1826 32) ∧ (H38.1 1826 32) ≤ 1000), (by omega : 0 ≤ (H38.1 1826 59) ∧ (H38.1 1826 59) ≤ 8000)⟩
      · have b33x : (H29.1 1826 35) ≠ 0 := b33
        refine h_run 0 (pc' := 36) (l' := [(0, .inr (.inr 1826)), (1, .inl x)]) (st' := [.inl 0]) rfl ?_
        refine h_zeq (off := 9) (t := 45) rfl rfl (by decide) (fun _ => ?_) (fun c => absurd c (by decide))
        refine h_run 1 (pc' := 46) (l' := [(0, .inr (.inr 1826)), (1, .inl x)]) (st' := [.inr (.inr 1826)]) rfl ?_
        refine h_cv (i := 293) (j := 158) (b := 1826) (M' := mt_158) (xs := []) (rest := []) rfl rfl rfl rfl rfl rfl (Nat.le_of_ble_eq_true rfl) (Nat.le_of_ble_eq_true rfl) (by omega) (m_good0 (by omega) (by omega : (H29.1 1826 35) ≠ 0)) ?_
        rintro _ _ ⟨rfl, rfl⟩
        refine h_run 0 (pc' := 49) (l' := [(0, .inr (.inr 1826)), (1, .inl x)]) (st' := [.inl 0]) rfl ?_
        refine h_zeq (off := 15) (t := 64) rfl rfl (by decide) (fun _ => ?_) (fun c => absurd c (by decide))
        refine h_run 1 (pc' := 65) (l' := [(0, .inr (.inr 1826)), (1, .inl x)]) (st' := [.inr (.inr 1826)]) rfl ?_
        refine h_cv (i := 293) (j := 158) (b := 1826) (M' := mt_158) (xs := []) (rest := []) rfl rfl rfl rfl rfl rfl (Nat.le_of_ble_eq_true rfl) (Nat.le_of_ble_eq_true rfl) (by omega) (m_good0 (by omega) (by omega : (H29.1 1826 35) ≠ 0)) ?_
        rintro _ _ ⟨rfl, rfl⟩
        refine h_run 0 (pc' := 68) (l' := [(0, .inr (.inr 1826)), (1, .inl x)]) (st' := [.inl 0]) rfl ?_
        refine h_zne (off := 20) (t := 88) rfl rfl (by decide) (fun c => absurd c (by decide)) (fun _ => ?_)
        refine h_run 3 (pc' := 76) (l' := [(0, .inr (.inr 1826)), (1, .inl x)]) (st' := [.inl (H29.1 1826 35), .inr (.inr 1826)]) rfl ?_
        refine h_puti (i := 411) (ci := 13) (k := 34) (a := 1826) (x := (H29.1 1826 35)) rfl rfl rfl rfl rfl rfl (by decide) (by omega) ?_
        refine h_run 3 (pc' := 86) (l' := [(0, .inr (.inr 1826)), (1, .inl x)]) (st' := [.inl (H29.1 1826 36), .inl (-1000)]) rfl ?_
        have g73 : -2147483648 ≤ (H29.1 1826 36) ∧ (H29.1 1826 36) ≤ 2147483647 := hrg30.1 1826 13 36 _ .int rfl rfl
        refine h_run 1 (pc' := 87) (l' := [(0, .inr (.inr 1826)), (1, .inl x)]) (st' := [.inl ((-1000) - (H29.1 1826 36))]) rfl ?_
        refine h_reti (x := ((-1000) - (H29.1 1826 36))) rfl rfl ?_
        have g74 : -2147483648 ≤ (H29.1 1826 28) ∧ (H29.1 1826 28) ≤ 2147483647 := hrg30.1 1826 13 28 _ .int rfl rfl
        have g75 : -2147483648 ≤ (H29.1 1826 32) ∧ (H29.1 1826 32) ≤ 2147483647 := hrg30.1 1826 13 32 _ .int rfl rfl
        have g76 : -2147483648 ≤ (H29.1 1826 59) ∧ (H29.1 1826 59) ≤ 2147483647 := hrg30.1 1826 13 59 _ .int rfl rfl
        have e77 : (H29.1 1826 59) = (H.1 1826 59) := hx29f.2.2 59 (by decide)
        exact ⟨⟨_, rfl⟩, (fr_o (fr_o (fr_o (fr_o (fr_o (fr_o hf31 (by decide)) (by decide)) (by decide)) (by decide)) (by decide)) (by decide)), (by omega : (H29.1 1826 28) = 0), (by omega : 0 ≤ (H29.1 1826 32) ∧ (H29.1 1826 32) ≤ 1000), (by omega : 0 ≤ (H29.1 1826 59) ∧ (H29.1 1826 59) ≤ 8000)⟩
    · refine h_run 2 (pc' := 13) (l' := [(0, .inr (.inr 1826)), (1, .inl x)]) (st' := [.inl 0, .inr (.inr 1826)]) rfl ?_
      refine h_puti (i := 393) (ci := 13) (k := 28) (a := 1826) (x := 0) rfl rfl rfl rfl rfl rfl (by decide) (by decide) ?_
      refine h_run 1 (pc' := 18) (l' := [(0, .inr (.inr 1826)), (1, .inl x)]) (st' := [.inl (-102)]) rfl ?_
      refine h_reti (x := (-102)) rfl rfl ?_
      have g78 : -2147483648 ≤ (H.1 1826 32) ∧ (H.1 1826 32) ≤ 2147483647 := hrg0.1 1826 13 32 _ .int rfl rfl
      have g79 : -2147483648 ≤ (H.1 1826 59) ∧ (H.1 1826 59) ≤ 2147483647 := hrg0.1 1826 13 59 _ .int rfl rfl
      exact ⟨⟨_, rfl⟩, (fr_o (fr_rf _ _ _) (by decide)), (by omega : (0 : Int) = 0), (by omega : 0 ≤ (H.1 1826 32) ∧ (H.1 1826 32) ≤ 1000), (by omega : 0 ≤ (H.1 1826 59) ∧ (H.1 1826 59) ≤ 8000)⟩
