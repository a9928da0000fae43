/-! the class: texts are read -/
/-! Reader.readRule -/
set_option maxRecDepth 100000 in
theorem k_Reader_readRule_cut {d : Nat} (hd : 41 ≤ d) {H : hp} (hI : Inv H)   : ∀ w : Nat, (∀ (H1 : hp), Inv H1 → fq [(7, 5), (361, 3), (361, 4), (361, 5), (361, 6), (361, 7), (361, 8), (361, 9)] [362] true H H1 → ∀ (x1 : Int) (x2 : Int) (x3 : Int) (x4 : Int) , (-2147483648 ≤ x1 ∧ x1 ≤ 2147483647) → (-2147483648 ≤ x2 ∧ x2 ≤ 2147483647) → (-2147483648 ≤ x3 ∧ x3 ≤ 2147483647) → (-2147483648 ≤ x4 ∧ x4 ≤ 2147483647) → (0 ≤ x1 ∧ x1 < 16) → (x2 ≤ 4) → (0 ≤ x3 ∧ x3 ≤ 1) → (0 ≤ x4) → (H1.1 7 5 < 40) → (((100 - x4).toNat) < w) → hG (zs zK) d mt_68 121 [(0, .inr (.inr 361)), (1, .inl x1), (2, .inl x2), (3, .inl x3), (4, .inl x4)] [] H1 (fun r9 H9 => ∃ z : Int, r9 = some (.inl z) ∧ ((0 ≤ z ∧ z ≤ 1)) ∧ Inv H9 ∧ fq [(7, 5), (361, 3), (361, 4), (361, 5), (361, 6), (361, 7), (361, 8), (361, 9)] [362] true H H9)) := by
  intro w
  induction w with
  | zero => exact fun _ _ _ _ _ _ _ _ _ _ _ _ _ _ _ _ h => absurd h (Nat.not_lt_zero _)
  | succ w ih =>
    intro H1 hI1 hf1 x1 x2 x3 x4 hx1 hx2 hx3 hx4 hi0 hi1 hi2 hi3 hi4 hw
    have g85 : 0 ≤ (H1.1 7 5) ∧ (H1.1 7 5) ≤ 40 := kn (x := kx_7) hI1 rfl 5
    refine k_run 1 (pc' := 122) (l' := [(0, .inr (.inr 361)), (1, .inl x1), (2, .inl x2), (3, .inl x3), (4, .inl x4)]) (st' := [.inl x3]) rfl ?_
    refine h_zeq (off := 34) (t := 156) rfl rfl (by omega) (fun c86 => ?_) (fun c86 => ?_)
    · refine k_run 0 (pc' := 156) (l' := [(0, .inr (.inr 361)), (1, .inl x1), (2, .inl x2), (3, .inl x3), (4, .inl x4)]) (st' := []) rfl ?_
      refine k_run 1 (pc' := 157) (l' := [(0, .inr (.inr 361)), (1, .inl x1), (2, .inl x2), (3, .inl x3), (4, .inl x4)]) (st' := [.inl x3]) rfl ?_
      refine h_zeq (off := 12) (t := 169) rfl rfl (by omega) (fun c87 => ?_) (fun c87 => ?_)
      · refine k_run 0 (pc' := 169) (l' := [(0, .inr (.inr 361)), (1, .inl x1), (2, .inl x2), (3, .inl x3), (4, .inl x4)]) (st' := []) rfl ?_
        refine k_run 1 (pc' := 170) (l' := [(0, .inr (.inr 361)), (1, .inl x1), (2, .inl x2), (3, .inl x3), (4, .inl x4)]) (st' := [.inl 0]) rfl ?_
        refine h_retz (x := 0) rfl rfl (by decide) ?_
        exact ⟨_, rfl, (by omega), hI1, hf1⟩
      · exfalso
        omega
    · refine k_run 0 (pc' := 125) (l' := [(0, .inr (.inr 361)), (1, .inl x1), (2, .inl x2), (3, .inl x3), (4, .inl x4)]) (st' := []) rfl ?_
      refine k_run 2 (pc' := 128) (l' := [(0, .inr (.inr 361)), (1, .inl x1), (2, .inl x2), (3, .inl x3), (4, .inl x4)]) (st' := [.inl x2, .inl x4]) rfl ?_
      refine h_ige (off := 28) (t := 156) rfl rfl (by omega) (by omega) (fun c88 => ?_) (fun c88 => ?_)
      · refine k_run 0 (pc' := 156) (l' := [(0, .inr (.inr 361)), (1, .inl x1), (2, .inl x2), (3, .inl x3), (4, .inl x4)]) (st' := []) rfl ?_
        refine k_run 1 (pc' := 157) (l' := [(0, .inr (.inr 361)), (1, .inl x1), (2, .inl x2), (3, .inl x3), (4, .inl x4)]) (st' := [.inl x3]) rfl ?_
        refine h_zeq (off := 12) (t := 169) rfl rfl (by omega) (fun c89 => ?_) (fun c89 => ?_)
        · exfalso
          omega
        · refine k_run 0 (pc' := 160) (l' := [(0, .inr (.inr 361)), (1, .inl x1), (2, .inl x2), (3, .inl x3), (4, .inl x4)]) (st' := []) rfl ?_
          refine k_run 2 (pc' := 163) (l' := [(0, .inr (.inr 361)), (1, .inl x1), (2, .inl x2), (3, .inl x3), (4, .inl x4)]) (st' := [.inl 61, .inr (.inr 361)]) rfl ?_
          refine h_cv (i := 92) (j := 82) (b := 361) (M' := mt_82) (xs := [.inl 61]) (rest := []) rfl rfl rfl rfl (zs_K (x := kx_361) rfl (by decide)) rfl (Nat.le_of_ble_eq_true rfl) (Nat.le_of_ble_eq_true rfl) (by omega) (k_Reader_take (by omega) hI1 (by decide)) ?_
          rintro _ H91 ⟨z94, rfl, g90, hI92, hq93⟩
          have hf95 : fq [(7, 5), (361, 3), (361, 4), (361, 5), (361, 6), (361, 7), (361, 8), (361, 9)] [362] true H H91 := fq_t hf1 hq93 rfl rfl rfl
          refine k_run 0 (pc' := 166) (l' := [(0, .inr (.inr 361)), (1, .inl x1), (2, .inl x2), (3, .inl x3), (4, .inl x4)]) (st' := [.inl z94]) rfl ?_
          refine h_zne (off := 5) (t := 171) rfl rfl (by omega) (fun c96 => ?_) (fun c96 => ?_)
          · refine k_run 0 (pc' := 171) (l' := [(0, .inr (.inr 361)), (1, .inl x1), (2, .inl x2), (3, .inl x3), (4, .inl x4)]) (st' := []) rfl ?_
            refine k_run 2 (pc' := 173) (l' := [(0, .inr (.inr 361)), (1, .inl x1), (2, .inl x2), (3, .inl x3), (4, .inl x4)]) (st' := [.inr (.inr 361), .inr (.inr 361)]) rfl ?_
            refine k_getr (a := 361) (x := kx_361) rfl rfl rfl (by decide) rfl rfl rfl hI92 (fun h97 => ?_)
            obtain ⟨t98, et100⟩ : ∃ t9, t9 = H91.2 361 7 := ⟨_, rfl⟩
            rw [← et100] at h97 ⊢
            have k99 : isE t98 := h97
            refine k_run 0 (pc' := 176) (l' := [(0, .inr (.inr 361)), (1, .inl x1), (2, .inl x2), (3, .inl x3), (4, .inl x4)]) (st' := [.inr (.inr t98), .inr (.inr 361)]) rfl ?_
            refine k_get (a := t98) (x := (kEo t98)) (v := .inr (.inr (t98 + 3))) rfl rfl k99.1 (iE0 k99) rfl rfl rfl ?_
            refine k_run 0 (pc' := 179) (l' := [(0, .inr (.inr 361)), (1, .inl x1), (2, .inl x2), (3, .inl x3), (4, .inl x4)]) (st' := [.inr (.inr (t98 + 3)), .inr (.inr 361)]) rfl ?_
            refine h_cv (i := 105) (j := 81) (b := 361) (M' := mt_81) (xs := [.inr (.inr (t98 + 3))]) (rest := []) rfl rfl rfl rfl (zs_K (x := kx_361) rfl (by decide)) rfl (Nat.le_of_ble_eq_true rfl) (Nat.le_of_ble_eq_true rfl) (by omega) (k_Reader_startTerm (by omega) hI92 (iEr k99)) ?_
            rintro _ H102 ⟨rfl, hI103, hq104⟩
            have hf105 : fq [(7, 5), (361, 3), (361, 4), (361, 5), (361, 6), (361, 7), (361, 8), (361, 9)] [362] true H H102 := fq_t hf95 hq104 rfl rfl rfl
            refine k_run 0 (pc' := 182) (l' := [(0, .inr (.inr 361)), (1, .inl x1), (2, .inl x2), (3, .inl x3), (4, .inl x4)]) (st' := []) rfl ?_
            refine k_run 6 (pc' := 194) (l' := [(0, .inr (.inr 361)), (1, .inl x1), (2, .inl x2), (3, .inl x3), (4, .inl x4)]) (st' := [.inl x1, .inr (.inr 20), .inr (.inr 361)]) rfl ?_
            refine k_ild (c := 20) (j := (x1).toNat) (i := x1) (x := kx_20) rfl rfl (by decide) rfl (by decide) (by omega) (by omega) ?_
            have g106 : -2 ≤ (H102.1 20 (x1).toNat) ∧ (H102.1 20 (x1).toNat) ≤ 100 := kn (x := kx_20) hI103 rfl (x1).toNat
            have e107 : (H102.1 20 (x1).toNat) = (H91.1 20 (x1).toNat) := (hq104.1 20 (x1).toNat rfl (by decide) (fun q => by simp at q)).1
            have e108 : (H91.1 20 (x1).toNat) = (H1.1 20 (x1).toNat) := (hq93.1 20 (x1).toNat rfl (by decide) (fun q => by simp at q)).1
            have e109 : (H1.1 20 (x1).toNat) = (H.1 20 (x1).toNat) := (hf1.1 20 (x1).toNat rfl (by decide) (fun q => by simp at q)).1
            refine k_run 0 (pc' := 195) (l' := [(0, .inr (.inr 361)), (1, .inl x1), (2, .inl x2), (3, .inl x3), (4, .inl x4)]) (st' := [.inl (H102.1 20 (x1).toNat), .inr (.inr 361)]) rfl ?_
            refine k_run 2 (pc' := 197) (l' := [(0, .inr (.inr 361)), (1, .inl x1), (2, .inl x2), (3, .inl x3), (4, .inl x4)]) (st' := [.inl 0, .inl 0, .inl (H102.1 20 (x1).toNat), .inr (.inr 361)]) rfl ?_
            refine h_cv (i := 109) (j := 73) (b := 361) (M' := mt_73) (xs := [.inl 0, .inl 0, .inl (H102.1 20 (x1).toNat)]) (rest := []) rfl rfl rfl rfl (zs_K (x := kx_361) rfl (by decide)) rfl (Nat.le_of_ble_eq_true rfl) (Nat.le_of_ble_eq_true rfl) (by omega) (k_Reader_readTerm (by omega) hI103 (by omega) (by decide) (by decide) (by omega)) ?_
            rintro _ H111 ⟨z114, rfl, g110, hI112, hq113⟩
            have hf115 : fq [(7, 5), (361, 3), (361, 4), (361, 5), (361, 6), (361, 7), (361, 8), (361, 9)] [362] true H H111 := fq_t hf105 hq113 rfl rfl rfl
            refine k_run 0 (pc' := 200) (l' := [(0, .inr (.inr 361)), (1, .inl x1), (2, .inl x2), (3, .inl x3), (4, .inl x4)]) (st' := [.inl z114]) rfl ?_
            refine h_zne (off := 5) (t := 205) rfl rfl (by omega) (fun c116 => ?_) (fun c116 => ?_)
            · refine k_run 0 (pc' := 205) (l' := [(0, .inr (.inr 361)), (1, .inl x1), (2, .inl x2), (3, .inl x3), (4, .inl x4)]) (st' := []) rfl ?_
              refine k_run 1 (pc' := 206) (l' := [(0, .inr (.inr 361)), (1, .inl x1), (2, .inl x2), (3, .inl x3), (4, .inl x4)]) (st' := [.inr (.inr 361)]) rfl ?_
              refine k_getr (a := 361) (x := kx_361) rfl rfl rfl (by decide) rfl rfl rfl hI112 (fun h117 => ?_)
              obtain ⟨t118, et120⟩ : ∃ t9, t9 = H111.2 361 7 := ⟨_, rfl⟩
              rw [← et120] at h117 ⊢
              have k119 : isE t118 := h117
              refine k_run 0 (pc' := 209) (l' := [(0, .inr (.inr 361)), (1, .inl x1), (2, .inl x2), (3, .inl x3), (4, .inl x4)]) (st' := [.inr (.inr t118)]) rfl ?_
              refine k_run 2 (pc' := 213) (l' := [(0, .inr (.inr 361)), (1, .inl x1), (2, .inl x2), (3, .inl x3), (4, .inl x4)]) (st' := [.inl (H111.1 361 9), .inr (.inr t118)]) rfl ?_
              have g121 : 0 ≤ (H111.1 361 9) ∧ (H111.1 361 9) ≤ 40 := kn (x := kx_361) hI112 rfl 9
              refine k_puti (z := (H111.1 361 9)) (a := t118) (x := (kEo t118)) rfl rfl k119.1 (iE0 k119) k119.2.2.2.2.1 rfl rfl rfl rfl hI112 (by omega) (show 0 ≤ (H111.1 361 9) ∧ (H111.1 361 9) ≤ 40 by omega) (fun H122 hI123 hw124 hv125 => ?_)
              have hf126 : fq [(7, 5), (361, 3), (361, 4), (361, 5), (361, 6), (361, 7), (361, 8), (361, 9)] [362] true H H122 := fq_w hf115 hw124 (fpg (iEf k119))
              refine k_run 0 (pc' := 216) (l' := [(0, .inr (.inr 361)), (1, .inl x1), (2, .inl x2), (3, .inl x3), (4, .inl x4)]) (st' := []) rfl ?_
              refine k_run 4 (pc' := 224) (l' := [(0, .inr (.inr 361)), (1, .inl x1), (2, .inl x2), (3, .inl x3), (4, .inl x4)]) (st' := [.inl (H122.1 7 5), .inr (.inr 7)]) rfl ?_
              have g127 : 0 ≤ (H122.1 7 5) ∧ (H122.1 7 5) ≤ 40 := kn (x := kx_7) hI123 rfl 5
              have e128 : (H122.1 7 5) = (H111.1 7 5) := hw124.2 _ _ (fun q => by have h9 := (iEf k119); rw [← q.1] at h9; exact absurd h9 (by decide))
              have e129 : (H111.1 7 5) = (H102.1 7 5) := (hq113.1 7 5 rfl (by decide) (by decide)).1
              have e130 : (H102.1 7 5) = (H91.1 7 5) := (hq104.1 7 5 rfl (by decide) (by decide)).1
              have e131 : (H91.1 7 5) = (H1.1 7 5) := (hq93.1 7 5 rfl (by decide) (by decide)).1
              refine k_run 2 (pc' := 226) (l' := [(0, .inr (.inr 361)), (1, .inl x1), (2, .inl x2), (3, .inl x3), (4, .inl x4)]) (st' := [.inl ((H122.1 7 5) + 1), .inr (.inr 7)]) rfl ?_
              refine k_puti (z := ((H122.1 7 5) + 1)) (a := 7) (x := kx_7) rfl rfl rfl (by decide) (by decide) rfl rfl rfl rfl hI123 (by omega) (show 0 ≤ ((H122.1 7 5) + 1) ∧ ((H122.1 7 5) + 1) ≤ 40 by omega) (fun H132 hI133 hw134 hv135 => ?_)
              have hf136 : fq [(7, 5), (361, 3), (361, 4), (361, 5), (361, 6), (361, 7), (361, 8), (361, 9)] [362] true H H132 := fq_w hf126 hw134 (fpo (by decide) rfl)
              refine k_run 0 (pc' := 229) (l' := [(0, .inr (.inr 361)), (1, .inl x1), (2, .inl x2), (3, .inl x3), (4, .inl x4)]) (st' := []) rfl ?_
              refine k_run 1 (pc' := 230) (l' := [(0, .inr (.inr 361)), (1, .inl x1), (2, .inl x2), (3, .inl x3), (4, .inl x4)]) (st' := [.inl 1]) rfl ?_
              refine h_retz (x := 1) rfl rfl (by decide) ?_
              exact ⟨_, rfl, (by omega), hI133, hf136⟩
            · refine k_run 0 (pc' := 203) (l' := [(0, .inr (.inr 361)), (1, .inl x1), (2, .inl x2), (3, .inl x3), (4, .inl x4)]) (st' := []) rfl ?_
              refine k_run 1 (pc' := 204) (l' := [(0, .inr (.inr 361)), (1, .inl x1), (2, .inl x2), (3, .inl x3), (4, .inl x4)]) (st' := [.inl 0]) rfl ?_
              refine h_retz (x := 0) rfl rfl (by decide) ?_
              exact ⟨_, rfl, (by omega), hI112, hf115⟩
          · refine k_run 0 (pc' := 169) (l' := [(0, .inr (.inr 361)), (1, .inl x1), (2, .inl x2), (3, .inl x3), (4, .inl x4)]) (st' := []) rfl ?_
            refine k_run 1 (pc' := 170) (l' := [(0, .inr (.inr 361)), (1, .inl x1), (2, .inl x2), (3, .inl x3), (4, .inl x4)]) (st' := [.inl 0]) rfl ?_
            refine h_retz (x := 0) rfl rfl (by decide) ?_
            exact ⟨_, rfl, (by omega), hI92, hf95⟩
      · refine k_run 0 (pc' := 131) (l' := [(0, .inr (.inr 361)), (1, .inl x1), (2, .inl x2), (3, .inl x3), (4, .inl x4)]) (st' := []) rfl ?_
        refine k_run 6 (pc' := 142) (l' := [(0, .inr (.inr 361)), (1, .inl x1), (2, .inl x2), (3, .inl x3), (4, .inl x4)]) (st' := [.inl x4, .inl x1, .inr (.inr 18), .inr (.inr 361)]) rfl ?_
        refine h_cv (i := 160) (j := 45) (b := 18) (M' := mt_45) (xs := [.inl x4, .inl x1]) (rest := [.inr (.inr 361)]) rfl rfl rfl rfl (zs_K (x := kx_18) rfl (by decide)) rfl (Nat.le_of_ble_eq_true rfl) (Nat.le_of_ble_eq_true rfl) (by omega) (k_Symbols_argument_18 (by omega) hI1 (by omega) (by omega) (by omega)) ?_
        rintro _ _ ⟨z141, rfl, g137, rfl⟩
        refine k_run 0 (pc' := 145) (l' := [(0, .inr (.inr 361)), (1, .inl x1), (2, .inl x2), (3, .inl x3), (4, .inl x4)]) (st' := [.inl z141, .inr (.inr 361)]) rfl ?_
        refine k_run 1 (pc' := 146) (l' := [(0, .inr (.inr 361)), (1, .inl x1), (2, .inl x2), (3, .inl x3), (4, .inl x4)]) (st' := [.inl 0, .inl z141, .inr (.inr 361)]) rfl ?_
        refine h_cv (i := 164) (j := 70) (b := 361) (M' := mt_70) (xs := [.inl 0, .inl z141]) (rest := []) rfl rfl rfl rfl (zs_K (x := kx_361) rfl (by decide)) rfl (Nat.le_of_ble_eq_true rfl) (Nat.le_of_ble_eq_true rfl) (by omega) (k_Reader_readPattern (by omega) hI1 (by omega) (by decide) (by omega)) ?_
        rintro _ H143 ⟨z146, rfl, g142, hI144, hq145⟩
        have hf147 : fq [(7, 5), (361, 3), (361, 4), (361, 5), (361, 6), (361, 7), (361, 8), (361, 9)] [362] true H H143 := fq_t hf1 hq145 rfl rfl rfl
        refine k_run 0 (pc' := 149) (l' := [(0, .inr (.inr 361)), (1, .inl x1), (2, .inl x2), (3, .inl x3), (4, .inl x4)]) (st' := [.inl z146]) rfl ?_
        refine k_run 3 (pc' := 121) (l' := [(0, .inr (.inr 361)), (1, .inl x1), (2, .inl x2), (3, .inl z146), (4, .inl (x4 + 1))]) (st' := []) rfl ?_
        have g148 : 0 ≤ (H143.1 7 5) ∧ (H143.1 7 5) ≤ 40 := kn (x := kx_7) hI144 rfl 5
        have e149 : (H143.1 7 5) = (H1.1 7 5) := (hq145.1 7 5 rfl (by decide) (by decide)).1
        exact ih H143 hI144 hf147 x1 x2 z146 (x4 + 1) (by omega) (by omega) (by omega) (by omega) (by omega) (by omega) (by omega) (by omega) (by omega) (by omega)
set_option maxRecDepth 100000 in
theorem k_Reader_readRule {d : Nat} (hd : 41 ≤ d) {H : hp} (hI : Inv H)   : hG (zs zK) d mt_68 0 (zargs 0 [.inr (.inr 361)]) [] H (fun r9 H9 => ∃ z : Int, r9 = some (.inl z) ∧ ((0 ≤ z ∧ z ≤ 1)) ∧ Inv H9 ∧ fq [(7, 5), (361, 3), (361, 4), (361, 5), (361, 6), (361, 7), (361, 8), (361, 9)] [362] true H H9) := by
  refine k_run 0 (pc' := 0) (l' := [(0, .inr (.inr 361))]) (st' := []) rfl ?_
  refine k_run 3 (pc' := 7) (l' := [(0, .inr (.inr 361))]) (st' := [.inl (H.1 7 5)]) rfl ?_
  have g1 : 0 ≤ (H.1 7 5) ∧ (H.1 7 5) ≤ 40 := kn (x := kx_7) hI rfl 5
  refine k_run 1 (pc' := 9) (l' := [(0, .inr (.inr 361))]) (st' := [.inl 40, .inl (H.1 7 5)]) rfl ?_
  refine h_ilt (off := 9) (t := 18) rfl rfl (by omega) (by decide) (fun c2 => ?_) (fun c2 => ?_)
  · refine k_run 0 (pc' := 18) (l' := [(0, .inr (.inr 361))]) (st' := []) rfl ?_
    refine k_run 3 (pc' := 23) (l' := [(0, .inr (.inr 361))]) (st' := [.inl (H.1 361 3), .inr (.inr 361)]) rfl ?_
    have g3 : -2147483648 ≤ (H.1 361 3) ∧ (H.1 361 3) ≤ 2147483647 := kn (x := kx_361) hI rfl 3
    refine k_run 2 (pc' := 25) (l' := [(0, .inr (.inr 361))]) (st' := [.inl ((H.1 361 3) + 1), .inr (.inr 361)]) rfl ?_
    refine k_putw (a := 361) (x := kx_361) rfl rfl rfl (by decide) (by decide) rfl rfl rfl rfl hI rfl (fun H4 hI5 hw6 => ?_)
    have hf8 : fq [(7, 5), (361, 3), (361, 4), (361, 5), (361, 6), (361, 7), (361, 8), (361, 9)] [362] true H H4 := fq_w (fq_rf _ _ _ _) hw6 (fpo (by decide) rfl)
    refine k_run 0 (pc' := 28) (l' := [(0, .inr (.inr 361))]) (st' := []) rfl ?_
    refine k_run 1 (pc' := 29) (l' := [(0, .inr (.inr 361))]) (st' := [.inr (.inr 361)]) rfl ?_
    refine h_cv (i := 72) (j := 83) (b := 361) (M' := mt_83) (xs := []) (rest := []) rfl rfl rfl rfl (zs_K (x := kx_361) rfl (by decide)) rfl (Nat.le_of_ble_eq_true rfl) (Nat.le_of_ble_eq_true rfl) (by omega) (k_Reader_token (by omega) hI5 ) ?_
    rintro _ _ ⟨z13, rfl, g9, rfl⟩
    refine k_run 0 (pc' := 32) (l' := [(0, .inr (.inr 361))]) (st' := [.inl z13]) rfl ?_
    refine k_run 1 (pc' := 33) (l' := [(0, .inr (.inr 361))]) (st' := [.inl 2, .inl z13]) rfl ?_
    refine h_ieq (off := 8) (t := 41) rfl rfl (by omega) (by decide) (fun c14 => ?_) (fun c14 => ?_)
    · refine k_run 0 (pc' := 41) (l' := [(0, .inr (.inr 361))]) (st' := []) rfl ?_
      refine k_run 4 (pc' := 49) (l' := [(0, .inr (.inr 361))]) (st' := [.inr (.inr 361), .inr (.inr 18)]) rfl ?_
      refine h_cv (i := 120) (j := 84) (b := 361) (M' := mt_84) (xs := []) (rest := [.inr (.inr 18)]) rfl rfl rfl rfl (zs_K (x := kx_361) rfl (by decide)) rfl (Nat.le_of_ble_eq_true rfl) (Nat.le_of_ble_eq_true rfl) (by omega) (k_Reader_name (by omega) hI5 ) ?_
      rintro _ _ ⟨z19, rfl, g15, rfl⟩
      refine k_run 0 (pc' := 52) (l' := [(0, .inr (.inr 361))]) (st' := [.inr (.inl z19), .inr (.inr 18)]) rfl ?_
      have g20 : 0 ≤ (H4.1 18 4) ∧ (H4.1 18 4) ≤ 16 := kn (x := kx_18) hI5 rfl 4
      have e21 : (H4.1 18 4) = (H.1 18 4) := hw6.2 _ _ (fun q => absurd q.1 (by decide))
      refine h_cv (i := 124) (j := 41) (b := 18) (M' := mt_41) (xs := [.inr (.inl z19)]) (rest := []) rfl rfl rfl rfl (zs_K (x := kx_18) rfl (by decide)) rfl (Nat.le_of_ble_eq_true rfl) (Nat.le_of_ble_eq_true rfl) (by omega) (k_Symbols_find_18 (by omega) hI5 ) ?_
      rintro _ _ ⟨z26, rfl, g22, rfl⟩
      refine k_run 0 (pc' := 55) (l' := [(0, .inr (.inr 361))]) (st' := [.inl z26]) rfl ?_
      refine k_run 2 (pc' := 57) (l' := [(0, .inr (.inr 361)), (1, .inl z26)]) (st' := [.inl z26]) rfl ?_
      refine h_zge (off := 9) (t := 66) rfl rfl (by omega) (fun c27 => ?_) (fun c27 => ?_)
      · refine k_run 0 (pc' := 66) (l' := [(0, .inr (.inr 361)), (1, .inl z26)]) (st' := []) rfl ?_
        refine k_run 7 (pc' := 81) (l' := [(0, .inr (.inr 361)), (1, .inl z26)]) (st' := [.inl (H4.1 7 5), .inr (.inr 23), .inr (.inr 361)]) rfl ?_
        have g28 : 0 ≤ (H4.1 7 5) ∧ (H4.1 7 5) ≤ 40 := kn (x := kx_7) hI5 rfl 5
        have e29 : (H4.1 7 5) = (H.1 7 5) := hw6.2 _ _ (fun q => absurd q.1 (by decide))
        refine k_ald (c := 23) (j := ((H4.1 7 5)).toNat) (i := (H4.1 7 5)) (x := kx_23) rfl rfl (by decide) rfl (by decide) (by omega) (by omega) hI5 (fun h30 => ?_)
        obtain ⟨t31, et33⟩ : ∃ t9, t9 = H4.2 23 ((H4.1 7 5)).toNat := ⟨_, rfl⟩
        rw [← et33] at h30 ⊢
        have k32 : isE t31 := h30
        refine k_run 0 (pc' := 82) (l' := [(0, .inr (.inr 361)), (1, .inl z26)]) (st' := [.inr (.inr t31), .inr (.inr 361)]) rfl ?_
        refine k_run 1 (pc' := 83) (l' := [(0, .inr (.inr 361)), (1, .inl z26)]) (st' := [.inl 0, .inr (.inr t31), .inr (.inr 361)]) rfl ?_
        refine h_cv (i := 141) (j := 80) (b := 361) (M' := mt_80) (xs := [.inl 0, .inr (.inr t31)]) (rest := []) rfl rfl rfl rfl (zs_K (x := kx_361) rfl (by decide)) rfl (Nat.le_of_ble_eq_true rfl) (Nat.le_of_ble_eq_true rfl) (by omega) (k_Reader_startEquation (by omega) hI5 k32 (by decide)) ?_
        rintro _ H35 ⟨rfl, hI36, hq37⟩
        have hf38 : fq [(7, 5), (361, 3), (361, 4), (361, 5), (361, 6), (361, 7), (361, 8), (361, 9)] [362] true H H35 := fq_t hf8 hq37 rfl rfl rfl
        refine k_run 0 (pc' := 86) (l' := [(0, .inr (.inr 361)), (1, .inl z26)]) (st' := []) rfl ?_
        refine k_run 1 (pc' := 87) (l' := [(0, .inr (.inr 361)), (1, .inl z26)]) (st' := [.inr (.inr 361)]) rfl ?_
        refine k_getr (a := 361) (x := kx_361) rfl rfl rfl (by decide) rfl rfl rfl hI36 (fun h39 => ?_)
        obtain ⟨t40, et42⟩ : ∃ t9, t9 = H35.2 361 7 := ⟨_, rfl⟩
        rw [← et42] at h39 ⊢
        have k41 : isE t40 := h39
        refine k_run 0 (pc' := 90) (l' := [(0, .inr (.inr 361)), (1, .inl z26)]) (st' := [.inr (.inr t40)]) rfl ?_
        refine k_run 1 (pc' := 91) (l' := [(0, .inr (.inr 361)), (1, .inl z26)]) (st' := [.inl z26, .inr (.inr t40)]) rfl ?_
        refine k_putw (a := t40) (x := (kEo t40)) rfl rfl k41.1 (iE0 k41) k41.2.2.2.2.1 rfl rfl rfl rfl hI36 rfl (fun H43 hI44 hw45 => ?_)
        have hf47 : fq [(7, 5), (361, 3), (361, 4), (361, 5), (361, 6), (361, 7), (361, 8), (361, 9)] [362] true H H43 := fq_w hf38 hw45 (fpg (iEf k41))
        refine k_run 0 (pc' := 94) (l' := [(0, .inr (.inr 361)), (1, .inl z26)]) (st' := []) rfl ?_
        refine k_run 5 (pc' := 105) (l' := [(0, .inr (.inr 361)), (1, .inl z26)]) (st' := [.inl z26, .inr (.inr 21)]) rfl ?_
        refine k_ild (c := 21) (j := (z26).toNat) (i := z26) (x := kx_21) rfl rfl (by decide) rfl (by decide) (by omega) (by omega) ?_
        have g48 : 0 ≤ (H43.1 21 (z26).toNat) ∧ (H43.1 21 (z26).toNat) ≤ 4 := kn (x := kx_21) hI44 rfl (z26).toNat
        have e49 : (H43.1 21 (z26).toNat) = (H35.1 21 (z26).toNat) := hw45.2 _ _ (fun q => by have h9 := (iEf k41); rw [← q.1] at h9; exact absurd h9 (by decide))
        have e50 : (H35.1 21 (z26).toNat) = (H4.1 21 (z26).toNat) := (hq37.1 21 (z26).toNat rfl (by decide) (fun q => by simp at q)).1
        have e51 : (H4.1 21 (z26).toNat) = (H.1 21 (z26).toNat) := hw6.2 _ _ (fun q => absurd q.1 (by decide))
        refine k_run 0 (pc' := 106) (l' := [(0, .inr (.inr 361)), (1, .inl z26)]) (st' := [.inl (H43.1 21 (z26).toNat)]) rfl ?_
        refine k_run 5 (pc' := 111) (l' := [(0, .inr (.inr 361)), (1, .inl z26), (2, .inl (H43.1 21 (z26).toNat))]) (st' := [.inl (H43.1 21 (z26).toNat), .inl z26, .inl 2, .inr (.inr 361)]) rfl ?_
        refine h_cs (i := 153) (j := 48) (M' := mt_48) (xs := [.inl (H43.1 21 (z26).toNat), .inl z26, .inl 2]) (rest := [.inr (.inr 361)]) rfl rfl rfl rfl rfl (Nat.le_of_ble_eq_true rfl) (Nat.le_of_ble_eq_true rfl) (by omega) (k_Term_codeOf (by omega)  (by decide) (by omega) (by omega)) ?_
        rintro _ _ ⟨z56, rfl, g52, rfl⟩
        refine k_run 0 (pc' := 114) (l' := [(0, .inr (.inr 361)), (1, .inl z26), (2, .inl (H43.1 21 (z26).toNat))]) (st' := [.inl z56, .inr (.inr 361)]) rfl ?_
        refine h_cv (i := 157) (j := 77) (b := 361) (M' := mt_77) (xs := [.inl z56]) (rest := []) rfl rfl rfl rfl (zs_K (x := kx_361) rfl (by decide)) rfl (Nat.le_of_ble_eq_true rfl) (Nat.le_of_ble_eq_true rfl) (by omega) (k_Reader_addName (by omega) hI44 (by omega)) ?_
        rintro _ H58 ⟨z61, rfl, g57, hI59, hq60⟩
        have hf62 : fq [(7, 5), (361, 3), (361, 4), (361, 5), (361, 6), (361, 7), (361, 8), (361, 9)] [362] true H H58 := fq_t hf47 hq60 rfl rfl rfl
        refine k_run 0 (pc' := 117) (l' := [(0, .inr (.inr 361)), (1, .inl z26), (2, .inl (H43.1 21 (z26).toNat))]) (st' := [.inl z61]) rfl ?_
        refine k_run 3 (pc' := 121) (l' := [(0, .inr (.inr 361)), (1, .inl z26), (2, .inl (H43.1 21 (z26).toNat)), (3, .inl z61), (4, .inl 0)]) (st' := []) rfl ?_
        have g63 : 0 ≤ (H58.1 7 5) ∧ (H58.1 7 5) ≤ 40 := kn (x := kx_7) hI59 rfl 5
        have e64 : (H58.1 7 5) = (H43.1 7 5) := (hq60.1 7 5 rfl (by decide) (by decide)).1
        have e65 : (H43.1 7 5) = (H35.1 7 5) := hw45.2 _ _ (fun q => by have h9 := (iEf k41); rw [← q.1] at h9; exact absurd h9 (by decide))
        have e66 : (H35.1 7 5) = (H4.1 7 5) := (hq37.1 7 5 rfl (by decide) (by decide)).1
        exact (k_Reader_readRule_cut hd hI  _) H58 hI59 hf62 z26 (H43.1 21 (z26).toNat) z61 (0 : Int) (by omega) (by omega) (by omega) (by decide) (by omega) (by omega) (by omega) (by omega) (by omega) (Nat.lt_succ_self _)
      · refine k_run 0 (pc' := 60) (l' := [(0, .inr (.inr 361)), (1, .inl z26)]) (st' := []) rfl ?_
        refine k_run 2 (pc' := 62) (l' := [(0, .inr (.inr 361)), (1, .inl z26)]) (st' := [.inl 3, .inr (.inr 361)]) rfl ?_
        refine h_cv (i := 128) (j := 86) (b := 361) (M' := mt_86) (xs := [.inl 3]) (rest := []) rfl rfl rfl rfl (zs_K (x := kx_361) rfl (by decide)) rfl (Nat.le_of_ble_eq_true rfl) (Nat.le_of_ble_eq_true rfl) (by omega) (k_Reader_fails (by omega) hI5 (by decide)) ?_
        rintro _ H68 ⟨z71, rfl, g67, hI69, hq70⟩
        have hf72 : fq [(7, 5), (361, 3), (361, 4), (361, 5), (361, 6), (361, 7), (361, 8), (361, 9)] [362] true H H68 := fq_t hf8 hq70 rfl rfl rfl
        refine k_run 0 (pc' := 65) (l' := [(0, .inr (.inr 361)), (1, .inl z26)]) (st' := [.inl z71]) rfl ?_
        refine h_retz (x := z71) rfl rfl (by omega) ?_
        exact ⟨_, rfl, (by omega), hI69, hf72⟩
    · refine k_run 0 (pc' := 36) (l' := [(0, .inr (.inr 361))]) (st' := []) rfl ?_
      refine k_run 1 (pc' := 37) (l' := [(0, .inr (.inr 361))]) (st' := [.inr (.inr 361)]) rfl ?_
      refine h_cv (i := 89) (j := 85) (b := 361) (M' := mt_85) (xs := []) (rest := []) rfl rfl rfl rfl (zs_K (x := kx_361) rfl (by decide)) rfl (Nat.le_of_ble_eq_true rfl) (Nat.le_of_ble_eq_true rfl) (by omega) (k_Reader_misplaced (by omega) hI5 ) ?_
      rintro _ H74 ⟨z77, rfl, g73, hI75, hq76⟩
      have hf78 : fq [(7, 5), (361, 3), (361, 4), (361, 5), (361, 6), (361, 7), (361, 8), (361, 9)] [362] true H H74 := fq_t hf8 hq76 rfl rfl rfl
      refine k_run 0 (pc' := 40) (l' := [(0, .inr (.inr 361))]) (st' := [.inl z77]) rfl ?_
      refine h_retz (x := z77) rfl rfl (by omega) ?_
      exact ⟨_, rfl, (by omega), hI75, hf78⟩
  · refine k_run 0 (pc' := 12) (l' := [(0, .inr (.inr 361))]) (st' := []) rfl ?_
    refine k_run 2 (pc' := 14) (l' := [(0, .inr (.inr 361))]) (st' := [.inl 5, .inr (.inr 361)]) rfl ?_
    refine h_cv (i := 128) (j := 86) (b := 361) (M' := mt_86) (xs := [.inl 5]) (rest := []) rfl rfl rfl rfl (zs_K (x := kx_361) rfl (by decide)) rfl (Nat.le_of_ble_eq_true rfl) (Nat.le_of_ble_eq_true rfl) (by omega) (k_Reader_fails (by omega) hI (by decide)) ?_
    rintro _ H80 ⟨z83, rfl, g79, hI81, hq82⟩
    have hf84 : fq [(7, 5), (361, 3), (361, 4), (361, 5), (361, 6), (361, 7), (361, 8), (361, 9)] [362] true H H80 := fq_t (fq_rf _ _ _ _) hq82 rfl rfl rfl
    refine k_run 0 (pc' := 17) (l' := [(0, .inr (.inr 361))]) (st' := [.inl z83]) rfl ?_
    refine h_retz (x := z83) rfl rfl (by omega) ?_
    exact ⟨_, rfl, (by omega), hI81, hf84⟩

/-! Reader.readLaw -/
set_option maxRecDepth 100000 in
theorem k_Reader_readLaw {d : Nat} (hd : 41 ≤ d) {H : hp} (hI : Inv H)   : hG (zs zK) d mt_69 0 (zargs 0 [.inr (.inr 361)]) [] H (fun r9 H9 => ∃ z : Int, r9 = some (.inl z) ∧ ((0 ≤ z ∧ z ≤ 1) ∧ (z = 0 ∨ H9.1 7 6 < 16)) ∧ Inv H9 ∧ fq [(361, 3), (361, 4), (361, 5), (361, 6), (361, 7), (361, 8), (361, 9)] [362] true H H9) := by
  refine k_run 0 (pc' := 0) (l' := [(0, .inr (.inr 361))]) (st' := []) rfl ?_
  refine k_run 3 (pc' := 5) (l' := [(0, .inr (.inr 361))]) (st' := [.inl (H.1 361 3), .inr (.inr 361)]) rfl ?_
  have g1 : -2147483648 ≤ (H.1 361 3) ∧ (H.1 361 3) ≤ 2147483647 := kn (x := kx_361) hI rfl 3
  refine k_run 2 (pc' := 7) (l' := [(0, .inr (.inr 361))]) (st' := [.inl ((H.1 361 3) + 1), .inr (.inr 361)]) rfl ?_
  refine k_putw (a := 361) (x := kx_361) rfl rfl rfl (by decide) (by decide) rfl rfl rfl rfl hI rfl (fun H2 hI3 hw4 => ?_)
  have hf6 : fq [(361, 3), (361, 4), (361, 5), (361, 6), (361, 7), (361, 8), (361, 9)] [362] true H H2 := fq_w (fq_rf _ _ _ _) hw4 (fpo (by decide) rfl)
  refine k_run 0 (pc' := 10) (l' := [(0, .inr (.inr 361))]) (st' := []) rfl ?_
  refine k_run 1 (pc' := 11) (l' := [(0, .inr (.inr 361))]) (st' := [.inr (.inr 361)]) rfl ?_
  refine h_cv (i := 72) (j := 83) (b := 361) (M' := mt_83) (xs := []) (rest := []) rfl rfl rfl rfl (zs_K (x := kx_361) rfl (by decide)) rfl (Nat.le_of_ble_eq_true rfl) (Nat.le_of_ble_eq_true rfl) (by omega) (k_Reader_token (by omega) hI3 ) ?_
  rintro _ _ ⟨z11, rfl, g7, rfl⟩
  refine k_run 0 (pc' := 14) (l' := [(0, .inr (.inr 361))]) (st' := [.inl z11]) rfl ?_
  refine k_run 1 (pc' := 15) (l' := [(0, .inr (.inr 361))]) (st' := [.inl 2, .inl z11]) rfl ?_
  refine h_ieq (off := 8) (t := 23) rfl rfl (by omega) (by decide) (fun c12 => ?_) (fun c12 => ?_)
  · refine k_run 0 (pc' := 23) (l' := [(0, .inr (.inr 361))]) (st' := []) rfl ?_
    refine k_run 3 (pc' := 28) (l' := [(0, .inr (.inr 361))]) (st' := [.inr (.inr 361), .inr (.inr 7)]) rfl ?_
    refine h_cv (i := 120) (j := 84) (b := 361) (M' := mt_84) (xs := []) (rest := [.inr (.inr 7)]) rfl rfl rfl rfl (zs_K (x := kx_361) rfl (by decide)) rfl (Nat.le_of_ble_eq_true rfl) (Nat.le_of_ble_eq_true rfl) (by omega) (k_Reader_name (by omega) hI3 ) ?_
    rintro _ _ ⟨z17, rfl, g13, rfl⟩
    refine k_run 0 (pc' := 31) (l' := [(0, .inr (.inr 361))]) (st' := [.inr (.inl z17), .inr (.inr 7)]) rfl ?_
    refine h_cv (i := 175) (j := 36) (b := 7) (M' := mt_36) (xs := [.inr (.inl z17)]) (rest := []) rfl rfl rfl rfl (zs_K (x := kx_7) rfl (by decide)) rfl (Nat.le_of_ble_eq_true rfl) (Nat.le_of_ble_eq_true rfl) (by omega) (k_Program_hasLawNamed (by omega) hI3 ) ?_
    rintro _ _ ⟨z22, rfl, g18, rfl⟩
    refine k_run 0 (pc' := 34) (l' := [(0, .inr (.inr 361))]) (st' := [.inl z22]) rfl ?_
    refine h_zeq (off := 9) (t := 43) rfl rfl (by omega) (fun c23 => ?_) (fun c23 => ?_)
    · refine k_run 0 (pc' := 43) (l' := [(0, .inr (.inr 361))]) (st' := []) rfl ?_
      refine k_run 3 (pc' := 50) (l' := [(0, .inr (.inr 361))]) (st' := [.inl (H2.1 7 6)]) rfl ?_
      have g24 : 0 ≤ (H2.1 7 6) ∧ (H2.1 7 6) ≤ 16 := kn (x := kx_7) hI3 rfl 6
      have e25 : (H2.1 7 6) = (H.1 7 6) := hw4.2 _ _ (fun q => absurd q.1 (by decide))
      refine k_run 1 (pc' := 52) (l' := [(0, .inr (.inr 361))]) (st' := [.inl 16, .inl (H2.1 7 6)]) rfl ?_
      refine h_ilt (off := 9) (t := 61) rfl rfl (by omega) (by decide) (fun c26 => ?_) (fun c26 => ?_)
      · refine k_run 0 (pc' := 61) (l' := [(0, .inr (.inr 361))]) (st' := []) rfl ?_
        refine k_run 7 (pc' := 76) (l' := [(0, .inr (.inr 361))]) (st' := [.inl (H2.1 7 6), .inr (.inr 24), .inr (.inr 361)]) rfl ?_
        refine k_ald (c := 24) (j := ((H2.1 7 6)).toNat) (i := (H2.1 7 6)) (x := kx_24) rfl rfl (by decide) rfl (by decide) (by omega) (by omega) hI3 (fun h27 => ?_)
        obtain ⟨t28, et30⟩ : ∃ t9, t9 = H2.2 24 ((H2.1 7 6)).toNat := ⟨_, rfl⟩
        rw [← et30] at h27 ⊢
        have k29 : isE t28 := h27
        refine k_run 0 (pc' := 77) (l' := [(0, .inr (.inr 361))]) (st' := [.inr (.inr t28), .inr (.inr 361)]) rfl ?_
        refine k_run 1 (pc' := 78) (l' := [(0, .inr (.inr 361))]) (st' := [.inl 1, .inr (.inr t28), .inr (.inr 361)]) rfl ?_
        refine h_cv (i := 141) (j := 80) (b := 361) (M' := mt_80) (xs := [.inl 1, .inr (.inr t28)]) (rest := []) rfl rfl rfl rfl (zs_K (x := kx_361) rfl (by decide)) rfl (Nat.le_of_ble_eq_true rfl) (Nat.le_of_ble_eq_true rfl) (by omega) (k_Reader_startEquation (by omega) hI3 k29 (by decide)) ?_
        rintro _ H32 ⟨rfl, hI33, hq34⟩
        have hf35 : fq [(361, 3), (361, 4), (361, 5), (361, 6), (361, 7), (361, 8), (361, 9)] [362] true H H32 := fq_t hf6 hq34 rfl rfl rfl
        refine k_run 0 (pc' := 81) (l' := [(0, .inr (.inr 361))]) (st' := []) rfl ?_
        refine k_run 1 (pc' := 82) (l' := [(0, .inr (.inr 361))]) (st' := [.inr (.inr 361)]) rfl ?_
        refine k_getr (a := 361) (x := kx_361) rfl rfl rfl (by decide) rfl rfl rfl hI33 (fun h36 => ?_)
        obtain ⟨t37, et39⟩ : ∃ t9, t9 = H32.2 361 7 := ⟨_, rfl⟩
        rw [← et39] at h36 ⊢
        have k38 : isE t37 := h36
        refine k_run 0 (pc' := 85) (l' := [(0, .inr (.inr 361))]) (st' := [.inr (.inr t37)]) rfl ?_
        refine k_run 1 (pc' := 86) (l' := [(0, .inr (.inr 361))]) (st' := [.inr (.inr 361), .inr (.inr t37)]) rfl ?_
        refine h_cv (i := 120) (j := 84) (b := 361) (M' := mt_84) (xs := []) (rest := [.inr (.inr t37)]) rfl rfl rfl rfl (zs_K (x := kx_361) rfl (by decide)) rfl (Nat.le_of_ble_eq_true rfl) (Nat.le_of_ble_eq_true rfl) (by omega) (k_Reader_name (by omega) hI33 ) ?_
        rintro _ _ ⟨z44, rfl, g40, rfl⟩
        refine k_run 0 (pc' := 89) (l' := [(0, .inr (.inr 361))]) (st' := [.inr (.inl z44), .inr (.inr t37)]) rfl ?_
        refine k_putl (a := t37) (x := (kEo t37)) rfl rfl k38.1 (iE0 k38) k38.2.2.2.2.1 rfl rfl rfl rfl hI33 rfl (fun H45 hI46 hw47 => ?_)
        have hf49 : fq [(361, 3), (361, 4), (361, 5), (361, 6), (361, 7), (361, 8), (361, 9)] [362] true H H45 := fq_w hf35 hw47 (fpg (iEf k38))
        refine k_run 0 (pc' := 92) (l' := [(0, .inr (.inr 361))]) (st' := []) rfl ?_
        refine k_run 1 (pc' := 93) (l' := [(0, .inr (.inr 361))]) (st' := [.inr (.inr 361)]) rfl ?_
        refine k_getr (a := 361) (x := kx_361) rfl rfl rfl (by decide) rfl rfl rfl hI46 (fun h50 => ?_)
        obtain ⟨t51, et53⟩ : ∃ t9, t9 = H45.2 361 7 := ⟨_, rfl⟩
        rw [← et53] at h50 ⊢
        have k52 : isE t51 := h50
        refine k_run 0 (pc' := 96) (l' := [(0, .inr (.inr 361))]) (st' := [.inr (.inr t51)]) rfl ?_
        refine k_run 1 (pc' := 97) (l' := [(0, .inr (.inr 361))]) (st' := [.inl 0, .inr (.inr t51)]) rfl ?_
        refine k_putw (a := t51) (x := (kEo t51)) rfl rfl k52.1 (iE0 k52) k52.2.2.2.2.1 rfl rfl rfl rfl hI46 rfl (fun H54 hI55 hw56 => ?_)
        have hf58 : fq [(361, 3), (361, 4), (361, 5), (361, 6), (361, 7), (361, 8), (361, 9)] [362] true H H54 := fq_w hf49 hw56 (fpg (iEf k52))
        refine k_run 0 (pc' := 100) (l' := [(0, .inr (.inr 361))]) (st' := []) rfl ?_
        refine k_run 3 (pc' := 105) (l' := [(0, .inr (.inr 361))]) (st' := [.inl (H54.1 361 3), .inr (.inr 361)]) rfl ?_
        have g59 : -2147483648 ≤ (H54.1 361 3) ∧ (H54.1 361 3) ≤ 2147483647 := kn (x := kx_361) hI55 rfl 3
        have e60 : (H54.1 361 3) = (H45.1 361 3) := hw56.2 _ _ (fun q => by have h9 := (iEf k52); rw [← q.1] at h9; exact absurd h9 (by decide))
        have e61 : (H45.1 361 3) = (H32.1 361 3) := hw47.2 _ _ (fun q => by have h9 := (iEf k38); rw [← q.1] at h9; exact absurd h9 (by decide))
        have e62 : (H32.1 361 3) = (H2.1 361 3) := (hq34.1 361 3 rfl (by decide) (by decide)).1
        refine k_run 2 (pc' := 107) (l' := [(0, .inr (.inr 361))]) (st' := [.inl ((H54.1 361 3) + 1), .inr (.inr 361)]) rfl ?_
        refine k_putw (a := 361) (x := kx_361) rfl rfl rfl (by decide) (by decide) rfl rfl rfl rfl hI55 rfl (fun H63 hI64 hw65 => ?_)
        have hf67 : fq [(361, 3), (361, 4), (361, 5), (361, 6), (361, 7), (361, 8), (361, 9)] [362] true H H63 := fq_w hf58 hw65 (fpo (by decide) rfl)
        refine k_run 0 (pc' := 110) (l' := [(0, .inr (.inr 361))]) (st' := []) rfl ?_
        refine k_run 2 (pc' := 113) (l' := [(0, .inr (.inr 361))]) (st' := [.inl 58, .inr (.inr 361)]) rfl ?_
        refine h_cv (i := 92) (j := 82) (b := 361) (M' := mt_82) (xs := [.inl 58]) (rest := []) rfl rfl rfl rfl (zs_K (x := kx_361) rfl (by decide)) rfl (Nat.le_of_ble_eq_true rfl) (Nat.le_of_ble_eq_true rfl) (by omega) (k_Reader_take (by omega) hI64 (by decide)) ?_
        rintro _ H69 ⟨z72, rfl, g68, hI70, hq71⟩
        have hf73 : fq [(361, 3), (361, 4), (361, 5), (361, 6), (361, 7), (361, 8), (361, 9)] [362] true H H69 := fq_t hf67 hq71 rfl rfl rfl
        refine k_run 0 (pc' := 116) (l' := [(0, .inr (.inr 361))]) (st' := [.inl z72]) rfl ?_
        refine h_zeq (off := 23) (t := 139) rfl rfl (by omega) (fun c74 => ?_) (fun c74 => ?_)
        · refine k_run 0 (pc' := 139) (l' := [(0, .inr (.inr 361))]) (st' := []) rfl ?_
          refine k_run 1 (pc' := 140) (l' := [(0, .inr (.inr 361))]) (st' := [.inl 0]) rfl ?_
          refine h_retz (x := 0) rfl rfl (by decide) ?_
          have g75 : 0 ≤ (H69.1 7 6) ∧ (H69.1 7 6) ≤ 16 := kn (x := kx_7) hI70 rfl 6
          have e76 : (H69.1 7 6) = (H63.1 7 6) := (hq71.1 7 6 rfl (by decide) (by decide)).1
          have e77 : (H63.1 7 6) = (H54.1 7 6) := hw65.2 _ _ (fun q => absurd q.1 (by decide))
          have e78 : (H54.1 7 6) = (H45.1 7 6) := hw56.2 _ _ (fun q => by have h9 := (iEf k52); rw [← q.1] at h9; exact absurd h9 (by decide))
          have e79 : (H45.1 7 6) = (H32.1 7 6) := hw47.2 _ _ (fun q => by have h9 := (iEf k38); rw [← q.1] at h9; exact absurd h9 (by decide))
          have e80 : (H32.1 7 6) = (H2.1 7 6) := (hq34.1 7 6 rfl (by decide) (by decide)).1
          exact ⟨_, rfl, (by omega), hI70, hf73⟩
        · refine k_run 0 (pc' := 119) (l' := [(0, .inr (.inr 361))]) (st' := []) rfl ?_
          refine k_run 4 (pc' := 124) (l' := [(0, .inr (.inr 361))]) (st' := [.inl 0, .inl 0, .inl (-2), .inr (.inr 361)]) rfl ?_
          refine h_cv (i := 109) (j := 73) (b := 361) (M' := mt_73) (xs := [.inl 0, .inl 0, .inl (-2)]) (rest := []) rfl rfl rfl rfl (zs_K (x := kx_361) rfl (by decide)) rfl (Nat.le_of_ble_eq_true rfl) (Nat.le_of_ble_eq_true rfl) (by omega) (k_Reader_readTerm (by omega) hI70 (by decide) (by decide) (by decide) (by omega)) ?_
          rintro _ H82 ⟨z85, rfl, g81, hI83, hq84⟩
          have hf86 : fq [(361, 3), (361, 4), (361, 5), (361, 6), (361, 7), (361, 8), (361, 9)] [362] true H H82 := fq_t hf73 hq84 rfl rfl rfl
          refine k_run 0 (pc' := 127) (l' := [(0, .inr (.inr 361))]) (st' := [.inl z85]) rfl ?_
          refine h_zeq (off := 12) (t := 139) rfl rfl (by omega) (fun c87 => ?_) (fun c87 => ?_)
          · refine k_run 0 (pc' := 139) (l' := [(0, .inr (.inr 361))]) (st' := []) rfl ?_
            refine k_run 1 (pc' := 140) (l' := [(0, .inr (.inr 361))]) (st' := [.inl 0]) rfl ?_
            refine h_retz (x := 0) rfl rfl (by decide) ?_
            have g88 : 0 ≤ (H82.1 7 6) ∧ (H82.1 7 6) ≤ 16 := kn (x := kx_7) hI83 rfl 6
            have e89 : (H82.1 7 6) = (H69.1 7 6) := (hq84.1 7 6 rfl (by decide) (by decide)).1
            have e90 : (H69.1 7 6) = (H63.1 7 6) := (hq71.1 7 6 rfl (by decide) (by decide)).1
            have e91 : (H63.1 7 6) = (H54.1 7 6) := hw65.2 _ _ (fun q => absurd q.1 (by decide))
            have e92 : (H54.1 7 6) = (H45.1 7 6) := hw56.2 _ _ (fun q => by have h9 := (iEf k52); rw [← q.1] at h9; exact absurd h9 (by decide))
            have e93 : (H45.1 7 6) = (H32.1 7 6) := hw47.2 _ _ (fun q => by have h9 := (iEf k38); rw [← q.1] at h9; exact absurd h9 (by decide))
            have e94 : (H32.1 7 6) = (H2.1 7 6) := (hq34.1 7 6 rfl (by decide) (by decide)).1
            exact ⟨_, rfl, (by omega), hI83, hf86⟩
          · refine k_run 0 (pc' := 130) (l' := [(0, .inr (.inr 361))]) (st' := []) rfl ?_
            refine k_run 2 (pc' := 133) (l' := [(0, .inr (.inr 361))]) (st' := [.inl 61, .inr (.inr 361)]) rfl ?_
            refine h_cv (i := 92) (j := 82) (b := 361) (M' := mt_82) (xs := [.inl 61]) (rest := []) rfl rfl rfl rfl (zs_K (x := kx_361) rfl (by decide)) rfl (Nat.le_of_ble_eq_true rfl) (Nat.le_of_ble_eq_true rfl) (by omega) (k_Reader_take (by omega) hI83 (by decide)) ?_
            rintro _ H96 ⟨z99, rfl, g95, hI97, hq98⟩
            have hf100 : fq [(361, 3), (361, 4), (361, 5), (361, 6), (361, 7), (361, 8), (361, 9)] [362] true H H96 := fq_t hf86 hq98 rfl rfl rfl
            refine k_run 0 (pc' := 136) (l' := [(0, .inr (.inr 361))]) (st' := [.inl z99]) rfl ?_
            refine h_zne (off := 5) (t := 141) rfl rfl (by omega) (fun c101 => ?_) (fun c101 => ?_)
            · refine k_run 0 (pc' := 141) (l' := [(0, .inr (.inr 361))]) (st' := []) rfl ?_
              refine k_run 3 (pc' := 146) (l' := [(0, .inr (.inr 361))]) (st' := [.inr (.inr 361), .inr (.inr 7)]) rfl ?_
              refine k_getr (a := 361) (x := kx_361) rfl rfl rfl (by decide) rfl rfl rfl hI97 (fun h102 => ?_)
              obtain ⟨t103, et105⟩ : ∃ t9, t9 = H96.2 361 7 := ⟨_, rfl⟩
              rw [← et105] at h102 ⊢
              have k104 : isE t103 := h102
              refine k_run 0 (pc' := 149) (l' := [(0, .inr (.inr 361))]) (st' := [.inr (.inr t103), .inr (.inr 7)]) rfl ?_
              refine k_get (a := t103) (x := (kEo t103)) (v := .inr (.inr (t103 + 1))) rfl rfl k104.1 (iE0 k104) rfl rfl rfl ?_
              refine k_run 0 (pc' := 152) (l' := [(0, .inr (.inr 361))]) (st' := [.inr (.inr (t103 + 1)), .inr (.inr 7)]) rfl ?_
              refine k_run 1 (pc' := 153) (l' := [(0, .inr (.inr 361))]) (st' := [.inl 0, .inr (.inr (t103 + 1)), .inr (.inr 7)]) rfl ?_
              refine h_cv (i := 188) (j := 51) (b := (t103 + 1)) (M' := mt_51) (xs := [.inl 0]) (rest := [.inr (.inr 7)]) rfl rfl rfl rfl (by rw [zs_K (iEl k104).1 (iT0 (iEl k104))]; rfl) rfl (Nat.le_of_ble_eq_true rfl) (Nat.le_of_ble_eq_true rfl) (by omega) (k_Term_codeAt (by omega) hI97 (iEl k104) (by decide)) ?_
              rintro _ _ ⟨z110, rfl, g106, rfl⟩
              refine k_run 0 (pc' := 156) (l' := [(0, .inr (.inr 361))]) (st' := [.inl z110, .inr (.inr 7)]) rfl ?_
              refine k_run 1 (pc' := 157) (l' := [(0, .inr (.inr 361))]) (st' := [.inr (.inr 361), .inl z110, .inr (.inr 7)]) rfl ?_
              refine k_getr (a := 361) (x := kx_361) rfl rfl rfl (by decide) rfl rfl rfl hI97 (fun h111 => ?_)
              rw [← et105]
              refine k_run 0 (pc' := 160) (l' := [(0, .inr (.inr 361))]) (st' := [.inr (.inr t103), .inl z110, .inr (.inr 7)]) rfl ?_
              refine k_get (a := t103) (x := (kEo t103)) (v := .inr (.inr (t103 + 5))) rfl rfl k104.1 (iE0 k104) rfl rfl rfl ?_
              refine k_run 0 (pc' := 163) (l' := [(0, .inr (.inr 361))]) (st' := [.inr (.inr (t103 + 5)), .inl z110, .inr (.inr 7)]) rfl ?_
              refine h_cv (i := 193) (j := 37) (b := 7) (M' := mt_37) (xs := [.inr (.inr (t103 + 5)), .inl z110]) (rest := []) rfl rfl rfl rfl (zs_K (x := kx_7) rfl (by decide)) rfl (Nat.le_of_ble_eq_true rfl) (Nat.le_of_ble_eq_true rfl) (by omega) (k_Program_typeOf (by omega) hI97 (by omega) (iEa k104)) ?_
              rintro _ _ ⟨z116, rfl, g112, rfl⟩
              refine k_run 0 (pc' := 166) (l' := [(0, .inr (.inr 361))]) (st' := [.inl z116]) rfl ?_
              refine k_run 3 (pc' := 169) (l' := [(0, .inr (.inr 361)), (1, .inl z116)]) (st' := [.inr (.inr 361), .inr (.inr 361)]) rfl ?_
              refine k_getr (a := 361) (x := kx_361) rfl rfl rfl (by decide) rfl rfl rfl hI97 (fun h117 => ?_)
              rw [← et105]
              refine k_run 0 (pc' := 172) (l' := [(0, .inr (.inr 361)), (1, .inl z116)]) (st' := [.inr (.inr t103), .inr (.inr 361)]) rfl ?_
              refine k_get (a := t103) (x := (kEo t103)) (v := .inr (.inr (t103 + 3))) rfl rfl k104.1 (iE0 k104) rfl rfl rfl ?_
              refine k_run 0 (pc' := 175) (l' := [(0, .inr (.inr 361)), (1, .inl z116)]) (st' := [.inr (.inr (t103 + 3)), .inr (.inr 361)]) rfl ?_
              refine h_cv (i := 105) (j := 81) (b := 361) (M' := mt_81) (xs := [.inr (.inr (t103 + 3))]) (rest := []) rfl rfl rfl rfl (zs_K (x := kx_361) rfl (by decide)) rfl (Nat.le_of_ble_eq_true rfl) (Nat.le_of_ble_eq_true rfl) (by omega) (k_Reader_startTerm (by omega) hI97 (iEr k104)) ?_
              rintro _ H119 ⟨rfl, hI120, hq121⟩
              have hf122 : fq [(361, 3), (361, 4), (361, 5), (361, 6), (361, 7), (361, 8), (361, 9)] [362] true H H119 := fq_t hf100 hq121 rfl rfl rfl
              refine k_run 0 (pc' := 178) (l' := [(0, .inr (.inr 361)), (1, .inl z116)]) (st' := []) rfl ?_
              refine k_run 4 (pc' := 182) (l' := [(0, .inr (.inr 361)), (1, .inl z116)]) (st' := [.inl 0, .inl 0, .inl z116, .inr (.inr 361)]) rfl ?_
              refine h_cv (i := 109) (j := 73) (b := 361) (M' := mt_73) (xs := [.inl 0, .inl 0, .inl z116]) (rest := []) rfl rfl rfl rfl (zs_K (x := kx_361) rfl (by decide)) rfl (Nat.le_of_ble_eq_true rfl) (Nat.le_of_ble_eq_true rfl) (by omega) (k_Reader_readTerm (by omega) hI120 (by omega) (by decide) (by decide) (by omega)) ?_
              rintro _ H124 ⟨z127, rfl, g123, hI125, hq126⟩
              have hf128 : fq [(361, 3), (361, 4), (361, 5), (361, 6), (361, 7), (361, 8), (361, 9)] [362] true H H124 := fq_t hf122 hq126 rfl rfl rfl
              refine k_run 0 (pc' := 185) (l' := [(0, .inr (.inr 361)), (1, .inl z116)]) (st' := [.inl z127]) rfl ?_
              refine h_zne (off := 5) (t := 190) rfl rfl (by omega) (fun c129 => ?_) (fun c129 => ?_)
              · refine k_run 0 (pc' := 190) (l' := [(0, .inr (.inr 361)), (1, .inl z116)]) (st' := []) rfl ?_
                refine k_run 1 (pc' := 191) (l' := [(0, .inr (.inr 361)), (1, .inl z116)]) (st' := [.inr (.inr 361)]) rfl ?_
                refine k_getr (a := 361) (x := kx_361) rfl rfl rfl (by decide) rfl rfl rfl hI125 (fun h130 => ?_)
                obtain ⟨t131, et133⟩ : ∃ t9, t9 = H124.2 361 7 := ⟨_, rfl⟩
                rw [← et133] at h130 ⊢
                have k132 : isE t131 := h130
                refine k_run 0 (pc' := 194) (l' := [(0, .inr (.inr 361)), (1, .inl z116)]) (st' := [.inr (.inr t131)]) rfl ?_
                refine k_run 2 (pc' := 198) (l' := [(0, .inr (.inr 361)), (1, .inl z116)]) (st' := [.inl (H124.1 361 9), .inr (.inr t131)]) rfl ?_
                have g134 : 0 ≤ (H124.1 361 9) ∧ (H124.1 361 9) ≤ 40 := kn (x := kx_361) hI125 rfl 9
                refine k_puti (z := (H124.1 361 9)) (a := t131) (x := (kEo t131)) rfl rfl k132.1 (iE0 k132) k132.2.2.2.2.1 rfl rfl rfl rfl hI125 (by omega) (show 0 ≤ (H124.1 361 9) ∧ (H124.1 361 9) ≤ 40 by omega) (fun H135 hI136 hw137 hv138 => ?_)
                have hf139 : fq [(361, 3), (361, 4), (361, 5), (361, 6), (361, 7), (361, 8), (361, 9)] [362] true H H135 := fq_w hf128 hw137 (fpg (iEf k132))
                refine k_run 0 (pc' := 201) (l' := [(0, .inr (.inr 361)), (1, .inl z116)]) (st' := []) rfl ?_
                refine k_run 1 (pc' := 202) (l' := [(0, .inr (.inr 361)), (1, .inl z116)]) (st' := [.inl 1]) rfl ?_
                refine h_retz (x := 1) rfl rfl (by decide) ?_
                have g140 : 0 ≤ (H135.1 7 6) ∧ (H135.1 7 6) ≤ 16 := kn (x := kx_7) hI136 rfl 6
                have e141 : (H135.1 7 6) = (H124.1 7 6) := hw137.2 _ _ (fun q => by have h9 := (iEf k132); rw [← q.1] at h9; exact absurd h9 (by decide))
                have e142 : (H124.1 7 6) = (H119.1 7 6) := (hq126.1 7 6 rfl (by decide) (by decide)).1
                have e143 : (H119.1 7 6) = (H96.1 7 6) := (hq121.1 7 6 rfl (by decide) (by decide)).1
                have e144 : (H96.1 7 6) = (H82.1 7 6) := (hq98.1 7 6 rfl (by decide) (by decide)).1
                have e145 : (H82.1 7 6) = (H69.1 7 6) := (hq84.1 7 6 rfl (by decide) (by decide)).1
                have e146 : (H69.1 7 6) = (H63.1 7 6) := (hq71.1 7 6 rfl (by decide) (by decide)).1
                have e147 : (H63.1 7 6) = (H54.1 7 6) := hw65.2 _ _ (fun q => absurd q.1 (by decide))
                have e148 : (H54.1 7 6) = (H45.1 7 6) := hw56.2 _ _ (fun q => by have h9 := (iEf k52); rw [← q.1] at h9; exact absurd h9 (by decide))
                have e149 : (H45.1 7 6) = (H32.1 7 6) := hw47.2 _ _ (fun q => by have h9 := (iEf k38); rw [← q.1] at h9; exact absurd h9 (by decide))
                have e150 : (H32.1 7 6) = (H2.1 7 6) := (hq34.1 7 6 rfl (by decide) (by decide)).1
                exact ⟨_, rfl, (by omega), hI136, hf139⟩
              · refine k_run 0 (pc' := 188) (l' := [(0, .inr (.inr 361)), (1, .inl z116)]) (st' := []) rfl ?_
                refine k_run 1 (pc' := 189) (l' := [(0, .inr (.inr 361)), (1, .inl z116)]) (st' := [.inl 0]) rfl ?_
                refine h_retz (x := 0) rfl rfl (by decide) ?_
                have g151 : 0 ≤ (H124.1 7 6) ∧ (H124.1 7 6) ≤ 16 := kn (x := kx_7) hI125 rfl 6
                have e152 : (H124.1 7 6) = (H119.1 7 6) := (hq126.1 7 6 rfl (by decide) (by decide)).1
                have e153 : (H119.1 7 6) = (H96.1 7 6) := (hq121.1 7 6 rfl (by decide) (by decide)).1
                have e154 : (H96.1 7 6) = (H82.1 7 6) := (hq98.1 7 6 rfl (by decide) (by decide)).1
                have e155 : (H82.1 7 6) = (H69.1 7 6) := (hq84.1 7 6 rfl (by decide) (by decide)).1
                have e156 : (H69.1 7 6) = (H63.1 7 6) := (hq71.1 7 6 rfl (by decide) (by decide)).1
                have e157 : (H63.1 7 6) = (H54.1 7 6) := hw65.2 _ _ (fun q => absurd q.1 (by decide))
                have e158 : (H54.1 7 6) = (H45.1 7 6) := hw56.2 _ _ (fun q => by have h9 := (iEf k52); rw [← q.1] at h9; exact absurd h9 (by decide))
                have e159 : (H45.1 7 6) = (H32.1 7 6) := hw47.2 _ _ (fun q => by have h9 := (iEf k38); rw [← q.1] at h9; exact absurd h9 (by decide))
                have e160 : (H32.1 7 6) = (H2.1 7 6) := (hq34.1 7 6 rfl (by decide) (by decide)).1
                exact ⟨_, rfl, (by omega), hI125, hf128⟩
            · refine k_run 0 (pc' := 139) (l' := [(0, .inr (.inr 361))]) (st' := []) rfl ?_
              refine k_run 1 (pc' := 140) (l' := [(0, .inr (.inr 361))]) (st' := [.inl 0]) rfl ?_
              refine h_retz (x := 0) rfl rfl (by decide) ?_
              have g161 : 0 ≤ (H96.1 7 6) ∧ (H96.1 7 6) ≤ 16 := kn (x := kx_7) hI97 rfl 6
              have e162 : (H96.1 7 6) = (H82.1 7 6) := (hq98.1 7 6 rfl (by decide) (by decide)).1
              have e163 : (H82.1 7 6) = (H69.1 7 6) := (hq84.1 7 6 rfl (by decide) (by decide)).1
              have e164 : (H69.1 7 6) = (H63.1 7 6) := (hq71.1 7 6 rfl (by decide) (by decide)).1
              have e165 : (H63.1 7 6) = (H54.1 7 6) := hw65.2 _ _ (fun q => absurd q.1 (by decide))
              have e166 : (H54.1 7 6) = (H45.1 7 6) := hw56.2 _ _ (fun q => by have h9 := (iEf k52); rw [← q.1] at h9; exact absurd h9 (by decide))
              have e167 : (H45.1 7 6) = (H32.1 7 6) := hw47.2 _ _ (fun q => by have h9 := (iEf k38); rw [← q.1] at h9; exact absurd h9 (by decide))
              have e168 : (H32.1 7 6) = (H2.1 7 6) := (hq34.1 7 6 rfl (by decide) (by decide)).1
              exact ⟨_, rfl, (by omega), hI97, hf100⟩
      · refine k_run 0 (pc' := 55) (l' := [(0, .inr (.inr 361))]) (st' := []) rfl ?_
        refine k_run 2 (pc' := 57) (l' := [(0, .inr (.inr 361))]) (st' := [.inl 5, .inr (.inr 361)]) rfl ?_
        refine h_cv (i := 128) (j := 86) (b := 361) (M' := mt_86) (xs := [.inl 5]) (rest := []) rfl rfl rfl rfl (zs_K (x := kx_361) rfl (by decide)) rfl (Nat.le_of_ble_eq_true rfl) (Nat.le_of_ble_eq_true rfl) (by omega) (k_Reader_fails (by omega) hI3 (by decide)) ?_
        rintro _ H170 ⟨z173, rfl, g169, hI171, hq172⟩
        have hf174 : fq [(361, 3), (361, 4), (361, 5), (361, 6), (361, 7), (361, 8), (361, 9)] [362] true H H170 := fq_t hf6 hq172 rfl rfl rfl
        refine k_run 0 (pc' := 60) (l' := [(0, .inr (.inr 361))]) (st' := [.inl z173]) rfl ?_
        refine h_retz (x := z173) rfl rfl (by omega) ?_
        have g175 : 0 ≤ (H170.1 7 6) ∧ (H170.1 7 6) ≤ 16 := kn (x := kx_7) hI171 rfl 6
        have e176 : (H170.1 7 6) = (H2.1 7 6) := (hq172.1 7 6 rfl (by decide) (by decide)).1
        exact ⟨_, rfl, (by omega), hI171, hf174⟩
    · refine k_run 0 (pc' := 37) (l' := [(0, .inr (.inr 361))]) (st' := []) rfl ?_
      refine k_run 2 (pc' := 39) (l' := [(0, .inr (.inr 361))]) (st' := [.inl 3, .inr (.inr 361)]) rfl ?_
      refine h_cv (i := 128) (j := 86) (b := 361) (M' := mt_86) (xs := [.inl 3]) (rest := []) rfl rfl rfl rfl (zs_K (x := kx_361) rfl (by decide)) rfl (Nat.le_of_ble_eq_true rfl) (Nat.le_of_ble_eq_true rfl) (by omega) (k_Reader_fails (by omega) hI3 (by decide)) ?_
      rintro _ H178 ⟨z181, rfl, g177, hI179, hq180⟩
      have hf182 : fq [(361, 3), (361, 4), (361, 5), (361, 6), (361, 7), (361, 8), (361, 9)] [362] true H H178 := fq_t hf6 hq180 rfl rfl rfl
      refine k_run 0 (pc' := 42) (l' := [(0, .inr (.inr 361))]) (st' := [.inl z181]) rfl ?_
      refine h_retz (x := z181) rfl rfl (by omega) ?_
      have g183 : 0 ≤ (H178.1 7 6) ∧ (H178.1 7 6) ≤ 16 := kn (x := kx_7) hI179 rfl 6
      have e184 : (H178.1 7 6) = (H2.1 7 6) := (hq180.1 7 6 rfl (by decide) (by decide)).1
      have e185 : (H2.1 7 6) = (H.1 7 6) := hw4.2 _ _ (fun q => absurd q.1 (by decide))
      exact ⟨_, rfl, (by omega), hI179, hf182⟩
  · refine k_run 0 (pc' := 18) (l' := [(0, .inr (.inr 361))]) (st' := []) rfl ?_
    refine k_run 1 (pc' := 19) (l' := [(0, .inr (.inr 361))]) (st' := [.inr (.inr 361)]) rfl ?_
    refine h_cv (i := 89) (j := 85) (b := 361) (M' := mt_85) (xs := []) (rest := []) rfl rfl rfl rfl (zs_K (x := kx_361) rfl (by decide)) rfl (Nat.le_of_ble_eq_true rfl) (Nat.le_of_ble_eq_true rfl) (by omega) (k_Reader_misplaced (by omega) hI3 ) ?_
    rintro _ H187 ⟨z190, rfl, g186, hI188, hq189⟩
    have hf191 : fq [(361, 3), (361, 4), (361, 5), (361, 6), (361, 7), (361, 8), (361, 9)] [362] true H H187 := fq_t hf6 hq189 rfl rfl rfl
    refine k_run 0 (pc' := 22) (l' := [(0, .inr (.inr 361))]) (st' := [.inl z190]) rfl ?_
    refine h_retz (x := z190) rfl rfl (by omega) ?_
    have g192 : 0 ≤ (H187.1 7 6) ∧ (H187.1 7 6) ≤ 16 := kn (x := kx_7) hI188 rfl 6
    have e193 : (H187.1 7 6) = (H2.1 7 6) := (hq189.1 7 6 rfl (by decide) (by decide)).1
    have e194 : (H2.1 7 6) = (H.1 7 6) := hw4.2 _ _ (fun q => absurd q.1 (by decide))
    exact ⟨_, rfl, (by omega), hI188, hf191⟩

/-! Reader.readClosedTerm -/
set_option maxRecDepth 100000 in
theorem k_Reader_readClosedTerm {d : Nat} (hd : 41 ≤ d) {H : hp} (hI : Inv H) {t n : Nat} (ht : isT t n) : hG (zs zK) d mt_63 0 (zargs 0 [.inr (.inr 361), .inr (.inr t)]) [] H (fun r9 H9 => ∃ z : Int, r9 = some (.inl z) ∧ ((-2147483648 ≤ z ∧ z ≤ 2147483647)) ∧ Inv H9 ∧ fq [(2, 5), (361, 3), (361, 4), (361, 5), (361, 6), (361, 8), (361, 9)] [4, 5, 6, 362] true H H9) := by
  have htb := ht.2.2.2.2
  refine k_run 0 (pc' := 0) (l' := [(0, .inr (.inr 361)), (1, .inr (.inr t))]) (st' := []) rfl ?_
  refine k_run 2 (pc' := 4) (l' := [(0, .inr (.inr 361)), (1, .inr (.inr t))]) (st' := [.inr (.inr 2)]) rfl ?_
  refine h_cv (i := 64) (j := 27) (b := 2) (M' := mt_27) (xs := []) (rest := []) rfl rfl rfl rfl (zs_K (x := kx_2) rfl (by decide)) rfl (Nat.le_of_ble_eq_true rfl) (Nat.le_of_ble_eq_true rfl) (by omega) (k_Tape_cut (by omega) hI ) ?_
  rintro _ H2 ⟨rfl, hI3, hq4⟩
  have hf5 : fq [(2, 5), (361, 3), (361, 4), (361, 5), (361, 6), (361, 8), (361, 9)] [4, 5, 6, 362] true H H2 := fq_t (fq_rf _ _ _ _) hq4 rfl rfl rfl
  refine k_run 0 (pc' := 7) (l' := [(0, .inr (.inr 361)), (1, .inr (.inr t))]) (st' := []) rfl ?_
  refine k_run 2 (pc' := 9) (l' := [(0, .inr (.inr 361)), (1, .inr (.inr t))]) (st' := [.inl 0, .inr (.inr 361)]) rfl ?_
  refine k_putw (a := 361) (x := kx_361) rfl rfl rfl (by decide) (by decide) rfl rfl rfl rfl hI3 rfl (fun H6 hI7 hw8 => ?_)
  have hf10 : fq [(2, 5), (361, 3), (361, 4), (361, 5), (361, 6), (361, 8), (361, 9)] [4, 5, 6, 362] true H H6 := fq_w hf5 hw8 (fpo (by decide) rfl)
  refine k_run 0 (pc' := 12) (l' := [(0, .inr (.inr 361)), (1, .inr (.inr t))]) (st' := []) rfl ?_
  refine k_run 2 (pc' := 14) (l' := [(0, .inr (.inr 361)), (1, .inr (.inr t))]) (st' := [.inl 2, .inr (.inr 361)]) rfl ?_
  refine k_putw (a := 361) (x := kx_361) rfl rfl rfl (by decide) (by decide) rfl rfl rfl rfl hI7 rfl (fun H11 hI12 hw13 => ?_)
  have hf15 : fq [(2, 5), (361, 3), (361, 4), (361, 5), (361, 6), (361, 8), (361, 9)] [4, 5, 6, 362] true H H11 := fq_w hf10 hw13 (fpo (by decide) rfl)
  refine k_run 0 (pc' := 17) (l' := [(0, .inr (.inr 361)), (1, .inr (.inr t))]) (st' := []) rfl ?_
  refine k_run 2 (pc' := 19) (l' := [(0, .inr (.inr 361)), (1, .inr (.inr t))]) (st' := [.inr (.inr t), .inr (.inr 361)]) rfl ?_
  refine h_cv (i := 105) (j := 81) (b := 361) (M' := mt_81) (xs := [.inr (.inr t)]) (rest := []) rfl rfl rfl rfl (zs_K (x := kx_361) rfl (by decide)) rfl (Nat.le_of_ble_eq_true rfl) (Nat.le_of_ble_eq_true rfl) (by omega) (k_Reader_startTerm (by omega) hI12 ht) ?_
  rintro _ H17 ⟨rfl, hI18, hq19⟩
  have hf20 : fq [(2, 5), (361, 3), (361, 4), (361, 5), (361, 6), (361, 8), (361, 9)] [4, 5, 6, 362] true H H17 := fq_t hf15 hq19 rfl rfl rfl
  refine k_run 0 (pc' := 22) (l' := [(0, .inr (.inr 361)), (1, .inr (.inr t))]) (st' := []) rfl ?_
  refine k_run 4 (pc' := 26) (l' := [(0, .inr (.inr 361)), (1, .inr (.inr t))]) (st' := [.inl 0, .inl 0, .inl (-1), .inr (.inr 361)]) rfl ?_
  refine h_cv (i := 109) (j := 73) (b := 361) (M' := mt_73) (xs := [.inl 0, .inl 0, .inl (-1)]) (rest := []) rfl rfl rfl rfl (zs_K (x := kx_361) rfl (by decide)) rfl (Nat.le_of_ble_eq_true rfl) (Nat.le_of_ble_eq_true rfl) (by omega) (k_Reader_readTerm (by omega) hI18 (by decide) (by decide) (by decide) (by omega)) ?_
  rintro _ H22 ⟨z25, rfl, g21, hI23, hq24⟩
  have hf26 : fq [(2, 5), (361, 3), (361, 4), (361, 5), (361, 6), (361, 8), (361, 9)] [4, 5, 6, 362] true H H22 := fq_t hf20 hq24 rfl rfl rfl
  refine k_run 0 (pc' := 29) (l' := [(0, .inr (.inr 361)), (1, .inr (.inr t))]) (st' := [.inl z25]) rfl ?_
  refine h_zeq (off := 15) (t := 44) rfl rfl (by omega) (fun c27 => ?_) (fun c27 => ?_)
  · refine k_run 0 (pc' := 44) (l' := [(0, .inr (.inr 361)), (1, .inr (.inr t))]) (st' := []) rfl ?_
    refine k_run 3 (pc' := 47) (l' := [(0, .inr (.inr 361)), (1, .inr (.inr t)), (2, .inl 0)]) (st' := [.inl 0]) rfl ?_
    refine h_zeq (off := 7) (t := 54) rfl rfl (by decide) (fun _ => ?_) (fun c => absurd c (by decide))
    refine k_run 0 (pc' := 54) (l' := [(0, .inr (.inr 361)), (1, .inr (.inr t)), (2, .inl 0)]) (st' := []) rfl ?_
    refine k_run 3 (pc' := 61) (l' := [(0, .inr (.inr 361)), (1, .inr (.inr t)), (2, .inl 0)]) (st' := [.inl (H22.1 361 5), .inl (-1000)]) rfl ?_
    have g28 : -2147483648 ≤ (H22.1 361 5) ∧ (H22.1 361 5) ≤ 2147483647 := kn (x := kx_361) hI23 rfl 5
    refine k_run 1 (pc' := 62) (l' := [(0, .inr (.inr 361)), (1, .inr (.inr t)), (2, .inl 0)]) (st' := [.inl ((-1000) - (H22.1 361 5))]) rfl ?_
    refine k_nrm (fun y29 hy29 => ?_)
    refine k_run 0 (pc' := 62) (l' := [(0, .inr (.inr 361)), (1, .inr (.inr t)), (2, .inl 0)]) (st' := [.inl y29]) rfl ?_
    refine h_reti (x := y29) rfl rfl ?_
    exact ⟨_, rfl, (by omega), hI23, hf26⟩
  · refine k_run 0 (pc' := 32) (l' := [(0, .inr (.inr 361)), (1, .inr (.inr t))]) (st' := []) rfl ?_
    refine k_run 2 (pc' := 34) (l' := [(0, .inr (.inr 361)), (1, .inr (.inr t))]) (st' := [.inl 0, .inr (.inr 361)]) rfl ?_
    refine h_cv (i := 92) (j := 82) (b := 361) (M' := mt_82) (xs := [.inl 0]) (rest := []) rfl rfl rfl rfl (zs_K (x := kx_361) rfl (by decide)) rfl (Nat.le_of_ble_eq_true rfl) (Nat.le_of_ble_eq_true rfl) (by omega) (k_Reader_take (by omega) hI23 (by decide)) ?_
    rintro _ H31 ⟨z34, rfl, g30, hI32, hq33⟩
    have hf35 : fq [(2, 5), (361, 3), (361, 4), (361, 5), (361, 6), (361, 8), (361, 9)] [4, 5, 6, 362] true H H31 := fq_t hf26 hq33 rfl rfl rfl
    refine k_run 0 (pc' := 37) (l' := [(0, .inr (.inr 361)), (1, .inr (.inr t))]) (st' := [.inl z34]) rfl ?_
    refine h_zeq (off := 7) (t := 44) rfl rfl (by omega) (fun c36 => ?_) (fun c36 => ?_)
    · refine k_run 0 (pc' := 44) (l' := [(0, .inr (.inr 361)), (1, .inr (.inr t))]) (st' := []) rfl ?_
      refine k_run 3 (pc' := 47) (l' := [(0, .inr (.inr 361)), (1, .inr (.inr t)), (2, .inl 0)]) (st' := [.inl 0]) rfl ?_
      refine h_zeq (off := 7) (t := 54) rfl rfl (by decide) (fun _ => ?_) (fun c => absurd c (by decide))
      refine k_run 0 (pc' := 54) (l' := [(0, .inr (.inr 361)), (1, .inr (.inr t)), (2, .inl 0)]) (st' := []) rfl ?_
      refine k_run 3 (pc' := 61) (l' := [(0, .inr (.inr 361)), (1, .inr (.inr t)), (2, .inl 0)]) (st' := [.inl (H31.1 361 5), .inl (-1000)]) rfl ?_
      have g37 : -2147483648 ≤ (H31.1 361 5) ∧ (H31.1 361 5) ≤ 2147483647 := kn (x := kx_361) hI32 rfl 5
      refine k_run 1 (pc' := 62) (l' := [(0, .inr (.inr 361)), (1, .inr (.inr t)), (2, .inl 0)]) (st' := [.inl ((-1000) - (H31.1 361 5))]) rfl ?_
      refine k_nrm (fun y38 hy38 => ?_)
      refine k_run 0 (pc' := 62) (l' := [(0, .inr (.inr 361)), (1, .inr (.inr t)), (2, .inl 0)]) (st' := [.inl y38]) rfl ?_
      refine h_reti (x := y38) rfl rfl ?_
      exact ⟨_, rfl, (by omega), hI32, hf35⟩
    · refine k_run 0 (pc' := 40) (l' := [(0, .inr (.inr 361)), (1, .inr (.inr t))]) (st' := []) rfl ?_
      refine k_run 4 (pc' := 47) (l' := [(0, .inr (.inr 361)), (1, .inr (.inr t)), (2, .inl 1)]) (st' := [.inl 1]) rfl ?_
      refine h_zeq (off := 7) (t := 54) rfl rfl (by decide) (fun c => absurd c (by decide)) (fun _ => ?_)
      refine k_run 0 (pc' := 50) (l' := [(0, .inr (.inr 361)), (1, .inr (.inr t)), (2, .inl 1)]) (st' := []) rfl ?_
      refine k_run 2 (pc' := 62) (l' := [(0, .inr (.inr 361)), (1, .inr (.inr t)), (2, .inl 1)]) (st' := [.inl 0]) rfl ?_
      refine h_reti (x := 0) rfl rfl ?_
      exact ⟨_, rfl, (by omega), hI32, hf35⟩

/-! Reader.readText -/
set_option maxRecDepth 100000 in
theorem k_Reader_readText_cut {d : Nat} (hd : 42 ≤ d) {H : hp} (hI : Inv H)   : ∀ w : Nat, (∀ (H1 : hp), Inv H1 → fq [(2, 5), (7, 5), (7, 6), (8, 4), (13, 4), (18, 4), (361, 3), (361, 4), (361, 5), (361, 6), (361, 7), (361, 8), (361, 9)] [4, 5, 6, 9, 10, 11, 14, 15, 16, 17, 19, 20, 21, 22, 362] true H H1 → ∀ (x1 : Int) (x2 : Int) (x3 : Int) (x4 : Int) (x5 : Int) (x6 : Int) (x7 : Int) , (-2147483648 ≤ x1 ∧ x1 ≤ 2147483647) → (-2147483648 ≤ x2 ∧ x2 ≤ 2147483647) → (-2147483648 ≤ x3 ∧ x3 ≤ 2147483647) → (-2147483648 ≤ x4 ∧ x4 ≤ 2147483647) → (-2147483648 ≤ x5 ∧ x5 ≤ 2147483647) → (-2147483648 ≤ x6 ∧ x6 ≤ 2147483647) → (-2147483648 ≤ x7 ∧ x7 ≤ 2147483647) → (0 ≤ x1 ∧ x1 ≤ 6) → (0 ≤ x2 ∧ x2 ≤ 16) → (0 ≤ x3 ∧ x3 ≤ 16) → (0 ≤ x4 ∧ x4 ≤ 40) → (0 ≤ x5 ∧ x5 ≤ 16) → (0 ≤ x6 ∧ x6 ≤ 1001) → (0 ≤ x7 ∧ x7 ≤ 1) → (((2000 - x6).toNat) < w) → hG (zs zK) d mt_62 69 [(0, .inr (.inr 361)), (1, .inl x1), (2, .inl x2), (3, .inl x3), (4, .inl x4), (5, .inl x5), (6, .inl x6), (7, .inl x7)] [] H1 (fun r9 H9 => ∃ z : Int, r9 = some (.inl z) ∧ ((-2147483648 ≤ z ∧ z ≤ 2147483647)) ∧ Inv H9 ∧ fq [(2, 5), (7, 5), (7, 6), (8, 4), (13, 4), (18, 4), (361, 3), (361, 4), (361, 5), (361, 6), (361, 7), (361, 8), (361, 9)] [4, 5, 6, 9, 10, 11, 14, 15, 16, 17, 19, 20, 21, 22, 362] true H H9)) := by
  intro w
  induction w with
  | zero => exact fun _ _ _ _ _ _ _ _ _ _ _ _ _ _ _ _ _ _ _ _ _ _ _ _ h => absurd h (Nat.not_lt_zero _)
  | succ w ih =>
    intro H1 hI1 hf1 x1 x2 x3 x4 x5 x6 x7 hx1 hx2 hx3 hx4 hx5 hx6 hx7 hi0 hi1 hi2 hi3 hi4 hi5 hi6 hw
    refine k_run 1 (pc' := 71) (l' := [(0, .inr (.inr 361)), (1, .inl x1), (2, .inl x2), (3, .inl x3), (4, .inl x4), (5, .inl x5), (6, .inl x6), (7, .inl x7)]) (st' := [.inl x7]) rfl ?_
    refine h_zeq (off := 155) (t := 226) rfl rfl (by omega) (fun c16 => ?_) (fun c16 => ?_)
    · refine k_run 0 (pc' := 226) (l' := [(0, .inr (.inr 361)), (1, .inl x1), (2, .inl x2), (3, .inl x3), (4, .inl x4), (5, .inl x5), (6, .inl x6), (7, .inl x7)]) (st' := []) rfl ?_
      refine k_run 1 (pc' := 228) (l' := [(0, .inr (.inr 361)), (1, .inl x1), (2, .inl x2), (3, .inl x3), (4, .inl x4), (5, .inl x5), (6, .inl x6), (7, .inl x7)]) (st' := [.inl x7]) rfl ?_
      refine h_zne (off := 63) (t := 291) rfl rfl (by omega) (fun c17 => ?_) (fun c17 => ?_)
      · exfalso
        omega
      · refine k_run 0 (pc' := 231) (l' := [(0, .inr (.inr 361)), (1, .inl x1), (2, .inl x2), (3, .inl x3), (4, .inl x4), (5, .inl x5), (6, .inl x6), (7, .inl x7)]) (st' := []) rfl ?_
        refine k_run 4 (pc' := 239) (l' := [(0, .inr (.inr 361)), (1, .inl x1), (2, .inl x2), (3, .inl x3), (4, .inl x4), (5, .inl x5), (6, .inl x6), (7, .inl x7)]) (st' := [.inl x1, .inr (.inr 8)]) rfl ?_
        refine k_puti (z := x1) (a := 8) (x := kx_8) rfl rfl rfl (by decide) (by decide) rfl rfl rfl rfl hI1 (by omega) (show 0 ≤ x1 ∧ x1 ≤ 6 by omega) (fun H18 hI19 hw20 hv21 => ?_)
        have hf22 : fq [(2, 5), (7, 5), (7, 6), (8, 4), (13, 4), (18, 4), (361, 3), (361, 4), (361, 5), (361, 6), (361, 7), (361, 8), (361, 9)] [4, 5, 6, 9, 10, 11, 14, 15, 16, 17, 19, 20, 21, 22, 362] true H H18 := fq_w hf1 hw20 (fpo (by decide) rfl)
        refine k_run 0 (pc' := 242) (l' := [(0, .inr (.inr 361)), (1, .inl x1), (2, .inl x2), (3, .inl x3), (4, .inl x4), (5, .inl x5), (6, .inl x6), (7, .inl x7)]) (st' := []) rfl ?_
        refine k_run 4 (pc' := 250) (l' := [(0, .inr (.inr 361)), (1, .inl x1), (2, .inl x2), (3, .inl x3), (4, .inl x4), (5, .inl x5), (6, .inl x6), (7, .inl x7)]) (st' := [.inl x2, .inr (.inr 13)]) rfl ?_
        refine k_puti (z := x2) (a := 13) (x := kx_13) rfl rfl rfl (by decide) (by decide) rfl rfl rfl rfl hI19 (by omega) (show 0 ≤ x2 ∧ x2 ≤ 16 by omega) (fun H23 hI24 hw25 hv26 => ?_)
        have hf27 : fq [(2, 5), (7, 5), (7, 6), (8, 4), (13, 4), (18, 4), (361, 3), (361, 4), (361, 5), (361, 6), (361, 7), (361, 8), (361, 9)] [4, 5, 6, 9, 10, 11, 14, 15, 16, 17, 19, 20, 21, 22, 362] true H H23 := fq_w hf22 hw25 (fpo (by decide) rfl)
        refine k_run 0 (pc' := 253) (l' := [(0, .inr (.inr 361)), (1, .inl x1), (2, .inl x2), (3, .inl x3), (4, .inl x4), (5, .inl x5), (6, .inl x6), (7, .inl x7)]) (st' := []) rfl ?_
        refine k_run 4 (pc' := 261) (l' := [(0, .inr (.inr 361)), (1, .inl x1), (2, .inl x2), (3, .inl x3), (4, .inl x4), (5, .inl x5), (6, .inl x6), (7, .inl x7)]) (st' := [.inl x3, .inr (.inr 18)]) rfl ?_
        refine k_puti (z := x3) (a := 18) (x := kx_18) rfl rfl rfl (by decide) (by decide) rfl rfl rfl rfl hI24 (by omega) (show 0 ≤ x3 ∧ x3 ≤ 16 by omega) (fun H28 hI29 hw30 hv31 => ?_)
        have hf32 : fq [(2, 5), (7, 5), (7, 6), (8, 4), (13, 4), (18, 4), (361, 3), (361, 4), (361, 5), (361, 6), (361, 7), (361, 8), (361, 9)] [4, 5, 6, 9, 10, 11, 14, 15, 16, 17, 19, 20, 21, 22, 362] true H H28 := fq_w hf27 hw30 (fpo (by decide) rfl)
        refine k_run 0 (pc' := 264) (l' := [(0, .inr (.inr 361)), (1, .inl x1), (2, .inl x2), (3, .inl x3), (4, .inl x4), (5, .inl x5), (6, .inl x6), (7, .inl x7)]) (st' := []) rfl ?_
        refine k_run 3 (pc' := 270) (l' := [(0, .inr (.inr 361)), (1, .inl x1), (2, .inl x2), (3, .inl x3), (4, .inl x4), (5, .inl x5), (6, .inl x6), (7, .inl x7)]) (st' := [.inl x4, .inr (.inr 7)]) rfl ?_
        refine k_puti (z := x4) (a := 7) (x := kx_7) rfl rfl rfl (by decide) (by decide) rfl rfl rfl rfl hI29 (by omega) (show 0 ≤ x4 ∧ x4 ≤ 40 by omega) (fun H33 hI34 hw35 hv36 => ?_)
        have hf37 : fq [(2, 5), (7, 5), (7, 6), (8, 4), (13, 4), (18, 4), (361, 3), (361, 4), (361, 5), (361, 6), (361, 7), (361, 8), (361, 9)] [4, 5, 6, 9, 10, 11, 14, 15, 16, 17, 19, 20, 21, 22, 362] true H H33 := fq_w hf32 hw35 (fpo (by decide) rfl)
        refine k_run 0 (pc' := 273) (l' := [(0, .inr (.inr 361)), (1, .inl x1), (2, .inl x2), (3, .inl x3), (4, .inl x4), (5, .inl x5), (6, .inl x6), (7, .inl x7)]) (st' := []) rfl ?_
        refine k_run 3 (pc' := 279) (l' := [(0, .inr (.inr 361)), (1, .inl x1), (2, .inl x2), (3, .inl x3), (4, .inl x4), (5, .inl x5), (6, .inl x6), (7, .inl x7)]) (st' := [.inl x5, .inr (.inr 7)]) rfl ?_
        refine k_puti (z := x5) (a := 7) (x := kx_7) rfl rfl rfl (by decide) (by decide) rfl rfl rfl rfl hI34 (by omega) (show 0 ≤ x5 ∧ x5 ≤ 16 by omega) (fun H38 hI39 hw40 hv41 => ?_)
        have hf42 : fq [(2, 5), (7, 5), (7, 6), (8, 4), (13, 4), (18, 4), (361, 3), (361, 4), (361, 5), (361, 6), (361, 7), (361, 8), (361, 9)] [4, 5, 6, 9, 10, 11, 14, 15, 16, 17, 19, 20, 21, 22, 362] true H H38 := fq_w hf37 hw40 (fpo (by decide) rfl)
        refine k_run 0 (pc' := 282) (l' := [(0, .inr (.inr 361)), (1, .inl x1), (2, .inl x2), (3, .inl x3), (4, .inl x4), (5, .inl x5), (6, .inl x6), (7, .inl x7)]) (st' := []) rfl ?_
        refine k_run 3 (pc' := 289) (l' := [(0, .inr (.inr 361)), (1, .inl x1), (2, .inl x2), (3, .inl x3), (4, .inl x4), (5, .inl x5), (6, .inl x6), (7, .inl x7)]) (st' := [.inl (H38.1 361 5), .inl (-1000)]) rfl ?_
        have g43 : -2147483648 ≤ (H38.1 361 5) ∧ (H38.1 361 5) ≤ 2147483647 := kn (x := kx_361) hI39 rfl 5
        have e44 : (H38.1 361 5) = (H33.1 361 5) := hw40.2 _ _ (fun q => absurd q.1 (by decide))
        have e45 : (H33.1 361 5) = (H28.1 361 5) := hw35.2 _ _ (fun q => absurd q.1 (by decide))
        have e46 : (H28.1 361 5) = (H23.1 361 5) := hw30.2 _ _ (fun q => absurd q.1 (by decide))
        have e47 : (H23.1 361 5) = (H18.1 361 5) := hw25.2 _ _ (fun q => absurd q.1 (by decide))
        have e48 : (H18.1 361 5) = (H1.1 361 5) := hw20.2 _ _ (fun q => absurd q.1 (by decide))
        refine k_run 1 (pc' := 290) (l' := [(0, .inr (.inr 361)), (1, .inl x1), (2, .inl x2), (3, .inl x3), (4, .inl x4), (5, .inl x5), (6, .inl x6), (7, .inl x7)]) (st' := [.inl ((-1000) - (H38.1 361 5))]) rfl ?_
        refine k_nrm (fun y49 hy49 => ?_)
        refine k_run 0 (pc' := 290) (l' := [(0, .inr (.inr 361)), (1, .inl x1), (2, .inl x2), (3, .inl x3), (4, .inl x4), (5, .inl x5), (6, .inl x6), (7, .inl x7)]) (st' := [.inl y49]) rfl ?_
        refine h_reti (x := y49) rfl rfl ?_
        exact ⟨_, rfl, (by omega), hI39, hf42⟩
    · refine k_run 0 (pc' := 74) (l' := [(0, .inr (.inr 361)), (1, .inl x1), (2, .inl x2), (3, .inl x3), (4, .inl x4), (5, .inl x5), (6, .inl x6), (7, .inl x7)]) (st' := []) rfl ?_
      refine k_run 2 (pc' := 79) (l' := [(0, .inr (.inr 361)), (1, .inl x1), (2, .inl x2), (3, .inl x3), (4, .inl x4), (5, .inl x5), (6, .inl x6), (7, .inl x7)]) (st' := [.inl 1000, .inl x6]) rfl ?_
      refine h_igt (off := 147) (t := 226) rfl rfl (by omega) (by decide) (fun c50 => ?_) (fun c50 => ?_)
      · refine k_run 0 (pc' := 226) (l' := [(0, .inr (.inr 361)), (1, .inl x1), (2, .inl x2), (3, .inl x3), (4, .inl x4), (5, .inl x5), (6, .inl x6), (7, .inl x7)]) (st' := []) rfl ?_
        refine k_run 1 (pc' := 228) (l' := [(0, .inr (.inr 361)), (1, .inl x1), (2, .inl x2), (3, .inl x3), (4, .inl x4), (5, .inl x5), (6, .inl x6), (7, .inl x7)]) (st' := [.inl x7]) rfl ?_
        refine h_zne (off := 63) (t := 291) rfl rfl (by omega) (fun c51 => ?_) (fun c51 => ?_)
        · refine k_run 0 (pc' := 291) (l' := [(0, .inr (.inr 361)), (1, .inl x1), (2, .inl x2), (3, .inl x3), (4, .inl x4), (5, .inl x5), (6, .inl x6), (7, .inl x7)]) (st' := []) rfl ?_
          refine k_run 3 (pc' := 298) (l' := [(0, .inr (.inr 361)), (1, .inl x1), (2, .inl x2), (3, .inl x3), (4, .inl x4), (5, .inl x5), (6, .inl x6), (7, .inl x7)]) (st' := [.inl (H1.1 7 5)]) rfl ?_
          have g52 : 0 ≤ (H1.1 7 5) ∧ (H1.1 7 5) ≤ 40 := kn (x := kx_7) hI1 rfl 5
          refine k_run 1 (pc' := 300) (l' := [(0, .inr (.inr 361)), (1, .inl x1), (2, .inl x2), (3, .inl x3), (4, .inl x4), (5, .inl x5), (6, .inl x6), (7, .inl x7)]) (st' := [.inl x4, .inl (H1.1 7 5)]) rfl ?_
          refine h_ile (off := 10) (t := 310) rfl rfl (by omega) (by omega) (fun c53 => ?_) (fun c53 => ?_)
          · refine k_run 0 (pc' := 310) (l' := [(0, .inr (.inr 361)), (1, .inl x1), (2, .inl x2), (3, .inl x3), (4, .inl x4), (5, .inl x5), (6, .inl x6), (7, .inl x7)]) (st' := []) rfl ?_
            refine k_run 1 (pc' := 312) (l' := [(0, .inr (.inr 361)), (1, .inl x1), (2, .inl x2), (3, .inl x3), (4, .inl x4), (5, .inl x5), (6, .inl x6), (7, .inl x7)]) (st' := [.inl x6]) rfl ?_
            refine h_reti (x := x6) rfl rfl ?_
            exact ⟨_, rfl, (by omega), hI1, hf1⟩
          · refine k_run 0 (pc' := 303) (l' := [(0, .inr (.inr 361)), (1, .inl x1), (2, .inl x2), (3, .inl x3), (4, .inl x4), (5, .inl x5), (6, .inl x6), (7, .inl x7)]) (st' := []) rfl ?_
            refine k_run 2 (pc' := 307) (l' := [(0, .inr (.inr 361)), (1, .inl x1), (2, .inl x2), (3, .inl x3), (4, .inl x4), (5, .inl x5), (6, .inl x6), (7, .inl x7)]) (st' := [.inr (.inr 7)]) rfl ?_
            refine h_cv (i := 99) (j := 39) (b := 7) (M' := mt_39) (xs := []) (rest := []) rfl rfl rfl rfl (zs_K (x := kx_7) rfl (by decide)) rfl (Nat.le_of_ble_eq_true rfl) (Nat.le_of_ble_eq_true rfl) (by omega) (k_Program_forgetProofs (by omega) hI1 ) ?_
            rintro _ H55 ⟨rfl, hI56, hq57⟩
            have hf58 : fq [(2, 5), (7, 5), (7, 6), (8, 4), (13, 4), (18, 4), (361, 3), (361, 4), (361, 5), (361, 6), (361, 7), (361, 8), (361, 9)] [4, 5, 6, 9, 10, 11, 14, 15, 16, 17, 19, 20, 21, 22, 362] true H H55 := fq_t hf1 hq57 rfl rfl rfl
            refine k_run 0 (pc' := 310) (l' := [(0, .inr (.inr 361)), (1, .inl x1), (2, .inl x2), (3, .inl x3), (4, .inl x4), (5, .inl x5), (6, .inl x6), (7, .inl x7)]) (st' := []) rfl ?_
            refine k_run 1 (pc' := 312) (l' := [(0, .inr (.inr 361)), (1, .inl x1), (2, .inl x2), (3, .inl x3), (4, .inl x4), (5, .inl x5), (6, .inl x6), (7, .inl x7)]) (st' := [.inl x6]) rfl ?_
            refine h_reti (x := x6) rfl rfl ?_
            exact ⟨_, rfl, (by omega), hI56, hf58⟩
        · exfalso
          omega
      · refine k_run 0 (pc' := 82) (l' := [(0, .inr (.inr 361)), (1, .inl x1), (2, .inl x2), (3, .inl x3), (4, .inl x4), (5, .inl x5), (6, .inl x6), (7, .inl x7)]) (st' := []) rfl ?_
        refine k_run 1 (pc' := 83) (l' := [(0, .inr (.inr 361)), (1, .inl x1), (2, .inl x2), (3, .inl x3), (4, .inl x4), (5, .inl x5), (6, .inl x6), (7, .inl x7)]) (st' := [.inr (.inr 361)]) rfl ?_
        refine h_cv (i := 72) (j := 83) (b := 361) (M' := mt_83) (xs := []) (rest := []) rfl rfl rfl rfl (zs_K (x := kx_361) rfl (by decide)) rfl (Nat.le_of_ble_eq_true rfl) (Nat.le_of_ble_eq_true rfl) (by omega) (k_Reader_token (by omega) hI1 ) ?_
        rintro _ _ ⟨z63, rfl, g59, rfl⟩
        refine k_run 0 (pc' := 86) (l' := [(0, .inr (.inr 361)), (1, .inl x1), (2, .inl x2), (3, .inl x3), (4, .inl x4), (5, .inl x5), (6, .inl x6), (7, .inl x7)]) (st' := [.inl z63]) rfl ?_
        refine h_zeq (off := 140) (t := 226) rfl rfl (by omega) (fun c64 => ?_) (fun c64 => ?_)
        · refine k_run 0 (pc' := 226) (l' := [(0, .inr (.inr 361)), (1, .inl x1), (2, .inl x2), (3, .inl x3), (4, .inl x4), (5, .inl x5), (6, .inl x6), (7, .inl x7)]) (st' := []) rfl ?_
          refine k_run 1 (pc' := 228) (l' := [(0, .inr (.inr 361)), (1, .inl x1), (2, .inl x2), (3, .inl x3), (4, .inl x4), (5, .inl x5), (6, .inl x6), (7, .inl x7)]) (st' := [.inl x7]) rfl ?_
          refine h_zne (off := 63) (t := 291) rfl rfl (by omega) (fun c65 => ?_) (fun c65 => ?_)
          · refine k_run 0 (pc' := 291) (l' := [(0, .inr (.inr 361)), (1, .inl x1), (2, .inl x2), (3, .inl x3), (4, .inl x4), (5, .inl x5), (6, .inl x6), (7, .inl x7)]) (st' := []) rfl ?_
            refine k_run 3 (pc' := 298) (l' := [(0, .inr (.inr 361)), (1, .inl x1), (2, .inl x2), (3, .inl x3), (4, .inl x4), (5, .inl x5), (6, .inl x6), (7, .inl x7)]) (st' := [.inl (H1.1 7 5)]) rfl ?_
            have g66 : 0 ≤ (H1.1 7 5) ∧ (H1.1 7 5) ≤ 40 := kn (x := kx_7) hI1 rfl 5
            refine k_run 1 (pc' := 300) (l' := [(0, .inr (.inr 361)), (1, .inl x1), (2, .inl x2), (3, .inl x3), (4, .inl x4), (5, .inl x5), (6, .inl x6), (7, .inl x7)]) (st' := [.inl x4, .inl (H1.1 7 5)]) rfl ?_
            refine h_ile (off := 10) (t := 310) rfl rfl (by omega) (by omega) (fun c67 => ?_) (fun c67 => ?_)
            · refine k_run 0 (pc' := 310) (l' := [(0, .inr (.inr 361)), (1, .inl x1), (2, .inl x2), (3, .inl x3), (4, .inl x4), (5, .inl x5), (6, .inl x6), (7, .inl x7)]) (st' := []) rfl ?_
              refine k_run 1 (pc' := 312) (l' := [(0, .inr (.inr 361)), (1, .inl x1), (2, .inl x2), (3, .inl x3), (4, .inl x4), (5, .inl x5), (6, .inl x6), (7, .inl x7)]) (st' := [.inl x6]) rfl ?_
              refine h_reti (x := x6) rfl rfl ?_
              exact ⟨_, rfl, (by omega), hI1, hf1⟩
            · refine k_run 0 (pc' := 303) (l' := [(0, .inr (.inr 361)), (1, .inl x1), (2, .inl x2), (3, .inl x3), (4, .inl x4), (5, .inl x5), (6, .inl x6), (7, .inl x7)]) (st' := []) rfl ?_
              refine k_run 2 (pc' := 307) (l' := [(0, .inr (.inr 361)), (1, .inl x1), (2, .inl x2), (3, .inl x3), (4, .inl x4), (5, .inl x5), (6, .inl x6), (7, .inl x7)]) (st' := [.inr (.inr 7)]) rfl ?_
              refine h_cv (i := 99) (j := 39) (b := 7) (M' := mt_39) (xs := []) (rest := []) rfl rfl rfl rfl (zs_K (x := kx_7) rfl (by decide)) rfl (Nat.le_of_ble_eq_true rfl) (Nat.le_of_ble_eq_true rfl) (by omega) (k_Program_forgetProofs (by omega) hI1 ) ?_
              rintro _ H69 ⟨rfl, hI70, hq71⟩
              have hf72 : fq [(2, 5), (7, 5), (7, 6), (8, 4), (13, 4), (18, 4), (361, 3), (361, 4), (361, 5), (361, 6), (361, 7), (361, 8), (361, 9)] [4, 5, 6, 9, 10, 11, 14, 15, 16, 17, 19, 20, 21, 22, 362] true H H69 := fq_t hf1 hq71 rfl rfl rfl
              refine k_run 0 (pc' := 310) (l' := [(0, .inr (.inr 361)), (1, .inl x1), (2, .inl x2), (3, .inl x3), (4, .inl x4), (5, .inl x5), (6, .inl x6), (7, .inl x7)]) (st' := []) rfl ?_
              refine k_run 1 (pc' := 312) (l' := [(0, .inr (.inr 361)), (1, .inl x1), (2, .inl x2), (3, .inl x3), (4, .inl x4), (5, .inl x5), (6, .inl x6), (7, .inl x7)]) (st' := [.inl x6]) rfl ?_
              refine h_reti (x := x6) rfl rfl ?_
              exact ⟨_, rfl, (by omega), hI70, hf72⟩
          · exfalso
            omega
        · refine k_run 0 (pc' := 89) (l' := [(0, .inr (.inr 361)), (1, .inl x1), (2, .inl x2), (3, .inl x3), (4, .inl x4), (5, .inl x5), (6, .inl x6), (7, .inl x7)]) (st' := []) rfl ?_
          refine k_run 1 (pc' := 90) (l' := [(0, .inr (.inr 361)), (1, .inl x1), (2, .inl x2), (3, .inl x3), (4, .inl x4), (5, .inl x5), (6, .inl x6), (7, .inl x7)]) (st' := [.inr (.inr 361)]) rfl ?_
          refine h_cv (i := 72) (j := 83) (b := 361) (M' := mt_83) (xs := []) (rest := []) rfl rfl rfl rfl (zs_K (x := kx_361) rfl (by decide)) rfl (Nat.le_of_ble_eq_true rfl) (Nat.le_of_ble_eq_true rfl) (by omega) (k_Reader_token (by omega) hI1 ) ?_
          rintro _ _ ⟨z77, rfl, g73, rfl⟩
          refine k_run 0 (pc' := 93) (l' := [(0, .inr (.inr 361)), (1, .inl x1), (2, .inl x2), (3, .inl x3), (4, .inl x4), (5, .inl x5), (6, .inl x6), (7, .inl x7)]) (st' := [.inl z77]) rfl ?_
          refine k_run 2 (pc' := 97) (l' := [(0, .inr (.inr 361)), (1, .inl x1), (2, .inl x2), (3, .inl x3), (4, .inl x4), (5, .inl x5), (6, .inl x6), (7, .inl x7), (8, .inl z77)]) (st' := [.inl z77]) rfl ?_
          rcases (show z77 < 4 ∨ 7 < z77 ∨ z77 = 4 ∨ z77 = 5 ∨ z77 = 6 ∨ z77 = 7 by omega) with c78 | c78 | c78 | c78 | c78 | c78
          · refine h_tout (t := 164) rfl (by omega) (Or.inl c78) rfl ?_
            refine k_run 1 (pc' := 165) (l' := [(0, .inr (.inr 361)), (1, .inl x1), (2, .inl x2), (3, .inl x3), (4, .inl x4), (5, .inl x5), (6, .inl x6), (7, .inl x7), (8, .inl z77)]) (st' := [.inr (.inr 361)]) rfl ?_
            refine h_cv (i := 89) (j := 85) (b := 361) (M' := mt_85) (xs := []) (rest := []) rfl rfl rfl rfl (zs_K (x := kx_361) rfl (by decide)) rfl (Nat.le_of_ble_eq_true rfl) (Nat.le_of_ble_eq_true rfl) (by omega) (k_Reader_misplaced (by omega) hI1 ) ?_
            rintro _ H80 ⟨z83, rfl, g79, hI81, hq82⟩
            have hf84 : fq [(2, 5), (7, 5), (7, 6), (8, 4), (13, 4), (18, 4), (361, 3), (361, 4), (361, 5), (361, 6), (361, 7), (361, 8), (361, 9)] [4, 5, 6, 9, 10, 11, 14, 15, 16, 17, 19, 20, 21, 22, 362] true H H80 := fq_t hf1 hq82 rfl rfl rfl
            refine k_run 0 (pc' := 168) (l' := [(0, .inr (.inr 361)), (1, .inl x1), (2, .inl x2), (3, .inl x3), (4, .inl x4), (5, .inl x5), (6, .inl x6), (7, .inl x7), (8, .inl z77)]) (st' := [.inl z83]) rfl ?_
            refine k_run 2 (pc' := 172) (l' := [(0, .inr (.inr 361)), (1, .inl x1), (2, .inl x2), (3, .inl x3), (4, .inl x4), (5, .inl x5), (6, .inl x6), (7, .inl z83), (8, .inl z77)]) (st' := [.inl z83]) rfl ?_
            refine h_zeq (off := 16) (t := 188) rfl rfl (by omega) (fun c85 => ?_) (fun c85 => ?_)
            · refine k_run 0 (pc' := 188) (l' := [(0, .inr (.inr 361)), (1, .inl x1), (2, .inl x2), (3, .inl x3), (4, .inl x4), (5, .inl x5), (6, .inl x6), (7, .inl z83), (8, .inl z77)]) (st' := []) rfl ?_
              refine k_run 6 (pc' := 199) (l' := [(0, .inr (.inr 361)), (1, .inl x1), (2, .inl x2), (3, .inl x3), (4, .inl x4), (5, .inl x5), (6, .inl x6), (7, .inl 0), (8, .inl z77)]) (st' := [.inl (H80.1 7 6), .inr (.inr 7)]) rfl ?_
              have g86 : 0 ≤ (H80.1 7 6) ∧ (H80.1 7 6) ≤ 16 := kn (x := kx_7) hI81 rfl 6
              have e87 : (H80.1 7 6) = (H1.1 7 6) := (hq82.1 7 6 rfl (by decide) (by decide)).1
              refine k_run 1 (pc' := 201) (l' := [(0, .inr (.inr 361)), (1, .inl x1), (2, .inl x2), (3, .inl x3), (4, .inl x4), (5, .inl x5), (6, .inl x6), (7, .inl 0), (8, .inl z77)]) (st' := [.inl 0, .inl (H80.1 7 6), .inr (.inr 7)]) rfl ?_
              refine h_zeq (off := 14) (t := 215) rfl rfl (by decide) (fun _ => ?_) (fun c => absurd c (by decide))
              refine k_run 0 (pc' := 215) (l' := [(0, .inr (.inr 361)), (1, .inl x1), (2, .inl x2), (3, .inl x3), (4, .inl x4), (5, .inl x5), (6, .inl x6), (7, .inl 0), (8, .inl z77)]) (st' := [.inl (H80.1 7 6), .inr (.inr 7)]) rfl ?_
              refine k_run 2 (pc' := 217) (l' := [(0, .inr (.inr 361)), (1, .inl x1), (2, .inl x2), (3, .inl x3), (4, .inl x4), (5, .inl x5), (6, .inl x6), (7, .inl 0), (8, .inl z77)]) (st' := [.inl ((H80.1 7 6) + 0), .inr (.inr 7)]) rfl ?_
              refine k_puti (z := ((H80.1 7 6) + 0)) (a := 7) (x := kx_7) rfl rfl rfl (by decide) (by decide) rfl rfl rfl rfl hI81 (by omega) (show 0 ≤ ((H80.1 7 6) + 0) ∧ ((H80.1 7 6) + 0) ≤ 16 by omega) (fun H88 hI89 hw90 hv91 => ?_)
              have hf92 : fq [(2, 5), (7, 5), (7, 6), (8, 4), (13, 4), (18, 4), (361, 3), (361, 4), (361, 5), (361, 6), (361, 7), (361, 8), (361, 9)] [4, 5, 6, 9, 10, 11, 14, 15, 16, 17, 19, 20, 21, 22, 362] true H H88 := fq_w hf84 hw90 (fpo (by decide) rfl)
              refine k_run 0 (pc' := 220) (l' := [(0, .inr (.inr 361)), (1, .inl x1), (2, .inl x2), (3, .inl x3), (4, .inl x4), (5, .inl x5), (6, .inl x6), (7, .inl 0), (8, .inl z77)]) (st' := []) rfl ?_
              refine k_run 2 (pc' := 69) (l' := [(0, .inr (.inr 361)), (1, .inl x1), (2, .inl x2), (3, .inl x3), (4, .inl x4), (5, .inl x5), (6, .inl (x6 + 1)), (7, .inl 0), (8, .inl z77)]) (st' := []) rfl ?_
              refine h_loc [0, 1, 2, 3, 4, 5, 6, 7] rfl ?_
              exact ih H88 hI89 hf92 x1 x2 x3 x4 x5 (x6 + 1) (0 : Int) (by omega) (by omega) (by omega) (by omega) (by omega) (by omega) (by decide) (by omega) (by omega) (by omega) (by omega) (by omega) (by omega) (by omega) (by omega)
            · refine k_run 0 (pc' := 175) (l' := [(0, .inr (.inr 361)), (1, .inl x1), (2, .inl x2), (3, .inl x3), (4, .inl x4), (5, .inl x5), (6, .inl x6), (7, .inl z83), (8, .inl z77)]) (st' := []) rfl ?_
              refine k_run 2 (pc' := 178) (l' := [(0, .inr (.inr 361)), (1, .inl x1), (2, .inl x2), (3, .inl x3), (4, .inl x4), (5, .inl x5), (6, .inl x6), (7, .inl z83), (8, .inl z77)]) (st' := [.inl 59, .inr (.inr 361)]) rfl ?_
              refine h_cv (i := 92) (j := 82) (b := 361) (M' := mt_82) (xs := [.inl 59]) (rest := []) rfl rfl rfl rfl (zs_K (x := kx_361) rfl (by decide)) rfl (Nat.le_of_ble_eq_true rfl) (Nat.le_of_ble_eq_true rfl) (by omega) (k_Reader_take (by omega) hI81 (by decide)) ?_
              rintro _ H94 ⟨z97, rfl, g93, hI95, hq96⟩
              have hf98 : fq [(2, 5), (7, 5), (7, 6), (8, 4), (13, 4), (18, 4), (361, 3), (361, 4), (361, 5), (361, 6), (361, 7), (361, 8), (361, 9)] [4, 5, 6, 9, 10, 11, 14, 15, 16, 17, 19, 20, 21, 22, 362] true H H94 := fq_t hf84 hq96 rfl rfl rfl
              refine k_run 0 (pc' := 181) (l' := [(0, .inr (.inr 361)), (1, .inl x1), (2, .inl x2), (3, .inl x3), (4, .inl x4), (5, .inl x5), (6, .inl x6), (7, .inl z83), (8, .inl z77)]) (st' := [.inl z97]) rfl ?_
              refine h_zeq (off := 7) (t := 188) rfl rfl (by omega) (fun c99 => ?_) (fun c99 => ?_)
              · refine k_run 0 (pc' := 188) (l' := [(0, .inr (.inr 361)), (1, .inl x1), (2, .inl x2), (3, .inl x3), (4, .inl x4), (5, .inl x5), (6, .inl x6), (7, .inl z83), (8, .inl z77)]) (st' := []) rfl ?_
                refine k_run 6 (pc' := 199) (l' := [(0, .inr (.inr 361)), (1, .inl x1), (2, .inl x2), (3, .inl x3), (4, .inl x4), (5, .inl x5), (6, .inl x6), (7, .inl 0), (8, .inl z77)]) (st' := [.inl (H94.1 7 6), .inr (.inr 7)]) rfl ?_
                have g100 : 0 ≤ (H94.1 7 6) ∧ (H94.1 7 6) ≤ 16 := kn (x := kx_7) hI95 rfl 6
                have e101 : (H94.1 7 6) = (H80.1 7 6) := (hq96.1 7 6 rfl (by decide) (by decide)).1
                have e102 : (H80.1 7 6) = (H1.1 7 6) := (hq82.1 7 6 rfl (by decide) (by decide)).1
                refine k_run 1 (pc' := 201) (l' := [(0, .inr (.inr 361)), (1, .inl x1), (2, .inl x2), (3, .inl x3), (4, .inl x4), (5, .inl x5), (6, .inl x6), (7, .inl 0), (8, .inl z77)]) (st' := [.inl 0, .inl (H94.1 7 6), .inr (.inr 7)]) rfl ?_
                refine h_zeq (off := 14) (t := 215) rfl rfl (by decide) (fun _ => ?_) (fun c => absurd c (by decide))
                refine k_run 0 (pc' := 215) (l' := [(0, .inr (.inr 361)), (1, .inl x1), (2, .inl x2), (3, .inl x3), (4, .inl x4), (5, .inl x5), (6, .inl x6), (7, .inl 0), (8, .inl z77)]) (st' := [.inl (H94.1 7 6), .inr (.inr 7)]) rfl ?_
                refine k_run 2 (pc' := 217) (l' := [(0, .inr (.inr 361)), (1, .inl x1), (2, .inl x2), (3, .inl x3), (4, .inl x4), (5, .inl x5), (6, .inl x6), (7, .inl 0), (8, .inl z77)]) (st' := [.inl ((H94.1 7 6) + 0), .inr (.inr 7)]) rfl ?_
                refine k_puti (z := ((H94.1 7 6) + 0)) (a := 7) (x := kx_7) rfl rfl rfl (by decide) (by decide) rfl rfl rfl rfl hI95 (by omega) (show 0 ≤ ((H94.1 7 6) + 0) ∧ ((H94.1 7 6) + 0) ≤ 16 by omega) (fun H103 hI104 hw105 hv106 => ?_)
                have hf107 : fq [(2, 5), (7, 5), (7, 6), (8, 4), (13, 4), (18, 4), (361, 3), (361, 4), (361, 5), (361, 6), (361, 7), (361, 8), (361, 9)] [4, 5, 6, 9, 10, 11, 14, 15, 16, 17, 19, 20, 21, 22, 362] true H H103 := fq_w hf98 hw105 (fpo (by decide) rfl)
                refine k_run 0 (pc' := 220) (l' := [(0, .inr (.inr 361)), (1, .inl x1), (2, .inl x2), (3, .inl x3), (4, .inl x4), (5, .inl x5), (6, .inl x6), (7, .inl 0), (8, .inl z77)]) (st' := []) rfl ?_
                refine k_run 2 (pc' := 69) (l' := [(0, .inr (.inr 361)), (1, .inl x1), (2, .inl x2), (3, .inl x3), (4, .inl x4), (5, .inl x5), (6, .inl (x6 + 1)), (7, .inl 0), (8, .inl z77)]) (st' := []) rfl ?_
                refine h_loc [0, 1, 2, 3, 4, 5, 6, 7] rfl ?_
                exact ih H103 hI104 hf107 x1 x2 x3 x4 x5 (x6 + 1) (0 : Int) (by omega) (by omega) (by omega) (by omega) (by omega) (by omega) (by decide) (by omega) (by omega) (by omega) (by omega) (by omega) (by omega) (by omega) (by omega)
              · refine k_run 0 (pc' := 184) (l' := [(0, .inr (.inr 361)), (1, .inl x1), (2, .inl x2), (3, .inl x3), (4, .inl x4), (5, .inl x5), (6, .inl x6), (7, .inl z83), (8, .inl z77)]) (st' := []) rfl ?_
                refine k_run 7 (pc' := 199) (l' := [(0, .inr (.inr 361)), (1, .inl x1), (2, .inl x2), (3, .inl x3), (4, .inl x4), (5, .inl x5), (6, .inl x6), (7, .inl 1), (8, .inl z77)]) (st' := [.inl (H94.1 7 6), .inr (.inr 7)]) rfl ?_
                have g108 : 0 ≤ (H94.1 7 6) ∧ (H94.1 7 6) ≤ 16 := kn (x := kx_7) hI95 rfl 6
                have e109 : (H94.1 7 6) = (H80.1 7 6) := (hq96.1 7 6 rfl (by decide) (by decide)).1
                have e110 : (H80.1 7 6) = (H1.1 7 6) := (hq82.1 7 6 rfl (by decide) (by decide)).1
                refine k_run 1 (pc' := 201) (l' := [(0, .inr (.inr 361)), (1, .inl x1), (2, .inl x2), (3, .inl x3), (4, .inl x4), (5, .inl x5), (6, .inl x6), (7, .inl 1), (8, .inl z77)]) (st' := [.inl 1, .inl (H94.1 7 6), .inr (.inr 7)]) rfl ?_
                refine h_zeq (off := 14) (t := 215) rfl rfl (by decide) (fun c => absurd c (by decide)) (fun _ => ?_)
                refine k_run 0 (pc' := 204) (l' := [(0, .inr (.inr 361)), (1, .inl x1), (2, .inl x2), (3, .inl x3), (4, .inl x4), (5, .inl x5), (6, .inl x6), (7, .inl 1), (8, .inl z77)]) (st' := [.inl (H94.1 7 6), .inr (.inr 7)]) rfl ?_
                refine k_run 2 (pc' := 208) (l' := [(0, .inr (.inr 361)), (1, .inl x1), (2, .inl x2), (3, .inl x3), (4, .inl x4), (5, .inl x5), (6, .inl x6), (7, .inl 1), (8, .inl z77)]) (st' := [.inl 7, .inl z77, .inl (H94.1 7 6), .inr (.inr 7)]) rfl ?_
                refine h_ine (off := 7) (t := 215) rfl rfl (by omega) (by decide) (fun c111 => ?_) (fun c111 => ?_)
                · refine k_run 0 (pc' := 215) (l' := [(0, .inr (.inr 361)), (1, .inl x1), (2, .inl x2), (3, .inl x3), (4, .inl x4), (5, .inl x5), (6, .inl x6), (7, .inl 1), (8, .inl z77)]) (st' := [.inl (H94.1 7 6), .inr (.inr 7)]) rfl ?_
                  refine k_run 2 (pc' := 217) (l' := [(0, .inr (.inr 361)), (1, .inl x1), (2, .inl x2), (3, .inl x3), (4, .inl x4), (5, .inl x5), (6, .inl x6), (7, .inl 1), (8, .inl z77)]) (st' := [.inl ((H94.1 7 6) + 0), .inr (.inr 7)]) rfl ?_
                  refine k_puti (z := ((H94.1 7 6) + 0)) (a := 7) (x := kx_7) rfl rfl rfl (by decide) (by decide) rfl rfl rfl rfl hI95 (by omega) (show 0 ≤ ((H94.1 7 6) + 0) ∧ ((H94.1 7 6) + 0) ≤ 16 by omega) (fun H112 hI113 hw114 hv115 => ?_)
                  have hf116 : fq [(2, 5), (7, 5), (7, 6), (8, 4), (13, 4), (18, 4), (361, 3), (361, 4), (361, 5), (361, 6), (361, 7), (361, 8), (361, 9)] [4, 5, 6, 9, 10, 11, 14, 15, 16, 17, 19, 20, 21, 22, 362] true H H112 := fq_w hf98 hw114 (fpo (by decide) rfl)
                  refine k_run 0 (pc' := 220) (l' := [(0, .inr (.inr 361)), (1, .inl x1), (2, .inl x2), (3, .inl x3), (4, .inl x4), (5, .inl x5), (6, .inl x6), (7, .inl 1), (8, .inl z77)]) (st' := []) rfl ?_
                  refine k_run 2 (pc' := 69) (l' := [(0, .inr (.inr 361)), (1, .inl x1), (2, .inl x2), (3, .inl x3), (4, .inl x4), (5, .inl x5), (6, .inl (x6 + 1)), (7, .inl 1), (8, .inl z77)]) (st' := []) rfl ?_
                  refine h_loc [0, 1, 2, 3, 4, 5, 6, 7] rfl ?_
                  exact ih H112 hI113 hf116 x1 x2 x3 x4 x5 (x6 + 1) (1 : Int) (by omega) (by omega) (by omega) (by omega) (by omega) (by omega) (by decide) (by omega) (by omega) (by omega) (by omega) (by omega) (by omega) (by omega) (by omega)
                · refine k_run 0 (pc' := 211) (l' := [(0, .inr (.inr 361)), (1, .inl x1), (2, .inl x2), (3, .inl x3), (4, .inl x4), (5, .inl x5), (6, .inl x6), (7, .inl 1), (8, .inl z77)]) (st' := [.inl (H94.1 7 6), .inr (.inr 7)]) rfl ?_
                  refine k_run 3 (pc' := 217) (l' := [(0, .inr (.inr 361)), (1, .inl x1), (2, .inl x2), (3, .inl x3), (4, .inl x4), (5, .inl x5), (6, .inl x6), (7, .inl 1), (8, .inl z77)]) (st' := [.inl ((H94.1 7 6) + 1), .inr (.inr 7)]) rfl ?_
                  refine k_puti (z := ((H94.1 7 6) + 1)) (a := 7) (x := kx_7) rfl rfl rfl (by decide) (by decide) rfl rfl rfl rfl hI95 (by omega) (show 0 ≤ ((H94.1 7 6) + 1) ∧ ((H94.1 7 6) + 1) ≤ 16 by omega) (fun H117 hI118 hw119 hv120 => ?_)
                  have hf121 : fq [(2, 5), (7, 5), (7, 6), (8, 4), (13, 4), (18, 4), (361, 3), (361, 4), (361, 5), (361, 6), (361, 7), (361, 8), (361, 9)] [4, 5, 6, 9, 10, 11, 14, 15, 16, 17, 19, 20, 21, 22, 362] true H H117 := fq_w hf98 hw119 (fpo (by decide) rfl)
                  refine k_run 0 (pc' := 220) (l' := [(0, .inr (.inr 361)), (1, .inl x1), (2, .inl x2), (3, .inl x3), (4, .inl x4), (5, .inl x5), (6, .inl x6), (7, .inl 1), (8, .inl z77)]) (st' := []) rfl ?_
                  refine k_run 2 (pc' := 69) (l' := [(0, .inr (.inr 361)), (1, .inl x1), (2, .inl x2), (3, .inl x3), (4, .inl x4), (5, .inl x5), (6, .inl (x6 + 1)), (7, .inl 1), (8, .inl z77)]) (st' := []) rfl ?_
                  refine h_loc [0, 1, 2, 3, 4, 5, 6, 7] rfl ?_
                  exact ih H117 hI118 hf121 x1 x2 x3 x4 x5 (x6 + 1) (1 : Int) (by omega) (by omega) (by omega) (by omega) (by omega) (by omega) (by decide) (by omega) (by omega) (by omega) (by omega) (by omega) (by omega) (by omega) (by omega)
          · refine h_tout (t := 164) rfl (by omega) (Or.inr c78) rfl ?_
            refine k_run 1 (pc' := 165) (l' := [(0, .inr (.inr 361)), (1, .inl x1), (2, .inl x2), (3, .inl x3), (4, .inl x4), (5, .inl x5), (6, .inl x6), (7, .inl x7), (8, .inl z77)]) (st' := [.inr (.inr 361)]) rfl ?_
            refine h_cv (i := 89) (j := 85) (b := 361) (M' := mt_85) (xs := []) (rest := []) rfl rfl rfl rfl (zs_K (x := kx_361) rfl (by decide)) rfl (Nat.le_of_ble_eq_true rfl) (Nat.le_of_ble_eq_true rfl) (by omega) (k_Reader_misplaced (by omega) hI1 ) ?_
            rintro _ H123 ⟨z126, rfl, g122, hI124, hq125⟩
            have hf127 : fq [(2, 5), (7, 5), (7, 6), (8, 4), (13, 4), (18, 4), (361, 3), (361, 4), (361, 5), (361, 6), (361, 7), (361, 8), (361, 9)] [4, 5, 6, 9, 10, 11, 14, 15, 16, 17, 19, 20, 21, 22, 362] true H H123 := fq_t hf1 hq125 rfl rfl rfl
            refine k_run 0 (pc' := 168) (l' := [(0, .inr (.inr 361)), (1, .inl x1), (2, .inl x2), (3, .inl x3), (4, .inl x4), (5, .inl x5), (6, .inl x6), (7, .inl x7), (8, .inl z77)]) (st' := [.inl z126]) rfl ?_
            refine k_run 2 (pc' := 172) (l' := [(0, .inr (.inr 361)), (1, .inl x1), (2, .inl x2), (3, .inl x3), (4, .inl x4), (5, .inl x5), (6, .inl x6), (7, .inl z126), (8, .inl z77)]) (st' := [.inl z126]) rfl ?_
            refine h_zeq (off := 16) (t := 188) rfl rfl (by omega) (fun c128 => ?_) (fun c128 => ?_)
            · refine k_run 0 (pc' := 188) (l' := [(0, .inr (.inr 361)), (1, .inl x1), (2, .inl x2), (3, .inl x3), (4, .inl x4), (5, .inl x5), (6, .inl x6), (7, .inl z126), (8, .inl z77)]) (st' := []) rfl ?_
              refine k_run 6 (pc' := 199) (l' := [(0, .inr (.inr 361)), (1, .inl x1), (2, .inl x2), (3, .inl x3), (4, .inl x4), (5, .inl x5), (6, .inl x6), (7, .inl 0), (8, .inl z77)]) (st' := [.inl (H123.1 7 6), .inr (.inr 7)]) rfl ?_
              have g129 : 0 ≤ (H123.1 7 6) ∧ (H123.1 7 6) ≤ 16 := kn (x := kx_7) hI124 rfl 6
              have e130 : (H123.1 7 6) = (H1.1 7 6) := (hq125.1 7 6 rfl (by decide) (by decide)).1
              refine k_run 1 (pc' := 201) (l' := [(0, .inr (.inr 361)), (1, .inl x1), (2, .inl x2), (3, .inl x3), (4, .inl x4), (5, .inl x5), (6, .inl x6), (7, .inl 0), (8, .inl z77)]) (st' := [.inl 0, .inl (H123.1 7 6), .inr (.inr 7)]) rfl ?_
              refine h_zeq (off := 14) (t := 215) rfl rfl (by decide) (fun _ => ?_) (fun c => absurd c (by decide))
              refine k_run 0 (pc' := 215) (l' := [(0, .inr (.inr 361)), (1, .inl x1), (2, .inl x2), (3, .inl x3), (4, .inl x4), (5, .inl x5), (6, .inl x6), (7, .inl 0), (8, .inl z77)]) (st' := [.inl (H123.1 7 6), .inr (.inr 7)]) rfl ?_
              refine k_run 2 (pc' := 217) (l' := [(0, .inr (.inr 361)), (1, .inl x1), (2, .inl x2), (3, .inl x3), (4, .inl x4), (5, .inl x5), (6, .inl x6), (7, .inl 0), (8, .inl z77)]) (st' := [.inl ((H123.1 7 6) + 0), .inr (.inr 7)]) rfl ?_
              refine k_puti (z := ((H123.1 7 6) + 0)) (a := 7) (x := kx_7) rfl rfl rfl (by decide) (by decide) rfl rfl rfl rfl hI124 (by omega) (show 0 ≤ ((H123.1 7 6) + 0) ∧ ((H123.1 7 6) + 0) ≤ 16 by omega) (fun H131 hI132 hw133 hv134 => ?_)
              have hf135 : fq [(2, 5), (7, 5), (7, 6), (8, 4), (13, 4), (18, 4), (361, 3), (361, 4), (361, 5), (361, 6), (361, 7), (361, 8), (361, 9)] [4, 5, 6, 9, 10, 11, 14, 15, 16, 17, 19, 20, 21, 22, 362] true H H131 := fq_w hf127 hw133 (fpo (by decide) rfl)
              refine k_run 0 (pc' := 220) (l' := [(0, .inr (.inr 361)), (1, .inl x1), (2, .inl x2), (3, .inl x3), (4, .inl x4), (5, .inl x5), (6, .inl x6), (7, .inl 0), (8, .inl z77)]) (st' := []) rfl ?_
              refine k_run 2 (pc' := 69) (l' := [(0, .inr (.inr 361)), (1, .inl x1), (2, .inl x2), (3, .inl x3), (4, .inl x4), (5, .inl x5), (6, .inl (x6 + 1)), (7, .inl 0), (8, .inl z77)]) (st' := []) rfl ?_
              refine h_loc [0, 1, 2, 3, 4, 5, 6, 7] rfl ?_
              exact ih H131 hI132 hf135 x1 x2 x3 x4 x5 (x6 + 1) (0 : Int) (by omega) (by omega) (by omega) (by omega) (by omega) (by omega) (by decide) (by omega) (by omega) (by omega) (by omega) (by omega) (by omega) (by omega) (by omega)
            · refine k_run 0 (pc' := 175) (l' := [(0, .inr (.inr 361)), (1, .inl x1), (2, .inl x2), (3, .inl x3), (4, .inl x4), (5, .inl x5), (6, .inl x6), (7, .inl z126), (8, .inl z77)]) (st' := []) rfl ?_
              refine k_run 2 (pc' := 178) (l' := [(0, .inr (.inr 361)), (1, .inl x1), (2, .inl x2), (3, .inl x3), (4, .inl x4), (5, .inl x5), (6, .inl x6), (7, .inl z126), (8, .inl z77)]) (st' := [.inl 59, .inr (.inr 361)]) rfl ?_
              refine h_cv (i := 92) (j := 82) (b := 361) (M' := mt_82) (xs := [.inl 59]) (rest := []) rfl rfl rfl rfl (zs_K (x := kx_361) rfl (by decide)) rfl (Nat.le_of_ble_eq_true rfl) (Nat.le_of_ble_eq_true rfl) (by omega) (k_Reader_take (by omega) hI124 (by decide)) ?_
              rintro _ H137 ⟨z140, rfl, g136, hI138, hq139⟩
              have hf141 : fq [(2, 5), (7, 5), (7, 6), (8, 4), (13, 4), (18, 4), (361, 3), (361, 4), (361, 5), (361, 6), (361, 7), (361, 8), (361, 9)] [4, 5, 6, 9, 10, 11, 14, 15, 16, 17, 19, 20, 21, 22, 362] true H H137 := fq_t hf127 hq139 rfl rfl rfl
              refine k_run 0 (pc' := 181) (l' := [(0, .inr (.inr 361)), (1, .inl x1), (2, .inl x2), (3, .inl x3), (4, .inl x4), (5, .inl x5), (6, .inl x6), (7, .inl z126), (8, .inl z77)]) (st' := [.inl z140]) rfl ?_
              refine h_zeq (off := 7) (t := 188) rfl rfl (by omega) (fun c142 => ?_) (fun c142 => ?_)
              · refine k_run 0 (pc' := 188) (l' := [(0, .inr (.inr 361)), (1, .inl x1), (2, .inl x2), (3, .inl x3), (4, .inl x4), (5, .inl x5), (6, .inl x6), (7, .inl z126), (8, .inl z77)]) (st' := []) rfl ?_
                refine k_run 6 (pc' := 199) (l' := [(0, .inr (.inr 361)), (1, .inl x1), (2, .inl x2), (3, .inl x3), (4, .inl x4), (5, .inl x5), (6, .inl x6), (7, .inl 0), (8, .inl z77)]) (st' := [.inl (H137.1 7 6), .inr (.inr 7)]) rfl ?_
                have g143 : 0 ≤ (H137.1 7 6) ∧ (H137.1 7 6) ≤ 16 := kn (x := kx_7) hI138 rfl 6
                have e144 : (H137.1 7 6) = (H123.1 7 6) := (hq139.1 7 6 rfl (by decide) (by decide)).1
                have e145 : (H123.1 7 6) = (H1.1 7 6) := (hq125.1 7 6 rfl (by decide) (by decide)).1
                refine k_run 1 (pc' := 201) (l' := [(0, .inr (.inr 361)), (1, .inl x1), (2, .inl x2), (3, .inl x3), (4, .inl x4), (5, .inl x5), (6, .inl x6), (7, .inl 0), (8, .inl z77)]) (st' := [.inl 0, .inl (H137.1 7 6), .inr (.inr 7)]) rfl ?_
                refine h_zeq (off := 14) (t := 215) rfl rfl (by decide) (fun _ => ?_) (fun c => absurd c (by decide))
                refine k_run 0 (pc' := 215) (l' := [(0, .inr (.inr 361)), (1, .inl x1), (2, .inl x2), (3, .inl x3), (4, .inl x4), (5, .inl x5), (6, .inl x6), (7, .inl 0), (8, .inl z77)]) (st' := [.inl (H137.1 7 6), .inr (.inr 7)]) rfl ?_
                refine k_run 2 (pc' := 217) (l' := [(0, .inr (.inr 361)), (1, .inl x1), (2, .inl x2), (3, .inl x3), (4, .inl x4), (5, .inl x5), (6, .inl x6), (7, .inl 0), (8, .inl z77)]) (st' := [.inl ((H137.1 7 6) + 0), .inr (.inr 7)]) rfl ?_
                refine k_puti (z := ((H137.1 7 6) + 0)) (a := 7) (x := kx_7) rfl rfl rfl (by decide) (by decide) rfl rfl rfl rfl hI138 (by omega) (show 0 ≤ ((H137.1 7 6) + 0) ∧ ((H137.1 7 6) + 0) ≤ 16 by omega) (fun H146 hI147 hw148 hv149 => ?_)
                have hf150 : fq [(2, 5), (7, 5), (7, 6), (8, 4), (13, 4), (18, 4), (361, 3), (361, 4), (361, 5), (361, 6), (361, 7), (361, 8), (361, 9)] [4, 5, 6, 9, 10, 11, 14, 15, 16, 17, 19, 20, 21, 22, 362] true H H146 := fq_w hf141 hw148 (fpo (by decide) rfl)
                refine k_run 0 (pc' := 220) (l' := [(0, .inr (.inr 361)), (1, .inl x1), (2, .inl x2), (3, .inl x3), (4, .inl x4), (5, .inl x5), (6, .inl x6), (7, .inl 0), (8, .inl z77)]) (st' := []) rfl ?_
                refine k_run 2 (pc' := 69) (l' := [(0, .inr (.inr 361)), (1, .inl x1), (2, .inl x2), (3, .inl x3), (4, .inl x4), (5, .inl x5), (6, .inl (x6 + 1)), (7, .inl 0), (8, .inl z77)]) (st' := []) rfl ?_
                refine h_loc [0, 1, 2, 3, 4, 5, 6, 7] rfl ?_
                exact ih H146 hI147 hf150 x1 x2 x3 x4 x5 (x6 + 1) (0 : Int) (by omega) (by omega) (by omega) (by omega) (by omega) (by omega) (by decide) (by omega) (by omega) (by omega) (by omega) (by omega) (by omega) (by omega) (by omega)
              · refine k_run 0 (pc' := 184) (l' := [(0, .inr (.inr 361)), (1, .inl x1), (2, .inl x2), (3, .inl x3), (4, .inl x4), (5, .inl x5), (6, .inl x6), (7, .inl z126), (8, .inl z77)]) (st' := []) rfl ?_
                refine k_run 7 (pc' := 199) (l' := [(0, .inr (.inr 361)), (1, .inl x1), (2, .inl x2), (3, .inl x3), (4, .inl x4), (5, .inl x5), (6, .inl x6), (7, .inl 1), (8, .inl z77)]) (st' := [.inl (H137.1 7 6), .inr (.inr 7)]) rfl ?_
                have g151 : 0 ≤ (H137.1 7 6) ∧ (H137.1 7 6) ≤ 16 := kn (x := kx_7) hI138 rfl 6
                have e152 : (H137.1 7 6) = (H123.1 7 6) := (hq139.1 7 6 rfl (by decide) (by decide)).1
                have e153 : (H123.1 7 6) = (H1.1 7 6) := (hq125.1 7 6 rfl (by decide) (by decide)).1
                refine k_run 1 (pc' := 201) (l' := [(0, .inr (.inr 361)), (1, .inl x1), (2, .inl x2), (3, .inl x3), (4, .inl x4), (5, .inl x5), (6, .inl x6), (7, .inl 1), (8, .inl z77)]) (st' := [.inl 1, .inl (H137.1 7 6), .inr (.inr 7)]) rfl ?_
                refine h_zeq (off := 14) (t := 215) rfl rfl (by decide) (fun c => absurd c (by decide)) (fun _ => ?_)
                refine k_run 0 (pc' := 204) (l' := [(0, .inr (.inr 361)), (1, .inl x1), (2, .inl x2), (3, .inl x3), (4, .inl x4), (5, .inl x5), (6, .inl x6), (7, .inl 1), (8, .inl z77)]) (st' := [.inl (H137.1 7 6), .inr (.inr 7)]) rfl ?_
                refine k_run 2 (pc' := 208) (l' := [(0, .inr (.inr 361)), (1, .inl x1), (2, .inl x2), (3, .inl x3), (4, .inl x4), (5, .inl x5), (6, .inl x6), (7, .inl 1), (8, .inl z77)]) (st' := [.inl 7, .inl z77, .inl (H137.1 7 6), .inr (.inr 7)]) rfl ?_
                refine h_ine (off := 7) (t := 215) rfl rfl (by omega) (by decide) (fun c154 => ?_) (fun c154 => ?_)
                · refine k_run 0 (pc' := 215) (l' := [(0, .inr (.inr 361)), (1, .inl x1), (2, .inl x2), (3, .inl x3), (4, .inl x4), (5, .inl x5), (6, .inl x6), (7, .inl 1), (8, .inl z77)]) (st' := [.inl (H137.1 7 6), .inr (.inr 7)]) rfl ?_
                  refine k_run 2 (pc' := 217) (l' := [(0, .inr (.inr 361)), (1, .inl x1), (2, .inl x2), (3, .inl x3), (4, .inl x4), (5, .inl x5), (6, .inl x6), (7, .inl 1), (8, .inl z77)]) (st' := [.inl ((H137.1 7 6) + 0), .inr (.inr 7)]) rfl ?_
                  refine k_puti (z := ((H137.1 7 6) + 0)) (a := 7) (x := kx_7) rfl rfl rfl (by decide) (by decide) rfl rfl rfl rfl hI138 (by omega) (show 0 ≤ ((H137.1 7 6) + 0) ∧ ((H137.1 7 6) + 0) ≤ 16 by omega) (fun H155 hI156 hw157 hv158 => ?_)
                  have hf159 : fq [(2, 5), (7, 5), (7, 6), (8, 4), (13, 4), (18, 4), (361, 3), (361, 4), (361, 5), (361, 6), (361, 7), (361, 8), (361, 9)] [4, 5, 6, 9, 10, 11, 14, 15, 16, 17, 19, 20, 21, 22, 362] true H H155 := fq_w hf141 hw157 (fpo (by decide) rfl)
                  refine k_run 0 (pc' := 220) (l' := [(0, .inr (.inr 361)), (1, .inl x1), (2, .inl x2), (3, .inl x3), (4, .inl x4), (5, .inl x5), (6, .inl x6), (7, .inl 1), (8, .inl z77)]) (st' := []) rfl ?_
                  refine k_run 2 (pc' := 69) (l' := [(0, .inr (.inr 361)), (1, .inl x1), (2, .inl x2), (3, .inl x3), (4, .inl x4), (5, .inl x5), (6, .inl (x6 + 1)), (7, .inl 1), (8, .inl z77)]) (st' := []) rfl ?_
                  refine h_loc [0, 1, 2, 3, 4, 5, 6, 7] rfl ?_
                  exact ih H155 hI156 hf159 x1 x2 x3 x4 x5 (x6 + 1) (1 : Int) (by omega) (by omega) (by omega) (by omega) (by omega) (by omega) (by decide) (by omega) (by omega) (by omega) (by omega) (by omega) (by omega) (by omega) (by omega)
                · refine k_run 0 (pc' := 211) (l' := [(0, .inr (.inr 361)), (1, .inl x1), (2, .inl x2), (3, .inl x3), (4, .inl x4), (5, .inl x5), (6, .inl x6), (7, .inl 1), (8, .inl z77)]) (st' := [.inl (H137.1 7 6), .inr (.inr 7)]) rfl ?_
                  refine k_run 3 (pc' := 217) (l' := [(0, .inr (.inr 361)), (1, .inl x1), (2, .inl x2), (3, .inl x3), (4, .inl x4), (5, .inl x5), (6, .inl x6), (7, .inl 1), (8, .inl z77)]) (st' := [.inl ((H137.1 7 6) + 1), .inr (.inr 7)]) rfl ?_
                  refine k_puti (z := ((H137.1 7 6) + 1)) (a := 7) (x := kx_7) rfl rfl rfl (by decide) (by decide) rfl rfl rfl rfl hI138 (by omega) (show 0 ≤ ((H137.1 7 6) + 1) ∧ ((H137.1 7 6) + 1) ≤ 16 by omega) (fun H160 hI161 hw162 hv163 => ?_)
                  have hf164 : fq [(2, 5), (7, 5), (7, 6), (8, 4), (13, 4), (18, 4), (361, 3), (361, 4), (361, 5), (361, 6), (361, 7), (361, 8), (361, 9)] [4, 5, 6, 9, 10, 11, 14, 15, 16, 17, 19, 20, 21, 22, 362] true H H160 := fq_w hf141 hw162 (fpo (by decide) rfl)
                  refine k_run 0 (pc' := 220) (l' := [(0, .inr (.inr 361)), (1, .inl x1), (2, .inl x2), (3, .inl x3), (4, .inl x4), (5, .inl x5), (6, .inl x6), (7, .inl 1), (8, .inl z77)]) (st' := []) rfl ?_
                  refine k_run 2 (pc' := 69) (l' := [(0, .inr (.inr 361)), (1, .inl x1), (2, .inl x2), (3, .inl x3), (4, .inl x4), (5, .inl x5), (6, .inl (x6 + 1)), (7, .inl 1), (8, .inl z77)]) (st' := []) rfl ?_
                  refine h_loc [0, 1, 2, 3, 4, 5, 6, 7] rfl ?_
                  exact ih H160 hI161 hf164 x1 x2 x3 x4 x5 (x6 + 1) (1 : Int) (by omega) (by omega) (by omega) (by omega) (by omega) (by omega) (by decide) (by omega) (by omega) (by omega) (by omega) (by omega) (by omega) (by omega) (by omega)
          · refine h_tin (k := 0) (t := 128) rfl (by omega) (show z77 = 4 + ((0 : Nat) : Int) by omega) (by decide) rfl rfl ?_
            refine k_run 1 (pc' := 129) (l' := [(0, .inr (.inr 361)), (1, .inl x1), (2, .inl x2), (3, .inl x3), (4, .inl x4), (5, .inl x5), (6, .inl x6), (7, .inl x7), (8, .inl z77)]) (st' := [.inr (.inr 361)]) rfl ?_
            refine h_cv (i := 76) (j := 64) (b := 361) (M' := mt_64) (xs := []) (rest := []) rfl rfl rfl rfl (zs_K (x := kx_361) rfl (by decide)) rfl (Nat.le_of_ble_eq_true rfl) (Nat.le_of_ble_eq_true rfl) (by omega) (k_Reader_readData (by omega) hI1 ) ?_
            rintro _ H166 ⟨z169, rfl, g165, hI167, hq168⟩
            have hf170 : fq [(2, 5), (7, 5), (7, 6), (8, 4), (13, 4), (18, 4), (361, 3), (361, 4), (361, 5), (361, 6), (361, 7), (361, 8), (361, 9)] [4, 5, 6, 9, 10, 11, 14, 15, 16, 17, 19, 20, 21, 22, 362] true H H166 := fq_t hf1 hq168 rfl rfl rfl
            refine k_run 0 (pc' := 132) (l' := [(0, .inr (.inr 361)), (1, .inl x1), (2, .inl x2), (3, .inl x3), (4, .inl x4), (5, .inl x5), (6, .inl x6), (7, .inl x7), (8, .inl z77)]) (st' := [.inl z169]) rfl ?_
            refine k_run 3 (pc' := 172) (l' := [(0, .inr (.inr 361)), (1, .inl x1), (2, .inl x2), (3, .inl x3), (4, .inl x4), (5, .inl x5), (6, .inl x6), (7, .inl z169), (8, .inl z77)]) (st' := [.inl z169]) rfl ?_
            refine h_zeq (off := 16) (t := 188) rfl rfl (by omega) (fun c171 => ?_) (fun c171 => ?_)
            · refine k_run 0 (pc' := 188) (l' := [(0, .inr (.inr 361)), (1, .inl x1), (2, .inl x2), (3, .inl x3), (4, .inl x4), (5, .inl x5), (6, .inl x6), (7, .inl z169), (8, .inl z77)]) (st' := []) rfl ?_
              refine k_run 6 (pc' := 199) (l' := [(0, .inr (.inr 361)), (1, .inl x1), (2, .inl x2), (3, .inl x3), (4, .inl x4), (5, .inl x5), (6, .inl x6), (7, .inl 0), (8, .inl z77)]) (st' := [.inl (H166.1 7 6), .inr (.inr 7)]) rfl ?_
              have g172 : 0 ≤ (H166.1 7 6) ∧ (H166.1 7 6) ≤ 16 := kn (x := kx_7) hI167 rfl 6
              have e173 : (H166.1 7 6) = (H1.1 7 6) := (hq168.1 7 6 rfl (by decide) (by decide)).1
              refine k_run 1 (pc' := 201) (l' := [(0, .inr (.inr 361)), (1, .inl x1), (2, .inl x2), (3, .inl x3), (4, .inl x4), (5, .inl x5), (6, .inl x6), (7, .inl 0), (8, .inl z77)]) (st' := [.inl 0, .inl (H166.1 7 6), .inr (.inr 7)]) rfl ?_
              refine h_zeq (off := 14) (t := 215) rfl rfl (by decide) (fun _ => ?_) (fun c => absurd c (by decide))
              refine k_run 0 (pc' := 215) (l' := [(0, .inr (.inr 361)), (1, .inl x1), (2, .inl x2), (3, .inl x3), (4, .inl x4), (5, .inl x5), (6, .inl x6), (7, .inl 0), (8, .inl z77)]) (st' := [.inl (H166.1 7 6), .inr (.inr 7)]) rfl ?_
              refine k_run 2 (pc' := 217) (l' := [(0, .inr (.inr 361)), (1, .inl x1), (2, .inl x2), (3, .inl x3), (4, .inl x4), (5, .inl x5), (6, .inl x6), (7, .inl 0), (8, .inl z77)]) (st' := [.inl ((H166.1 7 6) + 0), .inr (.inr 7)]) rfl ?_
              refine k_puti (z := ((H166.1 7 6) + 0)) (a := 7) (x := kx_7) rfl rfl rfl (by decide) (by decide) rfl rfl rfl rfl hI167 (by omega) (show 0 ≤ ((H166.1 7 6) + 0) ∧ ((H166.1 7 6) + 0) ≤ 16 by omega) (fun H174 hI175 hw176 hv177 => ?_)
              have hf178 : fq [(2, 5), (7, 5), (7, 6), (8, 4), (13, 4), (18, 4), (361, 3), (361, 4), (361, 5), (361, 6), (361, 7), (361, 8), (361, 9)] [4, 5, 6, 9, 10, 11, 14, 15, 16, 17, 19, 20, 21, 22, 362] true H H174 := fq_w hf170 hw176 (fpo (by decide) rfl)
              refine k_run 0 (pc' := 220) (l' := [(0, .inr (.inr 361)), (1, .inl x1), (2, .inl x2), (3, .inl x3), (4, .inl x4), (5, .inl x5), (6, .inl x6), (7, .inl 0), (8, .inl z77)]) (st' := []) rfl ?_
              refine k_run 2 (pc' := 69) (l' := [(0, .inr (.inr 361)), (1, .inl x1), (2, .inl x2), (3, .inl x3), (4, .inl x4), (5, .inl x5), (6, .inl (x6 + 1)), (7, .inl 0), (8, .inl z77)]) (st' := []) rfl ?_
              refine h_loc [0, 1, 2, 3, 4, 5, 6, 7] rfl ?_
              exact ih H174 hI175 hf178 x1 x2 x3 x4 x5 (x6 + 1) (0 : Int) (by omega) (by omega) (by omega) (by omega) (by omega) (by omega) (by decide) (by omega) (by omega) (by omega) (by omega) (by omega) (by omega) (by omega) (by omega)
            · refine k_run 0 (pc' := 175) (l' := [(0, .inr (.inr 361)), (1, .inl x1), (2, .inl x2), (3, .inl x3), (4, .inl x4), (5, .inl x5), (6, .inl x6), (7, .inl z169), (8, .inl z77)]) (st' := []) rfl ?_
              refine k_run 2 (pc' := 178) (l' := [(0, .inr (.inr 361)), (1, .inl x1), (2, .inl x2), (3, .inl x3), (4, .inl x4), (5, .inl x5), (6, .inl x6), (7, .inl z169), (8, .inl z77)]) (st' := [.inl 59, .inr (.inr 361)]) rfl ?_
              refine h_cv (i := 92) (j := 82) (b := 361) (M' := mt_82) (xs := [.inl 59]) (rest := []) rfl rfl rfl rfl (zs_K (x := kx_361) rfl (by decide)) rfl (Nat.le_of_ble_eq_true rfl) (Nat.le_of_ble_eq_true rfl) (by omega) (k_Reader_take (by omega) hI167 (by decide)) ?_
              rintro _ H180 ⟨z183, rfl, g179, hI181, hq182⟩
              have hf184 : fq [(2, 5), (7, 5), (7, 6), (8, 4), (13, 4), (18, 4), (361, 3), (361, 4), (361, 5), (361, 6), (361, 7), (361, 8), (361, 9)] [4, 5, 6, 9, 10, 11, 14, 15, 16, 17, 19, 20, 21, 22, 362] true H H180 := fq_t hf170 hq182 rfl rfl rfl
              refine k_run 0 (pc' := 181) (l' := [(0, .inr (.inr 361)), (1, .inl x1), (2, .inl x2), (3, .inl x3), (4, .inl x4), (5, .inl x5), (6, .inl x6), (7, .inl z169), (8, .inl z77)]) (st' := [.inl z183]) rfl ?_
              refine h_zeq (off := 7) (t := 188) rfl rfl (by omega) (fun c185 => ?_) (fun c185 => ?_)
              · refine k_run 0 (pc' := 188) (l' := [(0, .inr (.inr 361)), (1, .inl x1), (2, .inl x2), (3, .inl x3), (4, .inl x4), (5, .inl x5), (6, .inl x6), (7, .inl z169), (8, .inl z77)]) (st' := []) rfl ?_
                refine k_run 6 (pc' := 199) (l' := [(0, .inr (.inr 361)), (1, .inl x1), (2, .inl x2), (3, .inl x3), (4, .inl x4), (5, .inl x5), (6, .inl x6), (7, .inl 0), (8, .inl z77)]) (st' := [.inl (H180.1 7 6), .inr (.inr 7)]) rfl ?_
                have g186 : 0 ≤ (H180.1 7 6) ∧ (H180.1 7 6) ≤ 16 := kn (x := kx_7) hI181 rfl 6
                have e187 : (H180.1 7 6) = (H166.1 7 6) := (hq182.1 7 6 rfl (by decide) (by decide)).1
                have e188 : (H166.1 7 6) = (H1.1 7 6) := (hq168.1 7 6 rfl (by decide) (by decide)).1
                refine k_run 1 (pc' := 201) (l' := [(0, .inr (.inr 361)), (1, .inl x1), (2, .inl x2), (3, .inl x3), (4, .inl x4), (5, .inl x5), (6, .inl x6), (7, .inl 0), (8, .inl z77)]) (st' := [.inl 0, .inl (H180.1 7 6), .inr (.inr 7)]) rfl ?_
                refine h_zeq (off := 14) (t := 215) rfl rfl (by decide) (fun _ => ?_) (fun c => absurd c (by decide))
                refine k_run 0 (pc' := 215) (l' := [(0, .inr (.inr 361)), (1, .inl x1), (2, .inl x2), (3, .inl x3), (4, .inl x4), (5, .inl x5), (6, .inl x6), (7, .inl 0), (8, .inl z77)]) (st' := [.inl (H180.1 7 6), .inr (.inr 7)]) rfl ?_
                refine k_run 2 (pc' := 217) (l' := [(0, .inr (.inr 361)), (1, .inl x1), (2, .inl x2), (3, .inl x3), (4, .inl x4), (5, .inl x5), (6, .inl x6), (7, .inl 0), (8, .inl z77)]) (st' := [.inl ((H180.1 7 6) + 0), .inr (.inr 7)]) rfl ?_
                refine k_puti (z := ((H180.1 7 6) + 0)) (a := 7) (x := kx_7) rfl rfl rfl (by decide) (by decide) rfl rfl rfl rfl hI181 (by omega) (show 0 ≤ ((H180.1 7 6) + 0) ∧ ((H180.1 7 6) + 0) ≤ 16 by omega) (fun H189 hI190 hw191 hv192 => ?_)
                have hf193 : fq [(2, 5), (7, 5), (7, 6), (8, 4), (13, 4), (18, 4), (361, 3), (361, 4), (361, 5), (361, 6), (361, 7), (361, 8), (361, 9)] [4, 5, 6, 9, 10, 11, 14, 15, 16, 17, 19, 20, 21, 22, 362] true H H189 := fq_w hf184 hw191 (fpo (by decide) rfl)
                refine k_run 0 (pc' := 220) (l' := [(0, .inr (.inr 361)), (1, .inl x1), (2, .inl x2), (3, .inl x3), (4, .inl x4), (5, .inl x5), (6, .inl x6), (7, .inl 0), (8, .inl z77)]) (st' := []) rfl ?_
                refine k_run 2 (pc' := 69) (l' := [(0, .inr (.inr 361)), (1, .inl x1), (2, .inl x2), (3, .inl x3), (4, .inl x4), (5, .inl x5), (6, .inl (x6 + 1)), (7, .inl 0), (8, .inl z77)]) (st' := []) rfl ?_
                refine h_loc [0, 1, 2, 3, 4, 5, 6, 7] rfl ?_
                exact ih H189 hI190 hf193 x1 x2 x3 x4 x5 (x6 + 1) (0 : Int) (by omega) (by omega) (by omega) (by omega) (by omega) (by omega) (by decide) (by omega) (by omega) (by omega) (by omega) (by omega) (by omega) (by omega) (by omega)
              · refine k_run 0 (pc' := 184) (l' := [(0, .inr (.inr 361)), (1, .inl x1), (2, .inl x2), (3, .inl x3), (4, .inl x4), (5, .inl x5), (6, .inl x6), (7, .inl z169), (8, .inl z77)]) (st' := []) rfl ?_
                refine k_run 7 (pc' := 199) (l' := [(0, .inr (.inr 361)), (1, .inl x1), (2, .inl x2), (3, .inl x3), (4, .inl x4), (5, .inl x5), (6, .inl x6), (7, .inl 1), (8, .inl z77)]) (st' := [.inl (H180.1 7 6), .inr (.inr 7)]) rfl ?_
                have g194 : 0 ≤ (H180.1 7 6) ∧ (H180.1 7 6) ≤ 16 := kn (x := kx_7) hI181 rfl 6
                have e195 : (H180.1 7 6) = (H166.1 7 6) := (hq182.1 7 6 rfl (by decide) (by decide)).1
                have e196 : (H166.1 7 6) = (H1.1 7 6) := (hq168.1 7 6 rfl (by decide) (by decide)).1
                refine k_run 1 (pc' := 201) (l' := [(0, .inr (.inr 361)), (1, .inl x1), (2, .inl x2), (3, .inl x3), (4, .inl x4), (5, .inl x5), (6, .inl x6), (7, .inl 1), (8, .inl z77)]) (st' := [.inl 1, .inl (H180.1 7 6), .inr (.inr 7)]) rfl ?_
                refine h_zeq (off := 14) (t := 215) rfl rfl (by decide) (fun c => absurd c (by decide)) (fun _ => ?_)
                refine k_run 0 (pc' := 204) (l' := [(0, .inr (.inr 361)), (1, .inl x1), (2, .inl x2), (3, .inl x3), (4, .inl x4), (5, .inl x5), (6, .inl x6), (7, .inl 1), (8, .inl z77)]) (st' := [.inl (H180.1 7 6), .inr (.inr 7)]) rfl ?_
                refine k_run 2 (pc' := 208) (l' := [(0, .inr (.inr 361)), (1, .inl x1), (2, .inl x2), (3, .inl x3), (4, .inl x4), (5, .inl x5), (6, .inl x6), (7, .inl 1), (8, .inl z77)]) (st' := [.inl 7, .inl z77, .inl (H180.1 7 6), .inr (.inr 7)]) rfl ?_
                refine h_ine (off := 7) (t := 215) rfl rfl (by omega) (by decide) (fun c197 => ?_) (fun c197 => ?_)
                · refine k_run 0 (pc' := 215) (l' := [(0, .inr (.inr 361)), (1, .inl x1), (2, .inl x2), (3, .inl x3), (4, .inl x4), (5, .inl x5), (6, .inl x6), (7, .inl 1), (8, .inl z77)]) (st' := [.inl (H180.1 7 6), .inr (.inr 7)]) rfl ?_
                  refine k_run 2 (pc' := 217) (l' := [(0, .inr (.inr 361)), (1, .inl x1), (2, .inl x2), (3, .inl x3), (4, .inl x4), (5, .inl x5), (6, .inl x6), (7, .inl 1), (8, .inl z77)]) (st' := [.inl ((H180.1 7 6) + 0), .inr (.inr 7)]) rfl ?_
                  refine k_puti (z := ((H180.1 7 6) + 0)) (a := 7) (x := kx_7) rfl rfl rfl (by decide) (by decide) rfl rfl rfl rfl hI181 (by omega) (show 0 ≤ ((H180.1 7 6) + 0) ∧ ((H180.1 7 6) + 0) ≤ 16 by omega) (fun H198 hI199 hw200 hv201 => ?_)
                  have hf202 : fq [(2, 5), (7, 5), (7, 6), (8, 4), (13, 4), (18, 4), (361, 3), (361, 4), (361, 5), (361, 6), (361, 7), (361, 8), (361, 9)] [4, 5, 6, 9, 10, 11, 14, 15, 16, 17, 19, 20, 21, 22, 362] true H H198 := fq_w hf184 hw200 (fpo (by decide) rfl)
                  refine k_run 0 (pc' := 220) (l' := [(0, .inr (.inr 361)), (1, .inl x1), (2, .inl x2), (3, .inl x3), (4, .inl x4), (5, .inl x5), (6, .inl x6), (7, .inl 1), (8, .inl z77)]) (st' := []) rfl ?_
                  refine k_run 2 (pc' := 69) (l' := [(0, .inr (.inr 361)), (1, .inl x1), (2, .inl x2), (3, .inl x3), (4, .inl x4), (5, .inl x5), (6, .inl (x6 + 1)), (7, .inl 1), (8, .inl z77)]) (st' := []) rfl ?_
                  refine h_loc [0, 1, 2, 3, 4, 5, 6, 7] rfl ?_
                  exact ih H198 hI199 hf202 x1 x2 x3 x4 x5 (x6 + 1) (1 : Int) (by omega) (by omega) (by omega) (by omega) (by omega) (by omega) (by decide) (by omega) (by omega) (by omega) (by omega) (by omega) (by omega) (by omega) (by omega)
                · refine k_run 0 (pc' := 211) (l' := [(0, .inr (.inr 361)), (1, .inl x1), (2, .inl x2), (3, .inl x3), (4, .inl x4), (5, .inl x5), (6, .inl x6), (7, .inl 1), (8, .inl z77)]) (st' := [.inl (H180.1 7 6), .inr (.inr 7)]) rfl ?_
                  refine k_run 3 (pc' := 217) (l' := [(0, .inr (.inr 361)), (1, .inl x1), (2, .inl x2), (3, .inl x3), (4, .inl x4), (5, .inl x5), (6, .inl x6), (7, .inl 1), (8, .inl z77)]) (st' := [.inl ((H180.1 7 6) + 1), .inr (.inr 7)]) rfl ?_
                  refine k_puti (z := ((H180.1 7 6) + 1)) (a := 7) (x := kx_7) rfl rfl rfl (by decide) (by decide) rfl rfl rfl rfl hI181 (by omega) (show 0 ≤ ((H180.1 7 6) + 1) ∧ ((H180.1 7 6) + 1) ≤ 16 by omega) (fun H203 hI204 hw205 hv206 => ?_)
                  have hf207 : fq [(2, 5), (7, 5), (7, 6), (8, 4), (13, 4), (18, 4), (361, 3), (361, 4), (361, 5), (361, 6), (361, 7), (361, 8), (361, 9)] [4, 5, 6, 9, 10, 11, 14, 15, 16, 17, 19, 20, 21, 22, 362] true H H203 := fq_w hf184 hw205 (fpo (by decide) rfl)
                  refine k_run 0 (pc' := 220) (l' := [(0, .inr (.inr 361)), (1, .inl x1), (2, .inl x2), (3, .inl x3), (4, .inl x4), (5, .inl x5), (6, .inl x6), (7, .inl 1), (8, .inl z77)]) (st' := []) rfl ?_
                  refine k_run 2 (pc' := 69) (l' := [(0, .inr (.inr 361)), (1, .inl x1), (2, .inl x2), (3, .inl x3), (4, .inl x4), (5, .inl x5), (6, .inl (x6 + 1)), (7, .inl 1), (8, .inl z77)]) (st' := []) rfl ?_
                  refine h_loc [0, 1, 2, 3, 4, 5, 6, 7] rfl ?_
                  exact ih H203 hI204 hf207 x1 x2 x3 x4 x5 (x6 + 1) (1 : Int) (by omega) (by omega) (by omega) (by omega) (by omega) (by omega) (by decide) (by omega) (by omega) (by omega) (by omega) (by omega) (by omega) (by omega) (by omega)
          · refine h_tin (k := 1) (t := 137) rfl (by omega) (show z77 = 4 + ((1 : Nat) : Int) by omega) (by decide) rfl rfl ?_
            refine k_run 1 (pc' := 138) (l' := [(0, .inr (.inr 361)), (1, .inl x1), (2, .inl x2), (3, .inl x3), (4, .inl x4), (5, .inl x5), (6, .inl x6), (7, .inl x7), (8, .inl z77)]) (st' := [.inr (.inr 361)]) rfl ?_
            refine h_cv (i := 80) (j := 66) (b := 361) (M' := mt_66) (xs := []) (rest := []) rfl rfl rfl rfl (zs_K (x := kx_361) rfl (by decide)) rfl (Nat.le_of_ble_eq_true rfl) (Nat.le_of_ble_eq_true rfl) (by omega) (k_Reader_readFunction (by omega) hI1 ) ?_
            rintro _ H209 ⟨z212, rfl, g208, hI210, hq211⟩
            have hf213 : fq [(2, 5), (7, 5), (7, 6), (8, 4), (13, 4), (18, 4), (361, 3), (361, 4), (361, 5), (361, 6), (361, 7), (361, 8), (361, 9)] [4, 5, 6, 9, 10, 11, 14, 15, 16, 17, 19, 20, 21, 22, 362] true H H209 := fq_t hf1 hq211 rfl rfl rfl
            refine k_run 0 (pc' := 141) (l' := [(0, .inr (.inr 361)), (1, .inl x1), (2, .inl x2), (3, .inl x3), (4, .inl x4), (5, .inl x5), (6, .inl x6), (7, .inl x7), (8, .inl z77)]) (st' := [.inl z212]) rfl ?_
            refine k_run 3 (pc' := 172) (l' := [(0, .inr (.inr 361)), (1, .inl x1), (2, .inl x2), (3, .inl x3), (4, .inl x4), (5, .inl x5), (6, .inl x6), (7, .inl z212), (8, .inl z77)]) (st' := [.inl z212]) rfl ?_
            refine h_zeq (off := 16) (t := 188) rfl rfl (by omega) (fun c214 => ?_) (fun c214 => ?_)
            · refine k_run 0 (pc' := 188) (l' := [(0, .inr (.inr 361)), (1, .inl x1), (2, .inl x2), (3, .inl x3), (4, .inl x4), (5, .inl x5), (6, .inl x6), (7, .inl z212), (8, .inl z77)]) (st' := []) rfl ?_
              refine k_run 6 (pc' := 199) (l' := [(0, .inr (.inr 361)), (1, .inl x1), (2, .inl x2), (3, .inl x3), (4, .inl x4), (5, .inl x5), (6, .inl x6), (7, .inl 0), (8, .inl z77)]) (st' := [.inl (H209.1 7 6), .inr (.inr 7)]) rfl ?_
              have g215 : 0 ≤ (H209.1 7 6) ∧ (H209.1 7 6) ≤ 16 := kn (x := kx_7) hI210 rfl 6
              have e216 : (H209.1 7 6) = (H1.1 7 6) := (hq211.1 7 6 rfl (by decide) (by decide)).1
              refine k_run 1 (pc' := 201) (l' := [(0, .inr (.inr 361)), (1, .inl x1), (2, .inl x2), (3, .inl x3), (4, .inl x4), (5, .inl x5), (6, .inl x6), (7, .inl 0), (8, .inl z77)]) (st' := [.inl 0, .inl (H209.1 7 6), .inr (.inr 7)]) rfl ?_
              refine h_zeq (off := 14) (t := 215) rfl rfl (by decide) (fun _ => ?_) (fun c => absurd c (by decide))
              refine k_run 0 (pc' := 215) (l' := [(0, .inr (.inr 361)), (1, .inl x1), (2, .inl x2), (3, .inl x3), (4, .inl x4), (5, .inl x5), (6, .inl x6), (7, .inl 0), (8, .inl z77)]) (st' := [.inl (H209.1 7 6), .inr (.inr 7)]) rfl ?_
              refine k_run 2 (pc' := 217) (l' := [(0, .inr (.inr 361)), (1, .inl x1), (2, .inl x2), (3, .inl x3), (4, .inl x4), (5, .inl x5), (6, .inl x6), (7, .inl 0), (8, .inl z77)]) (st' := [.inl ((H209.1 7 6) + 0), .inr (.inr 7)]) rfl ?_
              refine k_puti (z := ((H209.1 7 6) + 0)) (a := 7) (x := kx_7) rfl rfl rfl (by decide) (by decide) rfl rfl rfl rfl hI210 (by omega) (show 0 ≤ ((H209.1 7 6) + 0) ∧ ((H209.1 7 6) + 0) ≤ 16 by omega) (fun H217 hI218 hw219 hv220 => ?_)
              have hf221 : fq [(2, 5), (7, 5), (7, 6), (8, 4), (13, 4), (18, 4), (361, 3), (361, 4), (361, 5), (361, 6), (361, 7), (361, 8), (361, 9)] [4, 5, 6, 9, 10, 11, 14, 15, 16, 17, 19, 20, 21, 22, 362] true H H217 := fq_w hf213 hw219 (fpo (by decide) rfl)
              refine k_run 0 (pc' := 220) (l' := [(0, .inr (.inr 361)), (1, .inl x1), (2, .inl x2), (3, .inl x3), (4, .inl x4), (5, .inl x5), (6, .inl x6), (7, .inl 0), (8, .inl z77)]) (st' := []) rfl ?_
              refine k_run 2 (pc' := 69) (l' := [(0, .inr (.inr 361)), (1, .inl x1), (2, .inl x2), (3, .inl x3), (4, .inl x4), (5, .inl x5), (6, .inl (x6 + 1)), (7, .inl 0), (8, .inl z77)]) (st' := []) rfl ?_
              refine h_loc [0, 1, 2, 3, 4, 5, 6, 7] rfl ?_
              exact ih H217 hI218 hf221 x1 x2 x3 x4 x5 (x6 + 1) (0 : Int) (by omega) (by omega) (by omega) (by omega) (by omega) (by omega) (by decide) (by omega) (by omega) (by omega) (by omega) (by omega) (by omega) (by omega) (by omega)
            · refine k_run 0 (pc' := 175) (l' := [(0, .inr (.inr 361)), (1, .inl x1), (2, .inl x2), (3, .inl x3), (4, .inl x4), (5, .inl x5), (6, .inl x6), (7, .inl z212), (8, .inl z77)]) (st' := []) rfl ?_
              refine k_run 2 (pc' := 178) (l' := [(0, .inr (.inr 361)), (1, .inl x1), (2, .inl x2), (3, .inl x3), (4, .inl x4), (5, .inl x5), (6, .inl x6), (7, .inl z212), (8, .inl z77)]) (st' := [.inl 59, .inr (.inr 361)]) rfl ?_
              refine h_cv (i := 92) (j := 82) (b := 361) (M' := mt_82) (xs := [.inl 59]) (rest := []) rfl rfl rfl rfl (zs_K (x := kx_361) rfl (by decide)) rfl (Nat.le_of_ble_eq_true rfl) (Nat.le_of_ble_eq_true rfl) (by omega) (k_Reader_take (by omega) hI210 (by decide)) ?_
              rintro _ H223 ⟨z226, rfl, g222, hI224, hq225⟩
              have hf227 : fq [(2, 5), (7, 5), (7, 6), (8, 4), (13, 4), (18, 4), (361, 3), (361, 4), (361, 5), (361, 6), (361, 7), (361, 8), (361, 9)] [4, 5, 6, 9, 10, 11, 14, 15, 16, 17, 19, 20, 21, 22, 362] true H H223 := fq_t hf213 hq225 rfl rfl rfl
              refine k_run 0 (pc' := 181) (l' := [(0, .inr (.inr 361)), (1, .inl x1), (2, .inl x2), (3, .inl x3), (4, .inl x4), (5, .inl x5), (6, .inl x6), (7, .inl z212), (8, .inl z77)]) (st' := [.inl z226]) rfl ?_
              refine h_zeq (off := 7) (t := 188) rfl rfl (by omega) (fun c228 => ?_) (fun c228 => ?_)
              · refine k_run 0 (pc' := 188) (l' := [(0, .inr (.inr 361)), (1, .inl x1), (2, .inl x2), (3, .inl x3), (4, .inl x4), (5, .inl x5), (6, .inl x6), (7, .inl z212), (8, .inl z77)]) (st' := []) rfl ?_
                refine k_run 6 (pc' := 199) (l' := [(0, .inr (.inr 361)), (1, .inl x1), (2, .inl x2), (3, .inl x3), (4, .inl x4), (5, .inl x5), (6, .inl x6), (7, .inl 0), (8, .inl z77)]) (st' := [.inl (H223.1 7 6), .inr (.inr 7)]) rfl ?_
                have g229 : 0 ≤ (H223.1 7 6) ∧ (H223.1 7 6) ≤ 16 := kn (x := kx_7) hI224 rfl 6
                have e230 : (H223.1 7 6) = (H209.1 7 6) := (hq225.1 7 6 rfl (by decide) (by decide)).1
                have e231 : (H209.1 7 6) = (H1.1 7 6) := (hq211.1 7 6 rfl (by decide) (by decide)).1
                refine k_run 1 (pc' := 201) (l' := [(0, .inr (.inr 361)), (1, .inl x1), (2, .inl x2), (3, .inl x3), (4, .inl x4), (5, .inl x5), (6, .inl x6), (7, .inl 0), (8, .inl z77)]) (st' := [.inl 0, .inl (H223.1 7 6), .inr (.inr 7)]) rfl ?_
                refine h_zeq (off := 14) (t := 215) rfl rfl (by decide) (fun _ => ?_) (fun c => absurd c (by decide))
                refine k_run 0 (pc' := 215) (l' := [(0, .inr (.inr 361)), (1, .inl x1), (2, .inl x2), (3, .inl x3), (4, .inl x4), (5, .inl x5), (6, .inl x6), (7, .inl 0), (8, .inl z77)]) (st' := [.inl (H223.1 7 6), .inr (.inr 7)]) rfl ?_
                refine k_run 2 (pc' := 217) (l' := [(0, .inr (.inr 361)), (1, .inl x1), (2, .inl x2), (3, .inl x3), (4, .inl x4), (5, .inl x5), (6, .inl x6), (7, .inl 0), (8, .inl z77)]) (st' := [.inl ((H223.1 7 6) + 0), .inr (.inr 7)]) rfl ?_
                refine k_puti (z := ((H223.1 7 6) + 0)) (a := 7) (x := kx_7) rfl rfl rfl (by decide) (by decide) rfl rfl rfl rfl hI224 (by omega) (show 0 ≤ ((H223.1 7 6) + 0) ∧ ((H223.1 7 6) + 0) ≤ 16 by omega) (fun H232 hI233 hw234 hv235 => ?_)
                have hf236 : fq [(2, 5), (7, 5), (7, 6), (8, 4), (13, 4), (18, 4), (361, 3), (361, 4), (361, 5), (361, 6), (361, 7), (361, 8), (361, 9)] [4, 5, 6, 9, 10, 11, 14, 15, 16, 17, 19, 20, 21, 22, 362] true H H232 := fq_w hf227 hw234 (fpo (by decide) rfl)
                refine k_run 0 (pc' := 220) (l' := [(0, .inr (.inr 361)), (1, .inl x1), (2, .inl x2), (3, .inl x3), (4, .inl x4), (5, .inl x5), (6, .inl x6), (7, .inl 0), (8, .inl z77)]) (st' := []) rfl ?_
                refine k_run 2 (pc' := 69) (l' := [(0, .inr (.inr 361)), (1, .inl x1), (2, .inl x2), (3, .inl x3), (4, .inl x4), (5, .inl x5), (6, .inl (x6 + 1)), (7, .inl 0), (8, .inl z77)]) (st' := []) rfl ?_
                refine h_loc [0, 1, 2, 3, 4, 5, 6, 7] rfl ?_
                exact ih H232 hI233 hf236 x1 x2 x3 x4 x5 (x6 + 1) (0 : Int) (by omega) (by omega) (by omega) (by omega) (by omega) (by omega) (by decide) (by omega) (by omega) (by omega) (by omega) (by omega) (by omega) (by omega) (by omega)
              · refine k_run 0 (pc' := 184) (l' := [(0, .inr (.inr 361)), (1, .inl x1), (2, .inl x2), (3, .inl x3), (4, .inl x4), (5, .inl x5), (6, .inl x6), (7, .inl z212), (8, .inl z77)]) (st' := []) rfl ?_
                refine k_run 7 (pc' := 199) (l' := [(0, .inr (.inr 361)), (1, .inl x1), (2, .inl x2), (3, .inl x3), (4, .inl x4), (5, .inl x5), (6, .inl x6), (7, .inl 1), (8, .inl z77)]) (st' := [.inl (H223.1 7 6), .inr (.inr 7)]) rfl ?_
                have g237 : 0 ≤ (H223.1 7 6) ∧ (H223.1 7 6) ≤ 16 := kn (x := kx_7) hI224 rfl 6
                have e238 : (H223.1 7 6) = (H209.1 7 6) := (hq225.1 7 6 rfl (by decide) (by decide)).1
                have e239 : (H209.1 7 6) = (H1.1 7 6) := (hq211.1 7 6 rfl (by decide) (by decide)).1
                refine k_run 1 (pc' := 201) (l' := [(0, .inr (.inr 361)), (1, .inl x1), (2, .inl x2), (3, .inl x3), (4, .inl x4), (5, .inl x5), (6, .inl x6), (7, .inl 1), (8, .inl z77)]) (st' := [.inl 1, .inl (H223.1 7 6), .inr (.inr 7)]) rfl ?_
                refine h_zeq (off := 14) (t := 215) rfl rfl (by decide) (fun c => absurd c (by decide)) (fun _ => ?_)
                refine k_run 0 (pc' := 204) (l' := [(0, .inr (.inr 361)), (1, .inl x1), (2, .inl x2), (3, .inl x3), (4, .inl x4), (5, .inl x5), (6, .inl x6), (7, .inl 1), (8, .inl z77)]) (st' := [.inl (H223.1 7 6), .inr (.inr 7)]) rfl ?_
                refine k_run 2 (pc' := 208) (l' := [(0, .inr (.inr 361)), (1, .inl x1), (2, .inl x2), (3, .inl x3), (4, .inl x4), (5, .inl x5), (6, .inl x6), (7, .inl 1), (8, .inl z77)]) (st' := [.inl 7, .inl z77, .inl (H223.1 7 6), .inr (.inr 7)]) rfl ?_
                refine h_ine (off := 7) (t := 215) rfl rfl (by omega) (by decide) (fun c240 => ?_) (fun c240 => ?_)
                · refine k_run 0 (pc' := 215) (l' := [(0, .inr (.inr 361)), (1, .inl x1), (2, .inl x2), (3, .inl x3), (4, .inl x4), (5, .inl x5), (6, .inl x6), (7, .inl 1), (8, .inl z77)]) (st' := [.inl (H223.1 7 6), .inr (.inr 7)]) rfl ?_
                  refine k_run 2 (pc' := 217) (l' := [(0, .inr (.inr 361)), (1, .inl x1), (2, .inl x2), (3, .inl x3), (4, .inl x4), (5, .inl x5), (6, .inl x6), (7, .inl 1), (8, .inl z77)]) (st' := [.inl ((H223.1 7 6) + 0), .inr (.inr 7)]) rfl ?_
                  refine k_puti (z := ((H223.1 7 6) + 0)) (a := 7) (x := kx_7) rfl rfl rfl (by decide) (by decide) rfl rfl rfl rfl hI224 (by omega) (show 0 ≤ ((H223.1 7 6) + 0) ∧ ((H223.1 7 6) + 0) ≤ 16 by omega) (fun H241 hI242 hw243 hv244 => ?_)
                  have hf245 : fq [(2, 5), (7, 5), (7, 6), (8, 4), (13, 4), (18, 4), (361, 3), (361, 4), (361, 5), (361, 6), (361, 7), (361, 8), (361, 9)] [4, 5, 6, 9, 10, 11, 14, 15, 16, 17, 19, 20, 21, 22, 362] true H H241 := fq_w hf227 hw243 (fpo (by decide) rfl)
                  refine k_run 0 (pc' := 220) (l' := [(0, .inr (.inr 361)), (1, .inl x1), (2, .inl x2), (3, .inl x3), (4, .inl x4), (5, .inl x5), (6, .inl x6), (7, .inl 1), (8, .inl z77)]) (st' := []) rfl ?_
                  refine k_run 2 (pc' := 69) (l' := [(0, .inr (.inr 361)), (1, .inl x1), (2, .inl x2), (3, .inl x3), (4, .inl x4), (5, .inl x5), (6, .inl (x6 + 1)), (7, .inl 1), (8, .inl z77)]) (st' := []) rfl ?_
                  refine h_loc [0, 1, 2, 3, 4, 5, 6, 7] rfl ?_
                  exact ih H241 hI242 hf245 x1 x2 x3 x4 x5 (x6 + 1) (1 : Int) (by omega) (by omega) (by omega) (by omega) (by omega) (by omega) (by decide) (by omega) (by omega) (by omega) (by omega) (by omega) (by omega) (by omega) (by omega)
                · refine k_run 0 (pc' := 211) (l' := [(0, .inr (.inr 361)), (1, .inl x1), (2, .inl x2), (3, .inl x3), (4, .inl x4), (5, .inl x5), (6, .inl x6), (7, .inl 1), (8, .inl z77)]) (st' := [.inl (H223.1 7 6), .inr (.inr 7)]) rfl ?_
                  refine k_run 3 (pc' := 217) (l' := [(0, .inr (.inr 361)), (1, .inl x1), (2, .inl x2), (3, .inl x3), (4, .inl x4), (5, .inl x5), (6, .inl x6), (7, .inl 1), (8, .inl z77)]) (st' := [.inl ((H223.1 7 6) + 1), .inr (.inr 7)]) rfl ?_
                  refine k_puti (z := ((H223.1 7 6) + 1)) (a := 7) (x := kx_7) rfl rfl rfl (by decide) (by decide) rfl rfl rfl rfl hI224 (by omega) (show 0 ≤ ((H223.1 7 6) + 1) ∧ ((H223.1 7 6) + 1) ≤ 16 by omega) (fun H246 hI247 hw248 hv249 => ?_)
                  have hf250 : fq [(2, 5), (7, 5), (7, 6), (8, 4), (13, 4), (18, 4), (361, 3), (361, 4), (361, 5), (361, 6), (361, 7), (361, 8), (361, 9)] [4, 5, 6, 9, 10, 11, 14, 15, 16, 17, 19, 20, 21, 22, 362] true H H246 := fq_w hf227 hw248 (fpo (by decide) rfl)
                  refine k_run 0 (pc' := 220) (l' := [(0, .inr (.inr 361)), (1, .inl x1), (2, .inl x2), (3, .inl x3), (4, .inl x4), (5, .inl x5), (6, .inl x6), (7, .inl 1), (8, .inl z77)]) (st' := []) rfl ?_
                  refine k_run 2 (pc' := 69) (l' := [(0, .inr (.inr 361)), (1, .inl x1), (2, .inl x2), (3, .inl x3), (4, .inl x4), (5, .inl x5), (6, .inl (x6 + 1)), (7, .inl 1), (8, .inl z77)]) (st' := []) rfl ?_
                  refine h_loc [0, 1, 2, 3, 4, 5, 6, 7] rfl ?_
                  exact ih H246 hI247 hf250 x1 x2 x3 x4 x5 (x6 + 1) (1 : Int) (by omega) (by omega) (by omega) (by omega) (by omega) (by omega) (by decide) (by omega) (by omega) (by omega) (by omega) (by omega) (by omega) (by omega) (by omega)
          · refine h_tin (k := 2) (t := 146) rfl (by omega) (show z77 = 4 + ((2 : Nat) : Int) by omega) (by decide) rfl rfl ?_
            refine k_run 1 (pc' := 147) (l' := [(0, .inr (.inr 361)), (1, .inl x1), (2, .inl x2), (3, .inl x3), (4, .inl x4), (5, .inl x5), (6, .inl x6), (7, .inl x7), (8, .inl z77)]) (st' := [.inr (.inr 361)]) rfl ?_
            refine h_cv (i := 83) (j := 68) (b := 361) (M' := mt_68) (xs := []) (rest := []) rfl rfl rfl rfl (zs_K (x := kx_361) rfl (by decide)) rfl (Nat.le_of_ble_eq_true rfl) (Nat.le_of_ble_eq_true rfl) (by omega) (k_Reader_readRule (by omega) hI1 ) ?_
            rintro _ H252 ⟨z255, rfl, g251, hI253, hq254⟩
            have hf256 : fq [(2, 5), (7, 5), (7, 6), (8, 4), (13, 4), (18, 4), (361, 3), (361, 4), (361, 5), (361, 6), (361, 7), (361, 8), (361, 9)] [4, 5, 6, 9, 10, 11, 14, 15, 16, 17, 19, 20, 21, 22, 362] true H H252 := fq_t hf1 hq254 rfl rfl rfl
            refine k_run 0 (pc' := 150) (l' := [(0, .inr (.inr 361)), (1, .inl x1), (2, .inl x2), (3, .inl x3), (4, .inl x4), (5, .inl x5), (6, .inl x6), (7, .inl x7), (8, .inl z77)]) (st' := [.inl z255]) rfl ?_
            refine k_run 3 (pc' := 172) (l' := [(0, .inr (.inr 361)), (1, .inl x1), (2, .inl x2), (3, .inl x3), (4, .inl x4), (5, .inl x5), (6, .inl x6), (7, .inl z255), (8, .inl z77)]) (st' := [.inl z255]) rfl ?_
            refine h_zeq (off := 16) (t := 188) rfl rfl (by omega) (fun c257 => ?_) (fun c257 => ?_)
            · refine k_run 0 (pc' := 188) (l' := [(0, .inr (.inr 361)), (1, .inl x1), (2, .inl x2), (3, .inl x3), (4, .inl x4), (5, .inl x5), (6, .inl x6), (7, .inl z255), (8, .inl z77)]) (st' := []) rfl ?_
              refine k_run 6 (pc' := 199) (l' := [(0, .inr (.inr 361)), (1, .inl x1), (2, .inl x2), (3, .inl x3), (4, .inl x4), (5, .inl x5), (6, .inl x6), (7, .inl 0), (8, .inl z77)]) (st' := [.inl (H252.1 7 6), .inr (.inr 7)]) rfl ?_
              have g258 : 0 ≤ (H252.1 7 6) ∧ (H252.1 7 6) ≤ 16 := kn (x := kx_7) hI253 rfl 6
              have e259 : (H252.1 7 6) = (H1.1 7 6) := (hq254.1 7 6 rfl (by decide) (by decide)).1
              refine k_run 1 (pc' := 201) (l' := [(0, .inr (.inr 361)), (1, .inl x1), (2, .inl x2), (3, .inl x3), (4, .inl x4), (5, .inl x5), (6, .inl x6), (7, .inl 0), (8, .inl z77)]) (st' := [.inl 0, .inl (H252.1 7 6), .inr (.inr 7)]) rfl ?_
              refine h_zeq (off := 14) (t := 215) rfl rfl (by decide) (fun _ => ?_) (fun c => absurd c (by decide))
              refine k_run 0 (pc' := 215) (l' := [(0, .inr (.inr 361)), (1, .inl x1), (2, .inl x2), (3, .inl x3), (4, .inl x4), (5, .inl x5), (6, .inl x6), (7, .inl 0), (8, .inl z77)]) (st' := [.inl (H252.1 7 6), .inr (.inr 7)]) rfl ?_
              refine k_run 2 (pc' := 217) (l' := [(0, .inr (.inr 361)), (1, .inl x1), (2, .inl x2), (3, .inl x3), (4, .inl x4), (5, .inl x5), (6, .inl x6), (7, .inl 0), (8, .inl z77)]) (st' := [.inl ((H252.1 7 6) + 0), .inr (.inr 7)]) rfl ?_
              refine k_puti (z := ((H252.1 7 6) + 0)) (a := 7) (x := kx_7) rfl rfl rfl (by decide) (by decide) rfl rfl rfl rfl hI253 (by omega) (show 0 ≤ ((H252.1 7 6) + 0) ∧ ((H252.1 7 6) + 0) ≤ 16 by omega) (fun H260 hI261 hw262 hv263 => ?_)
              have hf264 : fq [(2, 5), (7, 5), (7, 6), (8, 4), (13, 4), (18, 4), (361, 3), (361, 4), (361, 5), (361, 6), (361, 7), (361, 8), (361, 9)] [4, 5, 6, 9, 10, 11, 14, 15, 16, 17, 19, 20, 21, 22, 362] true H H260 := fq_w hf256 hw262 (fpo (by decide) rfl)
              refine k_run 0 (pc' := 220) (l' := [(0, .inr (.inr 361)), (1, .inl x1), (2, .inl x2), (3, .inl x3), (4, .inl x4), (5, .inl x5), (6, .inl x6), (7, .inl 0), (8, .inl z77)]) (st' := []) rfl ?_
              refine k_run 2 (pc' := 69) (l' := [(0, .inr (.inr 361)), (1, .inl x1), (2, .inl x2), (3, .inl x3), (4, .inl x4), (5, .inl x5), (6, .inl (x6 + 1)), (7, .inl 0), (8, .inl z77)]) (st' := []) rfl ?_
              refine h_loc [0, 1, 2, 3, 4, 5, 6, 7] rfl ?_
              exact ih H260 hI261 hf264 x1 x2 x3 x4 x5 (x6 + 1) (0 : Int) (by omega) (by omega) (by omega) (by omega) (by omega) (by omega) (by decide) (by omega) (by omega) (by omega) (by omega) (by omega) (by omega) (by omega) (by omega)
            · refine k_run 0 (pc' := 175) (l' := [(0, .inr (.inr 361)), (1, .inl x1), (2, .inl x2), (3, .inl x3), (4, .inl x4), (5, .inl x5), (6, .inl x6), (7, .inl z255), (8, .inl z77)]) (st' := []) rfl ?_
              refine k_run 2 (pc' := 178) (l' := [(0, .inr (.inr 361)), (1, .inl x1), (2, .inl x2), (3, .inl x3), (4, .inl x4), (5, .inl x5), (6, .inl x6), (7, .inl z255), (8, .inl z77)]) (st' := [.inl 59, .inr (.inr 361)]) rfl ?_
              refine h_cv (i := 92) (j := 82) (b := 361) (M' := mt_82) (xs := [.inl 59]) (rest := []) rfl rfl rfl rfl (zs_K (x := kx_361) rfl (by decide)) rfl (Nat.le_of_ble_eq_true rfl) (Nat.le_of_ble_eq_true rfl) (by omega) (k_Reader_take (by omega) hI253 (by decide)) ?_
              rintro _ H266 ⟨z269, rfl, g265, hI267, hq268⟩
              have hf270 : fq [(2, 5), (7, 5), (7, 6), (8, 4), (13, 4), (18, 4), (361, 3), (361, 4), (361, 5), (361, 6), (361, 7), (361, 8), (361, 9)] [4, 5, 6, 9, 10, 11, 14, 15, 16, 17, 19, 20, 21, 22, 362] true H H266 := fq_t hf256 hq268 rfl rfl rfl
              refine k_run 0 (pc' := 181) (l' := [(0, .inr (.inr 361)), (1, .inl x1), (2, .inl x2), (3, .inl x3), (4, .inl x4), (5, .inl x5), (6, .inl x6), (7, .inl z255), (8, .inl z77)]) (st' := [.inl z269]) rfl ?_
              refine h_zeq (off := 7) (t := 188) rfl rfl (by omega) (fun c271 => ?_) (fun c271 => ?_)
              · refine k_run 0 (pc' := 188) (l' := [(0, .inr (.inr 361)), (1, .inl x1), (2, .inl x2), (3, .inl x3), (4, .inl x4), (5, .inl x5), (6, .inl x6), (7, .inl z255), (8, .inl z77)]) (st' := []) rfl ?_
                refine k_run 6 (pc' := 199) (l' := [(0, .inr (.inr 361)), (1, .inl x1), (2, .inl x2), (3, .inl x3), (4, .inl x4), (5, .inl x5), (6, .inl x6), (7, .inl 0), (8, .inl z77)]) (st' := [.inl (H266.1 7 6), .inr (.inr 7)]) rfl ?_
                have g272 : 0 ≤ (H266.1 7 6) ∧ (H266.1 7 6) ≤ 16 := kn (x := kx_7) hI267 rfl 6
                have e273 : (H266.1 7 6) = (H252.1 7 6) := (hq268.1 7 6 rfl (by decide) (by decide)).1
                have e274 : (H252.1 7 6) = (H1.1 7 6) := (hq254.1 7 6 rfl (by decide) (by decide)).1
                refine k_run 1 (pc' := 201) (l' := [(0, .inr (.inr 361)), (1, .inl x1), (2, .inl x2), (3, .inl x3), (4, .inl x4), (5, .inl x5), (6, .inl x6), (7, .inl 0), (8, .inl z77)]) (st' := [.inl 0, .inl (H266.1 7 6), .inr (.inr 7)]) rfl ?_
                refine h_zeq (off := 14) (t := 215) rfl rfl (by decide) (fun _ => ?_) (fun c => absurd c (by decide))
                refine k_run 0 (pc' := 215) (l' := [(0, .inr (.inr 361)), (1, .inl x1), (2, .inl x2), (3, .inl x3), (4, .inl x4), (5, .inl x5), (6, .inl x6), (7, .inl 0), (8, .inl z77)]) (st' := [.inl (H266.1 7 6), .inr (.inr 7)]) rfl ?_
                refine k_run 2 (pc' := 217) (l' := [(0, .inr (.inr 361)), (1, .inl x1), (2, .inl x2), (3, .inl x3), (4, .inl x4), (5, .inl x5), (6, .inl x6), (7, .inl 0), (8, .inl z77)]) (st' := [.inl ((H266.1 7 6) + 0), .inr (.inr 7)]) rfl ?_
                refine k_puti (z := ((H266.1 7 6) + 0)) (a := 7) (x := kx_7) rfl rfl rfl (by decide) (by decide) rfl rfl rfl rfl hI267 (by omega) (show 0 ≤ ((H266.1 7 6) + 0) ∧ ((H266.1 7 6) + 0) ≤ 16 by omega) (fun H275 hI276 hw277 hv278 => ?_)
                have hf279 : fq [(2, 5), (7, 5), (7, 6), (8, 4), (13, 4), (18, 4), (361, 3), (361, 4), (361, 5), (361, 6), (361, 7), (361, 8), (361, 9)] [4, 5, 6, 9, 10, 11, 14, 15, 16, 17, 19, 20, 21, 22, 362] true H H275 := fq_w hf270 hw277 (fpo (by decide) rfl)
                refine k_run 0 (pc' := 220) (l' := [(0, .inr (.inr 361)), (1, .inl x1), (2, .inl x2), (3, .inl x3), (4, .inl x4), (5, .inl x5), (6, .inl x6), (7, .inl 0), (8, .inl z77)]) (st' := []) rfl ?_
                refine k_run 2 (pc' := 69) (l' := [(0, .inr (.inr 361)), (1, .inl x1), (2, .inl x2), (3, .inl x3), (4, .inl x4), (5, .inl x5), (6, .inl (x6 + 1)), (7, .inl 0), (8, .inl z77)]) (st' := []) rfl ?_
                refine h_loc [0, 1, 2, 3, 4, 5, 6, 7] rfl ?_
                exact ih H275 hI276 hf279 x1 x2 x3 x4 x5 (x6 + 1) (0 : Int) (by omega) (by omega) (by omega) (by omega) (by omega) (by omega) (by decide) (by omega) (by omega) (by omega) (by omega) (by omega) (by omega) (by omega) (by omega)
              · refine k_run 0 (pc' := 184) (l' := [(0, .inr (.inr 361)), (1, .inl x1), (2, .inl x2), (3, .inl x3), (4, .inl x4), (5, .inl x5), (6, .inl x6), (7, .inl z255), (8, .inl z77)]) (st' := []) rfl ?_
                refine k_run 7 (pc' := 199) (l' := [(0, .inr (.inr 361)), (1, .inl x1), (2, .inl x2), (3, .inl x3), (4, .inl x4), (5, .inl x5), (6, .inl x6), (7, .inl 1), (8, .inl z77)]) (st' := [.inl (H266.1 7 6), .inr (.inr 7)]) rfl ?_
                have g280 : 0 ≤ (H266.1 7 6) ∧ (H266.1 7 6) ≤ 16 := kn (x := kx_7) hI267 rfl 6
                have e281 : (H266.1 7 6) = (H252.1 7 6) := (hq268.1 7 6 rfl (by decide) (by decide)).1
                have e282 : (H252.1 7 6) = (H1.1 7 6) := (hq254.1 7 6 rfl (by decide) (by decide)).1
                refine k_run 1 (pc' := 201) (l' := [(0, .inr (.inr 361)), (1, .inl x1), (2, .inl x2), (3, .inl x3), (4, .inl x4), (5, .inl x5), (6, .inl x6), (7, .inl 1), (8, .inl z77)]) (st' := [.inl 1, .inl (H266.1 7 6), .inr (.inr 7)]) rfl ?_
                refine h_zeq (off := 14) (t := 215) rfl rfl (by decide) (fun c => absurd c (by decide)) (fun _ => ?_)
                refine k_run 0 (pc' := 204) (l' := [(0, .inr (.inr 361)), (1, .inl x1), (2, .inl x2), (3, .inl x3), (4, .inl x4), (5, .inl x5), (6, .inl x6), (7, .inl 1), (8, .inl z77)]) (st' := [.inl (H266.1 7 6), .inr (.inr 7)]) rfl ?_
                refine k_run 2 (pc' := 208) (l' := [(0, .inr (.inr 361)), (1, .inl x1), (2, .inl x2), (3, .inl x3), (4, .inl x4), (5, .inl x5), (6, .inl x6), (7, .inl 1), (8, .inl z77)]) (st' := [.inl 7, .inl z77, .inl (H266.1 7 6), .inr (.inr 7)]) rfl ?_
                refine h_ine (off := 7) (t := 215) rfl rfl (by omega) (by decide) (fun c283 => ?_) (fun c283 => ?_)
                · refine k_run 0 (pc' := 215) (l' := [(0, .inr (.inr 361)), (1, .inl x1), (2, .inl x2), (3, .inl x3), (4, .inl x4), (5, .inl x5), (6, .inl x6), (7, .inl 1), (8, .inl z77)]) (st' := [.inl (H266.1 7 6), .inr (.inr 7)]) rfl ?_
                  refine k_run 2 (pc' := 217) (l' := [(0, .inr (.inr 361)), (1, .inl x1), (2, .inl x2), (3, .inl x3), (4, .inl x4), (5, .inl x5), (6, .inl x6), (7, .inl 1), (8, .inl z77)]) (st' := [.inl ((H266.1 7 6) + 0), .inr (.inr 7)]) rfl ?_
                  refine k_puti (z := ((H266.1 7 6) + 0)) (a := 7) (x := kx_7) rfl rfl rfl (by decide) (by decide) rfl rfl rfl rfl hI267 (by omega) (show 0 ≤ ((H266.1 7 6) + 0) ∧ ((H266.1 7 6) + 0) ≤ 16 by omega) (fun H284 hI285 hw286 hv287 => ?_)
                  have hf288 : fq [(2, 5), (7, 5), (7, 6), (8, 4), (13, 4), (18, 4), (361, 3), (361, 4), (361, 5), (361, 6), (361, 7), (361, 8), (361, 9)] [4, 5, 6, 9, 10, 11, 14, 15, 16, 17, 19, 20, 21, 22, 362] true H H284 := fq_w hf270 hw286 (fpo (by decide) rfl)
                  refine k_run 0 (pc' := 220) (l' := [(0, .inr (.inr 361)), (1, .inl x1), (2, .inl x2), (3, .inl x3), (4, .inl x4), (5, .inl x5), (6, .inl x6), (7, .inl 1), (8, .inl z77)]) (st' := []) rfl ?_
                  refine k_run 2 (pc' := 69) (l' := [(0, .inr (.inr 361)), (1, .inl x1), (2, .inl x2), (3, .inl x3), (4, .inl x4), (5, .inl x5), (6, .inl (x6 + 1)), (7, .inl 1), (8, .inl z77)]) (st' := []) rfl ?_
                  refine h_loc [0, 1, 2, 3, 4, 5, 6, 7] rfl ?_
                  exact ih H284 hI285 hf288 x1 x2 x3 x4 x5 (x6 + 1) (1 : Int) (by omega) (by omega) (by omega) (by omega) (by omega) (by omega) (by decide) (by omega) (by omega) (by omega) (by omega) (by omega) (by omega) (by omega) (by omega)
                · refine k_run 0 (pc' := 211) (l' := [(0, .inr (.inr 361)), (1, .inl x1), (2, .inl x2), (3, .inl x3), (4, .inl x4), (5, .inl x5), (6, .inl x6), (7, .inl 1), (8, .inl z77)]) (st' := [.inl (H266.1 7 6), .inr (.inr 7)]) rfl ?_
                  refine k_run 3 (pc' := 217) (l' := [(0, .inr (.inr 361)), (1, .inl x1), (2, .inl x2), (3, .inl x3), (4, .inl x4), (5, .inl x5), (6, .inl x6), (7, .inl 1), (8, .inl z77)]) (st' := [.inl ((H266.1 7 6) + 1), .inr (.inr 7)]) rfl ?_
                  refine k_puti (z := ((H266.1 7 6) + 1)) (a := 7) (x := kx_7) rfl rfl rfl (by decide) (by decide) rfl rfl rfl rfl hI267 (by omega) (show 0 ≤ ((H266.1 7 6) + 1) ∧ ((H266.1 7 6) + 1) ≤ 16 by omega) (fun H289 hI290 hw291 hv292 => ?_)
                  have hf293 : fq [(2, 5), (7, 5), (7, 6), (8, 4), (13, 4), (18, 4), (361, 3), (361, 4), (361, 5), (361, 6), (361, 7), (361, 8), (361, 9)] [4, 5, 6, 9, 10, 11, 14, 15, 16, 17, 19, 20, 21, 22, 362] true H H289 := fq_w hf270 hw291 (fpo (by decide) rfl)
                  refine k_run 0 (pc' := 220) (l' := [(0, .inr (.inr 361)), (1, .inl x1), (2, .inl x2), (3, .inl x3), (4, .inl x4), (5, .inl x5), (6, .inl x6), (7, .inl 1), (8, .inl z77)]) (st' := []) rfl ?_
                  refine k_run 2 (pc' := 69) (l' := [(0, .inr (.inr 361)), (1, .inl x1), (2, .inl x2), (3, .inl x3), (4, .inl x4), (5, .inl x5), (6, .inl (x6 + 1)), (7, .inl 1), (8, .inl z77)]) (st' := []) rfl ?_
                  refine h_loc [0, 1, 2, 3, 4, 5, 6, 7] rfl ?_
                  exact ih H289 hI290 hf293 x1 x2 x3 x4 x5 (x6 + 1) (1 : Int) (by omega) (by omega) (by omega) (by omega) (by omega) (by omega) (by decide) (by omega) (by omega) (by omega) (by omega) (by omega) (by omega) (by omega) (by omega)
          · refine h_tin (k := 3) (t := 155) rfl (by omega) (show z77 = 4 + ((3 : Nat) : Int) by omega) (by decide) rfl rfl ?_
            refine k_run 1 (pc' := 156) (l' := [(0, .inr (.inr 361)), (1, .inl x1), (2, .inl x2), (3, .inl x3), (4, .inl x4), (5, .inl x5), (6, .inl x6), (7, .inl x7), (8, .inl z77)]) (st' := [.inr (.inr 361)]) rfl ?_
            refine h_cv (i := 86) (j := 69) (b := 361) (M' := mt_69) (xs := []) (rest := []) rfl rfl rfl rfl (zs_K (x := kx_361) rfl (by decide)) rfl (Nat.le_of_ble_eq_true rfl) (Nat.le_of_ble_eq_true rfl) (by omega) (k_Reader_readLaw (by omega) hI1 ) ?_
            rintro _ H295 ⟨z298, rfl, g294, hI296, hq297⟩
            have hf299 : fq [(2, 5), (7, 5), (7, 6), (8, 4), (13, 4), (18, 4), (361, 3), (361, 4), (361, 5), (361, 6), (361, 7), (361, 8), (361, 9)] [4, 5, 6, 9, 10, 11, 14, 15, 16, 17, 19, 20, 21, 22, 362] true H H295 := fq_t hf1 hq297 rfl rfl rfl
            refine k_run 0 (pc' := 159) (l' := [(0, .inr (.inr 361)), (1, .inl x1), (2, .inl x2), (3, .inl x3), (4, .inl x4), (5, .inl x5), (6, .inl x6), (7, .inl x7), (8, .inl z77)]) (st' := [.inl z298]) rfl ?_
            refine k_run 3 (pc' := 172) (l' := [(0, .inr (.inr 361)), (1, .inl x1), (2, .inl x2), (3, .inl x3), (4, .inl x4), (5, .inl x5), (6, .inl x6), (7, .inl z298), (8, .inl z77)]) (st' := [.inl z298]) rfl ?_
            refine h_zeq (off := 16) (t := 188) rfl rfl (by omega) (fun c300 => ?_) (fun c300 => ?_)
            · refine k_run 0 (pc' := 188) (l' := [(0, .inr (.inr 361)), (1, .inl x1), (2, .inl x2), (3, .inl x3), (4, .inl x4), (5, .inl x5), (6, .inl x6), (7, .inl z298), (8, .inl z77)]) (st' := []) rfl ?_
              refine k_run 6 (pc' := 199) (l' := [(0, .inr (.inr 361)), (1, .inl x1), (2, .inl x2), (3, .inl x3), (4, .inl x4), (5, .inl x5), (6, .inl x6), (7, .inl 0), (8, .inl z77)]) (st' := [.inl (H295.1 7 6), .inr (.inr 7)]) rfl ?_
              have g301 : 0 ≤ (H295.1 7 6) ∧ (H295.1 7 6) ≤ 16 := kn (x := kx_7) hI296 rfl 6
              have e302 : (H295.1 7 6) = (H1.1 7 6) := (hq297.1 7 6 rfl (by decide) (by decide)).1
              refine k_run 1 (pc' := 201) (l' := [(0, .inr (.inr 361)), (1, .inl x1), (2, .inl x2), (3, .inl x3), (4, .inl x4), (5, .inl x5), (6, .inl x6), (7, .inl 0), (8, .inl z77)]) (st' := [.inl 0, .inl (H295.1 7 6), .inr (.inr 7)]) rfl ?_
              refine h_zeq (off := 14) (t := 215) rfl rfl (by decide) (fun _ => ?_) (fun c => absurd c (by decide))
              refine k_run 0 (pc' := 215) (l' := [(0, .inr (.inr 361)), (1, .inl x1), (2, .inl x2), (3, .inl x3), (4, .inl x4), (5, .inl x5), (6, .inl x6), (7, .inl 0), (8, .inl z77)]) (st' := [.inl (H295.1 7 6), .inr (.inr 7)]) rfl ?_
              refine k_run 2 (pc' := 217) (l' := [(0, .inr (.inr 361)), (1, .inl x1), (2, .inl x2), (3, .inl x3), (4, .inl x4), (5, .inl x5), (6, .inl x6), (7, .inl 0), (8, .inl z77)]) (st' := [.inl ((H295.1 7 6) + 0), .inr (.inr 7)]) rfl ?_
              refine k_puti (z := ((H295.1 7 6) + 0)) (a := 7) (x := kx_7) rfl rfl rfl (by decide) (by decide) rfl rfl rfl rfl hI296 (by omega) (show 0 ≤ ((H295.1 7 6) + 0) ∧ ((H295.1 7 6) + 0) ≤ 16 by omega) (fun H303 hI304 hw305 hv306 => ?_)
              have hf307 : fq [(2, 5), (7, 5), (7, 6), (8, 4), (13, 4), (18, 4), (361, 3), (361, 4), (361, 5), (361, 6), (361, 7), (361, 8), (361, 9)] [4, 5, 6, 9, 10, 11, 14, 15, 16, 17, 19, 20, 21, 22, 362] true H H303 := fq_w hf299 hw305 (fpo (by decide) rfl)
              refine k_run 0 (pc' := 220) (l' := [(0, .inr (.inr 361)), (1, .inl x1), (2, .inl x2), (3, .inl x3), (4, .inl x4), (5, .inl x5), (6, .inl x6), (7, .inl 0), (8, .inl z77)]) (st' := []) rfl ?_
              refine k_run 2 (pc' := 69) (l' := [(0, .inr (.inr 361)), (1, .inl x1), (2, .inl x2), (3, .inl x3), (4, .inl x4), (5, .inl x5), (6, .inl (x6 + 1)), (7, .inl 0), (8, .inl z77)]) (st' := []) rfl ?_
              refine h_loc [0, 1, 2, 3, 4, 5, 6, 7] rfl ?_
              exact ih H303 hI304 hf307 x1 x2 x3 x4 x5 (x6 + 1) (0 : Int) (by omega) (by omega) (by omega) (by omega) (by omega) (by omega) (by decide) (by omega) (by omega) (by omega) (by omega) (by omega) (by omega) (by omega) (by omega)
            · refine k_run 0 (pc' := 175) (l' := [(0, .inr (.inr 361)), (1, .inl x1), (2, .inl x2), (3, .inl x3), (4, .inl x4), (5, .inl x5), (6, .inl x6), (7, .inl z298), (8, .inl z77)]) (st' := []) rfl ?_
              refine k_run 2 (pc' := 178) (l' := [(0, .inr (.inr 361)), (1, .inl x1), (2, .inl x2), (3, .inl x3), (4, .inl x4), (5, .inl x5), (6, .inl x6), (7, .inl z298), (8, .inl z77)]) (st' := [.inl 59, .inr (.inr 361)]) rfl ?_
              refine h_cv (i := 92) (j := 82) (b := 361) (M' := mt_82) (xs := [.inl 59]) (rest := []) rfl rfl rfl rfl (zs_K (x := kx_361) rfl (by decide)) rfl (Nat.le_of_ble_eq_true rfl) (Nat.le_of_ble_eq_true rfl) (by omega) (k_Reader_take (by omega) hI296 (by decide)) ?_
              rintro _ H309 ⟨z312, rfl, g308, hI310, hq311⟩
              have hf313 : fq [(2, 5), (7, 5), (7, 6), (8, 4), (13, 4), (18, 4), (361, 3), (361, 4), (361, 5), (361, 6), (361, 7), (361, 8), (361, 9)] [4, 5, 6, 9, 10, 11, 14, 15, 16, 17, 19, 20, 21, 22, 362] true H H309 := fq_t hf299 hq311 rfl rfl rfl
              refine k_run 0 (pc' := 181) (l' := [(0, .inr (.inr 361)), (1, .inl x1), (2, .inl x2), (3, .inl x3), (4, .inl x4), (5, .inl x5), (6, .inl x6), (7, .inl z298), (8, .inl z77)]) (st' := [.inl z312]) rfl ?_
              refine h_zeq (off := 7) (t := 188) rfl rfl (by omega) (fun c314 => ?_) (fun c314 => ?_)
              · refine k_run 0 (pc' := 188) (l' := [(0, .inr (.inr 361)), (1, .inl x1), (2, .inl x2), (3, .inl x3), (4, .inl x4), (5, .inl x5), (6, .inl x6), (7, .inl z298), (8, .inl z77)]) (st' := []) rfl ?_
                refine k_run 6 (pc' := 199) (l' := [(0, .inr (.inr 361)), (1, .inl x1), (2, .inl x2), (3, .inl x3), (4, .inl x4), (5, .inl x5), (6, .inl x6), (7, .inl 0), (8, .inl z77)]) (st' := [.inl (H309.1 7 6), .inr (.inr 7)]) rfl ?_
                have g315 : 0 ≤ (H309.1 7 6) ∧ (H309.1 7 6) ≤ 16 := kn (x := kx_7) hI310 rfl 6
                have e316 : (H309.1 7 6) = (H295.1 7 6) := (hq311.1 7 6 rfl (by decide) (by decide)).1
                have e317 : (H295.1 7 6) = (H1.1 7 6) := (hq297.1 7 6 rfl (by decide) (by decide)).1
                refine k_run 1 (pc' := 201) (l' := [(0, .inr (.inr 361)), (1, .inl x1), (2, .inl x2), (3, .inl x3), (4, .inl x4), (5, .inl x5), (6, .inl x6), (7, .inl 0), (8, .inl z77)]) (st' := [.inl 0, .inl (H309.1 7 6), .inr (.inr 7)]) rfl ?_
                refine h_zeq (off := 14) (t := 215) rfl rfl (by decide) (fun _ => ?_) (fun c => absurd c (by decide))
                refine k_run 0 (pc' := 215) (l' := [(0, .inr (.inr 361)), (1, .inl x1), (2, .inl x2), (3, .inl x3), (4, .inl x4), (5, .inl x5), (6, .inl x6), (7, .inl 0), (8, .inl z77)]) (st' := [.inl (H309.1 7 6), .inr (.inr 7)]) rfl ?_
                refine k_run 2 (pc' := 217) (l' := [(0, .inr (.inr 361)), (1, .inl x1), (2, .inl x2), (3, .inl x3), (4, .inl x4), (5, .inl x5), (6, .inl x6), (7, .inl 0), (8, .inl z77)]) (st' := [.inl ((H309.1 7 6) + 0), .inr (.inr 7)]) rfl ?_
                refine k_puti (z := ((H309.1 7 6) + 0)) (a := 7) (x := kx_7) rfl rfl rfl (by decide) (by decide) rfl rfl rfl rfl hI310 (by omega) (show 0 ≤ ((H309.1 7 6) + 0) ∧ ((H309.1 7 6) + 0) ≤ 16 by omega) (fun H318 hI319 hw320 hv321 => ?_)
                have hf322 : fq [(2, 5), (7, 5), (7, 6), (8, 4), (13, 4), (18, 4), (361, 3), (361, 4), (361, 5), (361, 6), (361, 7), (361, 8), (361, 9)] [4, 5, 6, 9, 10, 11, 14, 15, 16, 17, 19, 20, 21, 22, 362] true H H318 := fq_w hf313 hw320 (fpo (by decide) rfl)
                refine k_run 0 (pc' := 220) (l' := [(0, .inr (.inr 361)), (1, .inl x1), (2, .inl x2), (3, .inl x3), (4, .inl x4), (5, .inl x5), (6, .inl x6), (7, .inl 0), (8, .inl z77)]) (st' := []) rfl ?_
                refine k_run 2 (pc' := 69) (l' := [(0, .inr (.inr 361)), (1, .inl x1), (2, .inl x2), (3, .inl x3), (4, .inl x4), (5, .inl x5), (6, .inl (x6 + 1)), (7, .inl 0), (8, .inl z77)]) (st' := []) rfl ?_
                refine h_loc [0, 1, 2, 3, 4, 5, 6, 7] rfl ?_
                exact ih H318 hI319 hf322 x1 x2 x3 x4 x5 (x6 + 1) (0 : Int) (by omega) (by omega) (by omega) (by omega) (by omega) (by omega) (by decide) (by omega) (by omega) (by omega) (by omega) (by omega) (by omega) (by omega) (by omega)
              · refine k_run 0 (pc' := 184) (l' := [(0, .inr (.inr 361)), (1, .inl x1), (2, .inl x2), (3, .inl x3), (4, .inl x4), (5, .inl x5), (6, .inl x6), (7, .inl z298), (8, .inl z77)]) (st' := []) rfl ?_
                refine k_run 7 (pc' := 199) (l' := [(0, .inr (.inr 361)), (1, .inl x1), (2, .inl x2), (3, .inl x3), (4, .inl x4), (5, .inl x5), (6, .inl x6), (7, .inl 1), (8, .inl z77)]) (st' := [.inl (H309.1 7 6), .inr (.inr 7)]) rfl ?_
                have g323 : 0 ≤ (H309.1 7 6) ∧ (H309.1 7 6) ≤ 16 := kn (x := kx_7) hI310 rfl 6
                have e324 : (H309.1 7 6) = (H295.1 7 6) := (hq311.1 7 6 rfl (by decide) (by decide)).1
                have e325 : (H295.1 7 6) = (H1.1 7 6) := (hq297.1 7 6 rfl (by decide) (by decide)).1
                refine k_run 1 (pc' := 201) (l' := [(0, .inr (.inr 361)), (1, .inl x1), (2, .inl x2), (3, .inl x3), (4, .inl x4), (5, .inl x5), (6, .inl x6), (7, .inl 1), (8, .inl z77)]) (st' := [.inl 1, .inl (H309.1 7 6), .inr (.inr 7)]) rfl ?_
                refine h_zeq (off := 14) (t := 215) rfl rfl (by decide) (fun c => absurd c (by decide)) (fun _ => ?_)
                refine k_run 0 (pc' := 204) (l' := [(0, .inr (.inr 361)), (1, .inl x1), (2, .inl x2), (3, .inl x3), (4, .inl x4), (5, .inl x5), (6, .inl x6), (7, .inl 1), (8, .inl z77)]) (st' := [.inl (H309.1 7 6), .inr (.inr 7)]) rfl ?_
                refine k_run 2 (pc' := 208) (l' := [(0, .inr (.inr 361)), (1, .inl x1), (2, .inl x2), (3, .inl x3), (4, .inl x4), (5, .inl x5), (6, .inl x6), (7, .inl 1), (8, .inl z77)]) (st' := [.inl 7, .inl z77, .inl (H309.1 7 6), .inr (.inr 7)]) rfl ?_
                refine h_ine (off := 7) (t := 215) rfl rfl (by omega) (by decide) (fun c326 => ?_) (fun c326 => ?_)
                · refine k_run 0 (pc' := 215) (l' := [(0, .inr (.inr 361)), (1, .inl x1), (2, .inl x2), (3, .inl x3), (4, .inl x4), (5, .inl x5), (6, .inl x6), (7, .inl 1), (8, .inl z77)]) (st' := [.inl (H309.1 7 6), .inr (.inr 7)]) rfl ?_
                  refine k_run 2 (pc' := 217) (l' := [(0, .inr (.inr 361)), (1, .inl x1), (2, .inl x2), (3, .inl x3), (4, .inl x4), (5, .inl x5), (6, .inl x6), (7, .inl 1), (8, .inl z77)]) (st' := [.inl ((H309.1 7 6) + 0), .inr (.inr 7)]) rfl ?_
                  refine k_puti (z := ((H309.1 7 6) + 0)) (a := 7) (x := kx_7) rfl rfl rfl (by decide) (by decide) rfl rfl rfl rfl hI310 (by omega) (show 0 ≤ ((H309.1 7 6) + 0) ∧ ((H309.1 7 6) + 0) ≤ 16 by omega) (fun H327 hI328 hw329 hv330 => ?_)
                  have hf331 : fq [(2, 5), (7, 5), (7, 6), (8, 4), (13, 4), (18, 4), (361, 3), (361, 4), (361, 5), (361, 6), (361, 7), (361, 8), (361, 9)] [4, 5, 6, 9, 10, 11, 14, 15, 16, 17, 19, 20, 21, 22, 362] true H H327 := fq_w hf313 hw329 (fpo (by decide) rfl)
                  refine k_run 0 (pc' := 220) (l' := [(0, .inr (.inr 361)), (1, .inl x1), (2, .inl x2), (3, .inl x3), (4, .inl x4), (5, .inl x5), (6, .inl x6), (7, .inl 1), (8, .inl z77)]) (st' := []) rfl ?_
                  refine k_run 2 (pc' := 69) (l' := [(0, .inr (.inr 361)), (1, .inl x1), (2, .inl x2), (3, .inl x3), (4, .inl x4), (5, .inl x5), (6, .inl (x6 + 1)), (7, .inl 1), (8, .inl z77)]) (st' := []) rfl ?_
                  refine h_loc [0, 1, 2, 3, 4, 5, 6, 7] rfl ?_
                  exact ih H327 hI328 hf331 x1 x2 x3 x4 x5 (x6 + 1) (1 : Int) (by omega) (by omega) (by omega) (by omega) (by omega) (by omega) (by decide) (by omega) (by omega) (by omega) (by omega) (by omega) (by omega) (by omega) (by omega)
                · refine k_run 0 (pc' := 211) (l' := [(0, .inr (.inr 361)), (1, .inl x1), (2, .inl x2), (3, .inl x3), (4, .inl x4), (5, .inl x5), (6, .inl x6), (7, .inl 1), (8, .inl z77)]) (st' := [.inl (H309.1 7 6), .inr (.inr 7)]) rfl ?_
                  refine k_run 3 (pc' := 217) (l' := [(0, .inr (.inr 361)), (1, .inl x1), (2, .inl x2), (3, .inl x3), (4, .inl x4), (5, .inl x5), (6, .inl x6), (7, .inl 1), (8, .inl z77)]) (st' := [.inl ((H309.1 7 6) + 1), .inr (.inr 7)]) rfl ?_
                  refine k_puti (z := ((H309.1 7 6) + 1)) (a := 7) (x := kx_7) rfl rfl rfl (by decide) (by decide) rfl rfl rfl rfl hI310 (by omega) (show 0 ≤ ((H309.1 7 6) + 1) ∧ ((H309.1 7 6) + 1) ≤ 16 by omega) (fun H332 hI333 hw334 hv335 => ?_)
                  have hf336 : fq [(2, 5), (7, 5), (7, 6), (8, 4), (13, 4), (18, 4), (361, 3), (361, 4), (361, 5), (361, 6), (361, 7), (361, 8), (361, 9)] [4, 5, 6, 9, 10, 11, 14, 15, 16, 17, 19, 20, 21, 22, 362] true H H332 := fq_w hf313 hw334 (fpo (by decide) rfl)
                  refine k_run 0 (pc' := 220) (l' := [(0, .inr (.inr 361)), (1, .inl x1), (2, .inl x2), (3, .inl x3), (4, .inl x4), (5, .inl x5), (6, .inl x6), (7, .inl 1), (8, .inl z77)]) (st' := []) rfl ?_
                  refine k_run 2 (pc' := 69) (l' := [(0, .inr (.inr 361)), (1, .inl x1), (2, .inl x2), (3, .inl x3), (4, .inl x4), (5, .inl x5), (6, .inl (x6 + 1)), (7, .inl 1), (8, .inl z77)]) (st' := []) rfl ?_
                  refine h_loc [0, 1, 2, 3, 4, 5, 6, 7] rfl ?_
                  exact ih H332 hI333 hf336 x1 x2 x3 x4 x5 (x6 + 1) (1 : Int) (by omega) (by omega) (by omega) (by omega) (by omega) (by omega) (by decide) (by omega) (by omega) (by omega) (by omega) (by omega) (by omega) (by omega) (by omega)
set_option maxRecDepth 100000 in
theorem k_Reader_readText {d : Nat} (hd : 42 ≤ d) {H : hp} (hI : Inv H)   : hG (zs zK) d mt_62 0 (zargs 0 [.inr (.inr 361)]) [] H (fun r9 H9 => ∃ z : Int, r9 = some (.inl z) ∧ ((-2147483648 ≤ z ∧ z ≤ 2147483647)) ∧ Inv H9 ∧ fq [(2, 5), (7, 5), (7, 6), (8, 4), (13, 4), (18, 4), (361, 3), (361, 4), (361, 5), (361, 6), (361, 7), (361, 8), (361, 9)] [4, 5, 6, 9, 10, 11, 14, 15, 16, 17, 19, 20, 21, 22, 362] true H H9) := by
  refine k_run 0 (pc' := 0) (l' := [(0, .inr (.inr 361))]) (st' := []) rfl ?_
  refine k_run 4 (pc' := 10) (l' := [(0, .inr (.inr 361))]) (st' := [.inl (H.1 8 4)]) rfl ?_
  have g1 : 0 ≤ (H.1 8 4) ∧ (H.1 8 4) ≤ 6 := kn (x := kx_8) hI rfl 4
  refine k_run 5 (pc' := 21) (l' := [(0, .inr (.inr 361)), (1, .inl (H.1 8 4))]) (st' := [.inl (H.1 13 4)]) rfl ?_
  have g2 : 0 ≤ (H.1 13 4) ∧ (H.1 13 4) ≤ 16 := kn (x := kx_13) hI rfl 4
  refine k_run 5 (pc' := 32) (l' := [(0, .inr (.inr 361)), (1, .inl (H.1 8 4)), (2, .inl (H.1 13 4))]) (st' := [.inl (H.1 18 4)]) rfl ?_
  have g3 : 0 ≤ (H.1 18 4) ∧ (H.1 18 4) ≤ 16 := kn (x := kx_18) hI rfl 4
  refine k_run 4 (pc' := 40) (l' := [(0, .inr (.inr 361)), (1, .inl (H.1 8 4)), (2, .inl (H.1 13 4)), (3, .inl (H.1 18 4))]) (st' := [.inl (H.1 7 5)]) rfl ?_
  have g4 : 0 ≤ (H.1 7 5) ∧ (H.1 7 5) ≤ 40 := kn (x := kx_7) hI rfl 5
  refine k_run 4 (pc' := 49) (l' := [(0, .inr (.inr 361)), (1, .inl (H.1 8 4)), (2, .inl (H.1 13 4)), (3, .inl (H.1 18 4)), (4, .inl (H.1 7 5))]) (st' := [.inl (H.1 7 6)]) rfl ?_
  have g5 : 0 ≤ (H.1 7 6) ∧ (H.1 7 6) ≤ 16 := kn (x := kx_7) hI rfl 6
  refine k_run 3 (pc' := 55) (l' := [(0, .inr (.inr 361)), (1, .inl (H.1 8 4)), (2, .inl (H.1 13 4)), (3, .inl (H.1 18 4)), (4, .inl (H.1 7 5)), (5, .inl (H.1 7 6))]) (st' := [.inr (.inr 2)]) rfl ?_
  refine h_cv (i := 64) (j := 27) (b := 2) (M' := mt_27) (xs := []) (rest := []) rfl rfl rfl rfl (zs_K (x := kx_2) rfl (by decide)) rfl (Nat.le_of_ble_eq_true rfl) (Nat.le_of_ble_eq_true rfl) (by omega) (k_Tape_cut (by omega) hI ) ?_
  rintro _ H7 ⟨rfl, hI8, hq9⟩
  have hf10 : fq [(2, 5), (7, 5), (7, 6), (8, 4), (13, 4), (18, 4), (361, 3), (361, 4), (361, 5), (361, 6), (361, 7), (361, 8), (361, 9)] [4, 5, 6, 9, 10, 11, 14, 15, 16, 17, 19, 20, 21, 22, 362] true H H7 := fq_t (fq_rf _ _ _ _) hq9 rfl rfl rfl
  refine k_run 0 (pc' := 58) (l' := [(0, .inr (.inr 361)), (1, .inl (H.1 8 4)), (2, .inl (H.1 13 4)), (3, .inl (H.1 18 4)), (4, .inl (H.1 7 5)), (5, .inl (H.1 7 6))]) (st' := []) rfl ?_
  refine k_run 2 (pc' := 60) (l' := [(0, .inr (.inr 361)), (1, .inl (H.1 8 4)), (2, .inl (H.1 13 4)), (3, .inl (H.1 18 4)), (4, .inl (H.1 7 5)), (5, .inl (H.1 7 6))]) (st' := [.inl 0, .inr (.inr 361)]) rfl ?_
  refine k_putw (a := 361) (x := kx_361) rfl rfl rfl (by decide) (by decide) rfl rfl rfl rfl hI8 rfl (fun H11 hI12 hw13 => ?_)
  have hf15 : fq [(2, 5), (7, 5), (7, 6), (8, 4), (13, 4), (18, 4), (361, 3), (361, 4), (361, 5), (361, 6), (361, 7), (361, 8), (361, 9)] [4, 5, 6, 9, 10, 11, 14, 15, 16, 17, 19, 20, 21, 22, 362] true H H11 := fq_w hf10 hw13 (fpo (by decide) rfl)
  refine k_run 0 (pc' := 63) (l' := [(0, .inr (.inr 361)), (1, .inl (H.1 8 4)), (2, .inl (H.1 13 4)), (3, .inl (H.1 18 4)), (4, .inl (H.1 7 5)), (5, .inl (H.1 7 6))]) (st' := []) rfl ?_
  refine k_run 4 (pc' := 69) (l' := [(0, .inr (.inr 361)), (1, .inl (H.1 8 4)), (2, .inl (H.1 13 4)), (3, .inl (H.1 18 4)), (4, .inl (H.1 7 5)), (5, .inl (H.1 7 6)), (6, .inl 0), (7, .inl 1)]) (st' := []) rfl ?_
  exact (k_Reader_readText_cut hd hI  _) H11 hI12 hf15 (H.1 8 4) (H.1 13 4) (H.1 18 4) (H.1 7 5) (H.1 7 6) (0 : Int) (1 : Int) (by omega) (by omega) (by omega) (by omega) (by omega) (by decide) (by decide) (by omega) (by omega) (by omega) (by omega) (by omega) (by omega) (by omega) (Nat.lt_succ_self _)
