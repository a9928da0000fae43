/-! the class cuts its tape into tokens -/
theorem tKd_w {b : Nat → Int} {n s e : Nat} {z nm : Int} (h : s < n) (hl : cL (b s)) (he : wnd b (n - s) s = e) (hn : nm = nmz b s (min ((e : Int) - s) 6).toNat) (hz : z = if 6 < (e : Int) - s then 1 else if b s ≤ 90 then 3 else kwd nm) : tKd b n s = z ∧ tEd b n s = e ∧ (z ≠ 1 → nm = tNm b n s) := by
  have h1 : tEd b n s = e := by
    unfold tEd
    rw [if_neg (by omega), if_pos hl, he]
  have hle : s ≤ e := by
    have := (wnd_le b (n - s) s).1
    omega
  by_cases h6 : 6 < (e : Int) - s
  · rw [if_pos h6] at hz
    refine ⟨?_, h1, fun q => absurd hz q⟩
    unfold tKd
    rw [if_neg (by omega), if_pos hl, he, if_pos (by omega), hz]
  · have hm : nm = tNm b n s := by
      unfold tNm
      rw [hn, h1, show (min ((e : Int) - s) 6).toNat = e - s by omega]
    refine ⟨?_, h1, fun _ => hm⟩
    rw [if_neg h6] at hz
    unfold tKd
    rw [if_neg (by omega), if_pos hl, he, if_neg (by omega), hz, hm]
    unfold tNm
    rw [h1]
theorem tKd_s {b : Nat → Int} {n s : Nat} {z nm : Int} (h : s < n) (hl : ¬ cL (b s)) (hn : nm = nmz b s 1) (hz : (cS (b s) ∧ z = b s) ∨ (¬ cS (b s) ∧ z = 1)) : tKd b n s = z ∧ tEd b n s = s + 1 ∧ (z ≠ 1 → nm = tNm b n s) := by
  have h1 : tEd b n s = s + 1 := by
    unfold tEd
    rw [if_neg (by omega), if_neg hl]
  refine ⟨?_, h1, fun _ => ?_⟩
  · unfold tKd
    rw [if_neg (by omega), if_neg hl]
    rcases hz with ⟨q1, q2⟩ | ⟨q1, q2⟩
    · rw [if_pos q1, q2]
    · rw [if_neg q1, q2]
  · unfold tNm
    rw [hn, h1, Nat.add_sub_cancel_left]
theorem tKd_wi {b : Nat → Int} {n x e z nm : Int} (h0 : 0 ≤ x) (h : x < n) (hl : cL (b x.toNat)) (he : e = ((wnd b (n - x).toNat x.toNat : Nat) : Int)) (hn : nm = nmz b x.toNat (min (e - x) 6).toNat) (hz : z = if 6 < e - x then 1 else if b x.toNat ≤ 90 then 3 else kwd nm) : tKd b n.toNat x.toNat = z ∧ tEd b n.toNat x.toNat = e.toNat ∧ (z ≠ 1 → nm = tNm b n.toNat x.toNat) := by
  have e1 : ((e.toNat : Nat) : Int) - (x.toNat : Nat) = e - x := by omega
  refine tKd_w (e := e.toNat) (by omega) hl (by rw [show n.toNat - x.toNat = (n - x).toNat by omega]; omega) (by rw [e1]; exact hn) (by rw [e1]; exact hz)
theorem tKd_si {b : Nat → Int} {n x z nm : Int} (h0 : 0 ≤ x) (h : x < n) (hl : ¬ cL (b x.toNat)) (hn : nm = nmz b x.toNat (min (x + 1 - x) 6).toNat) (hz : (cS (b x.toNat) ∧ z = b x.toNat) ∨ (¬ cS (b x.toNat) ∧ z = 1)) : tKd b n.toNat x.toNat = z ∧ tEd b n.toNat x.toNat = (x + 1).toNat ∧ (z ≠ 1 → nm = tNm b n.toNat x.toNat) := by
  rw [show (x + 1).toNat = x.toNat + 1 by omega]
  exact tKd_s (by omega) hl (by rw [show 1 = (min (x + 1 - x) 6).toNat by omega]; exact hn) hz
theorem skp_b {b : Nat → Int} {n x : Int} (h0 : 0 ≤ x) (h : x < n) (hb : cB (b x.toNat)) : skp b (n - (x + 1)).toNat (x + 1).toNat = skp b (n - x).toNat x.toNat := by
  rw [show (n - x).toNat = (n - (x + 1)).toNat + 1 by omega, show (x + 1).toNat = x.toNat + 1 by omega]
  show _ = if cB (b x.toNat) then skp b (n - (x + 1)).toNat (x.toNat + 1) else x.toNat
  rw [if_pos hb]
theorem skp_no {b : Nat → Int} {n x : Int} (h : n ≤ x ∨ ¬ cB (b x.toNat)) : skp b (n - x).toNat x.toNat = x.toNat := by
  by_cases e : n ≤ x
  · rw [show (n - x).toNat = 0 by omega]
    rfl
  · obtain ⟨f, hf⟩ : ∃ f, (n - x).toNat = f + 1 := ⟨(n - x).toNat - 1, by omega⟩
    rw [hf]
    show (if cB (b x.toNat) then _ else _) = _
    rw [if_neg (h.resolve_left e)]
/-- j tokens lie there -/
def CI (Y : yx) (H1 : hp) (j : Nat) : Prop := H1.1 2 5 = j ∧ ∀ i, i < j → H1.1 4 i = tk Y i ∧ H1.1 5 i = ts Y i ∧ (tk Y i ≠ 1 → H1.1 6 i = tn Y i)
def CJ (b : Nat → Int) (n : Int) (H1 : hp) (x1 x2 : Int) : Prop := ∃ j : Nat, CI (b, n.toNat) H1 j ∧ (j : Int) ≤ x2 ∧ ((x1 = 0 ∧ skp b (n - x2).toNat x2.toNat = tS b n.toNat j ∧ ∀ i, i < j → tk (b, n.toNat) i ≠ 0 ∧ tk (b, n.toNat) i ≠ 1) ∨ (x1 = 1 ∧ ∃ q : Nat, j = q + 1 ∧ tk (b, n.toNat) q = 1 ∧ ∀ i, i < q → tk (b, n.toNat) i ≠ 0 ∧ tk (b, n.toNat) i ≠ 1))
theorem CJ_0 {b : Nat → Int} {n : Int} {H1 : hp} (h : H1.1 2 5 = 0) : CJ b n H1 0 0 := ⟨0, ⟨h, fun i hi => absurd hi (Nat.not_lt_zero _)⟩, Int.le_refl _, Or.inl ⟨rfl, by rw [Int.sub_zero]; rfl, fun i hi => absurd hi (Nat.not_lt_zero _)⟩⟩
theorem CJ_b {b : Nat → Int} {n : Int} {H1 : hp} {x1 x2 : Int} (h : CJ b n H1 x1 x2) (h1 : x1 = 0) (h0 : 0 ≤ x2) (hn : x2 < n) (hb : cB (b x2.toNat)) : CJ b n H1 x1 (x2 + 1) := by
  obtain ⟨j, c1, c2, c3 | c3⟩ := h
  · exact ⟨j, c1, by omega, Or.inl ⟨c3.1, (skp_b h0 hn hb).trans c3.2.1, c3.2.2⟩⟩
  · exact absurd c3.1 (by omega)
/-- a token is added -/
theorem CI_add {Y : yx} {H1 H2 : hp} {j : Nat} {a b c : Int} (h : CI Y H1 j) (hf : fw [(4, (H1.1 2 5).toNat), (5, (H1.1 2 5).toNat), (6, (H1.1 2 5).toNat), (2, 5)] H1 H2) (hv : H2.1 4 (H1.1 2 5).toNat = a ∧ H2.1 5 (H1.1 2 5).toNat = b ∧ H2.1 6 (H1.1 2 5).toNat = c ∧ H2.1 2 5 = H1.1 2 5 + 1) (ha : a = tk Y j) (hb : b = ts Y j) (hc : tk Y j ≠ 1 → c = tn Y j) : CI Y H2 (j + 1) := by
  obtain ⟨h1, h2⟩ := h
  have ej : (H1.1 2 5).toNat = j := by omega
  rw [ej] at hf hv
  obtain ⟨v1, v2, v3, v4⟩ := hv
  refine ⟨by omega, fun i hi => ?_⟩
  by_cases e : i = j
  · subst e
    rw [v1, v2, v3]
    exact ⟨ha, hb, hc⟩
  · have hl := h2 i (by omega)
    rw [hf.2 4 i (by simp; omega), hf.2 5 i (by simp; omega), hf.2 6 i (by simp; omega)]
    exact hl
theorem CJ_t {b : Nat → Int} {n : Int} {H1 H2 : hp} {x1 x2 k e nm bad : Int} (h : CJ b n H1 x1 x2) (h1 : x1 = 0) (h0 : 0 ≤ x2) (hn : x2 < n) (hb : ¬ cB (b x2.toNat)) (hk : tKd b n.toNat x2.toNat = k ∧ tEd b n.toNat x2.toNat = e.toNat ∧ (k ≠ 1 → nm = tNm b n.toNat x2.toNat)) (he : x2 < e) (hf : fw [(4, (H1.1 2 5).toNat), (5, (H1.1 2 5).toNat), (6, (H1.1 2 5).toNat), (2, 5)] H1 H2) (hv : H2.1 4 (H1.1 2 5).toNat = k ∧ H2.1 5 (H1.1 2 5).toNat = x2 ∧ H2.1 6 (H1.1 2 5).toNat = nm ∧ H2.1 2 5 = H1.1 2 5 + 1) (hB : (k = 1 ∧ bad = 1) ∨ (k ≠ 1 ∧ bad = 0)) : CJ b n H2 bad e := by
  obtain ⟨j, c1, c2, c3 | c3⟩ := h
  · obtain ⟨-, c4, c5⟩ := c3
    rw [skp_no (Or.inr hb)] at c4
    have e1 : tk (b, n.toNat) j = k := by
      show tKd b n.toNat (tS b n.toNat j) = k
      rw [← c4]
      exact hk.1
    have e2 : ts (b, n.toNat) j = x2 := by
      show ((tS b n.toNat j : Nat) : Int) = x2
      rw [← c4]
      omega
    have e3 : tk (b, n.toNat) j ≠ 1 → nm = tn (b, n.toNat) j := by
      intro q
      show nm = tNm b n.toNat (tS b n.toNat j)
      rw [← c4]
      exact hk.2.2 (by rw [← e1]; exact q)
    refine ⟨j + 1, CI_add c1 hf hv e1.symm e2.symm e3, by omega, ?_⟩
    rcases hB with ⟨q1, q2⟩ | ⟨q1, q2⟩
    · exact Or.inr ⟨q2, j, rfl, e1.trans q1, c5⟩
    · refine Or.inl ⟨q2, ?_, fun i hi => ?_⟩
      · show _ = skp b (n.toNat - tEd b n.toNat (tS b n.toNat j)) (tEd b n.toNat (tS b n.toNat j))
        rw [← c4, hk.2.1, show (n - e).toNat = n.toNat - e.toNat by omega]
      · by_cases ei : i = j
        · subst ei
          refine ⟨?_, by rw [e1]; exact q1⟩
          rw [e1, ← hk.1]
          unfold tKd
          rw [if_neg (by omega)]
          split
          · split
            · decide
            · split
              · decide
              · unfold kwd
                split
                · decide
                · split
                  · decide
                  · split
                    · decide
                    · split <;> decide
          · split
            · rename_i q3
              rcases q3 with q | q | q | q | q | q | q | q <;> rw [q] <;> decide
            · decide
        · exact c5 i (by omega)
  · exact absurd c3.1 (by omega)
/-- all tokens lie there, up to the first that ends reading -/
def KC (Y : yx) (q : Nat) (H : hp) : Prop := ((q : Int) < H.1 2 5 ∧ q ≤ 1000 ∧ Y.2 ≤ 1000) ∧ (∀ i, i ≤ q → H.1 4 i = tk Y i ∧ H.1 5 i = ts Y i ∧ (tk Y i ≠ 1 → tk Y i ≠ 0 → H.1 6 i = tn Y i)) ∧ (∀ i, i < q → tk Y i ≠ 0 ∧ tk Y i ≠ 1) ∧ (tk Y q = 0 ∨ tk Y q = 1)
theorem CJ_e {b : Nat → Int} {n : Int} {H1 H2 : hp} {x1 x2 x3 : Int} (h : CJ b n H1 x1 x2) (hx : 0 ≤ x2 ∧ x2 ≤ n ∧ n ≤ 1000 ∧ x3 ≤ x2) (hx1 : x1 = 0 → n ≤ x3 ∨ n ≤ x2) (hf : fw [(4, (H1.1 2 5).toNat), (5, (H1.1 2 5).toNat), (6, (H1.1 2 5).toNat), (2, 5)] H1 H2) (hv : H2.1 4 (H1.1 2 5).toNat = 0 ∧ H2.1 5 (H1.1 2 5).toNat = n ∧ H2.1 6 (H1.1 2 5).toNat = 0 ∧ H2.1 2 5 = H1.1 2 5 + 1) : ∃ q : Nat, KC (b, n.toNat) q H2 := by
  obtain ⟨j, ⟨c1, c2⟩, c3, c4 | ⟨c4, q, c5, c6, c7⟩⟩ := h
  · obtain ⟨d1, d2, d3⟩ := c4
    have hn : n ≤ x2 := by
      rcases hx1 d1 with q | q <;> omega
    rw [skp_no (Or.inl hn)] at d2
    have ej : (H1.1 2 5).toNat = j := by omega
    rw [ej] at hf hv
    obtain ⟨v1, v2, v3, v4⟩ := hv
    have ek : tk (b, n.toNat) j = 0 := by
      show tKd b n.toNat (tS b n.toNat j) = 0
      unfold tKd
      rw [if_pos (by omega)]
    have es : ts (b, n.toNat) j = n := by
      show ((tS b n.toNat j : Nat) : Int) = n
      omega
    refine ⟨j, ⟨by omega, by omega, by show n.toNat ≤ 1000; omega⟩, fun i hi => ?_, d3, Or.inl ek⟩
    by_cases e : i = j
    · subst e
      rw [v1, v2, ek, es]
      exact ⟨rfl, rfl, fun _ q => absurd rfl q⟩
    · obtain ⟨g1, g2, g3⟩ := c2 i (by omega)
      rw [hf.2 4 i (by simp; omega), hf.2 5 i (by simp; omega), hf.2 6 i (by simp; omega)]
      exact ⟨g1, g2, fun q _ => g3 q⟩
  · have ej : (H1.1 2 5).toNat = q + 1 := by omega
    rw [ej] at hf hv
    refine ⟨q, ⟨by omega, by omega, by show n.toNat ≤ 1000; omega⟩, fun i hi => ?_, c7, Or.inr c6⟩
    obtain ⟨g1, g2, g3⟩ := c2 i (by omega)
    rw [hf.2 4 i (by simp; omega), hf.2 5 i (by simp; omega), hf.2 6 i (by simp; omega)]
    exact ⟨g1, g2, fun p _ => g3 p⟩

/-! Tape.cut -/
set_option maxRecDepth 100000 in
theorem q_Tape_cut_cut {d : Nat} (hd : 3 ≤ d) {H : hp} (hI : Inv H)   : ∀ w : Nat, (∀ (H1 : hp), Inv H1 → fq [(2, 5)] [4, 5, 6] false H H1 → ∀ (x1 : Int) (x2 : Int) (x3 : Int) , (-2147483648 ≤ x1 ∧ x1 ≤ 2147483647) → (-2147483648 ≤ x2 ∧ x2 ≤ 2147483647) → (-2147483648 ≤ x3 ∧ x3 ≤ 2147483647) → (0 ≤ x2 ∧ x2 ≤ H.1 2 1) → (0 ≤ x3 ∧ x3 ≤ x2) → (0 ≤ x1 ∧ x1 ≤ 1) → (CJ (H.1 3) (H.1 2 1) H1 x1 x2) → (NE 0 H H1) → (((2000 - x3).toNat) < w) → hG (zs zK) d mt_27 11 [(0, .inr (.inr 2)), (1, .inl x1), (2, .inl x2), (3, .inl x3)] [] H1 (fun r9 H9 => r9 = none ∧ Inv H9 ∧ fq [(2, 5)] [4, 5, 6] false H H9 ∧ ((∃ q : Nat, KC (H.1 3, (H.1 2 1).toNat) q H9) ∧ NE 0 H H9))) := by
  intro w
  induction w with
  | zero => exact fun _ _ _ _ _ _ _ _ _ _ _ _ _ _ h => absurd h (Nat.not_lt_zero _)
  | succ w ih =>
    intro H1 hI1 hf1 x1 x2 x3 hx1 hx2 hx3 hi0 hi1 hi2 hi3 hi4 hw
    have e3 : H1.1 3 = H.1 3 := funext (fun j => (hf1.1 3 j rfl (by decide) (fun q => by simp at q)).1)
    have e21 : H1.1 2 1 = H.1 2 1 := (hf1.1 2 1 rfl (by decide) (by decide)).1
    have hcj : H1.1 2 5 ≤ x2 := by obtain ⟨j, c1, c2, -⟩ := hi3; rw [c1.1]; exact c2
    have g8 : 0 ≤ (H1.1 2 1) ∧ (H1.1 2 1) ≤ 1000 := kn (x := kx_2) hI1 rfl 1
    have e9 : (H1.1 2 1) = (H.1 2 1) := (hf1.1 2 1 rfl (by decide) (by decide)).1
    refine k_run 3 (pc' := 16) (l' := [(0, .inr (.inr 2)), (1, .inl x1), (2, .inl x2), (3, .inl x3)]) (st' := [.inl (H1.1 2 1), .inl x3]) rfl ?_
    refine h_ige (off := 126) (t := 142) rfl rfl (by omega) (by omega) (fun c10 => ?_) (fun c10 => ?_)
    · refine k_run 0 (pc' := 142) (l' := [(0, .inr (.inr 2)), (1, .inl x1), (2, .inl x2), (3, .inl x3)]) (st' := []) rfl ?_
      refine k_run 5 (pc' := 149) (l' := [(0, .inr (.inr 2)), (1, .inl x1), (2, .inl x2), (3, .inl x3)]) (st' := [.inr (.inl 0), .inl (H1.1 2 1), .inl 0, .inr (.inr 2)]) rfl ?_
      have g11 : 0 ≤ (H1.1 2 5) ∧ (H1.1 2 5) ≤ 1001 := kn (x := kx_2) hI1 rfl 5
      refine h_cv (i := 51) (j := 28) (b := 2) (M' := mt_28) (xs := [.inr (.inl 0), .inl (H1.1 2 1), .inl 0]) (rest := []) rfl rfl rfl rfl (zs_K (x := kx_2) rfl (by decide)) rfl (Nat.le_of_ble_eq_true rfl) (Nat.le_of_ble_eq_true rfl) (by omega) (q_Tape_addToken (by omega) hI1 (by decide) (by omega) (by omega) (by omega)) ?_
      rintro _ H13 ⟨rfl, hI14, hq15, hp16, hx17⟩
      have hf18 : fq [(2, 5)] [4, 5, 6] false H H13 := fq_t hf1 hq15 rfl rfl rfl
      refine k_run 0 (pc' := 152) (l' := [(0, .inr (.inr 2)), (1, .inl x1), (2, .inl x2), (3, .inl x3)]) (st' := []) rfl ?_
      refine h_ret rfl rfl ?_
      have g19 : 0 ≤ (H13.1 2 1) ∧ (H13.1 2 1) ≤ 1000 := kn (x := kx_2) hI14 rfl 1
      have e20 : (H13.1 2 1) = (H1.1 2 1) := (hq15.1 2 1 rfl (by decide) (by decide)).1
      rw [e21] at hx17
      exact ⟨rfl, hI14, hf18, ⟨CJ_e hi3 (x3 := x3) ⟨by omega, by omega, by omega, by omega⟩ (fun q9 => by omega) hp16 hx17, NE_tr hi4 (NE_fwo hp16 (by simp))⟩⟩
    · refine k_run 0 (pc' := 19) (l' := [(0, .inr (.inr 2)), (1, .inl x1), (2, .inl x2), (3, .inl x3)]) (st' := []) rfl ?_
      refine k_run 3 (pc' := 24) (l' := [(0, .inr (.inr 2)), (1, .inl x1), (2, .inl x2), (3, .inl x3)]) (st' := [.inl (H1.1 2 1), .inl x2]) rfl ?_
      refine h_ige (off := 118) (t := 142) rfl rfl (by omega) (by omega) (fun c21 => ?_) (fun c21 => ?_)
      · refine k_run 0 (pc' := 142) (l' := [(0, .inr (.inr 2)), (1, .inl x1), (2, .inl x2), (3, .inl x3)]) (st' := []) rfl ?_
        refine k_run 5 (pc' := 149) (l' := [(0, .inr (.inr 2)), (1, .inl x1), (2, .inl x2), (3, .inl x3)]) (st' := [.inr (.inl 0), .inl (H1.1 2 1), .inl 0, .inr (.inr 2)]) rfl ?_
        have g22 : 0 ≤ (H1.1 2 5) ∧ (H1.1 2 5) ≤ 1001 := kn (x := kx_2) hI1 rfl 5
        refine h_cv (i := 51) (j := 28) (b := 2) (M' := mt_28) (xs := [.inr (.inl 0), .inl (H1.1 2 1), .inl 0]) (rest := []) rfl rfl rfl rfl (zs_K (x := kx_2) rfl (by decide)) rfl (Nat.le_of_ble_eq_true rfl) (Nat.le_of_ble_eq_true rfl) (by omega) (q_Tape_addToken (by omega) hI1 (by decide) (by omega) (by omega) (by omega)) ?_
        rintro _ H24 ⟨rfl, hI25, hq26, hp27, hx28⟩
        have hf29 : fq [(2, 5)] [4, 5, 6] false H H24 := fq_t hf1 hq26 rfl rfl rfl
        refine k_run 0 (pc' := 152) (l' := [(0, .inr (.inr 2)), (1, .inl x1), (2, .inl x2), (3, .inl x3)]) (st' := []) rfl ?_
        refine h_ret rfl rfl ?_
        have g30 : 0 ≤ (H24.1 2 1) ∧ (H24.1 2 1) ≤ 1000 := kn (x := kx_2) hI25 rfl 1
        have e31 : (H24.1 2 1) = (H1.1 2 1) := (hq26.1 2 1 rfl (by decide) (by decide)).1
        rw [e21] at hx28
        exact ⟨rfl, hI25, hf29, ⟨CJ_e hi3 (x3 := x3) ⟨by omega, by omega, by omega, by omega⟩ (fun q9 => by omega) hp27 hx28, NE_tr hi4 (NE_fwo hp27 (by simp))⟩⟩
      · refine k_run 0 (pc' := 27) (l' := [(0, .inr (.inr 2)), (1, .inl x1), (2, .inl x2), (3, .inl x3)]) (st' := []) rfl ?_
        refine k_run 1 (pc' := 28) (l' := [(0, .inr (.inr 2)), (1, .inl x1), (2, .inl x2), (3, .inl x3)]) (st' := [.inl x1]) rfl ?_
        refine h_zne (off := 114) (t := 142) rfl rfl (by omega) (fun c32 => ?_) (fun c32 => ?_)
        · refine k_run 0 (pc' := 142) (l' := [(0, .inr (.inr 2)), (1, .inl x1), (2, .inl x2), (3, .inl x3)]) (st' := []) rfl ?_
          refine k_run 5 (pc' := 149) (l' := [(0, .inr (.inr 2)), (1, .inl x1), (2, .inl x2), (3, .inl x3)]) (st' := [.inr (.inl 0), .inl (H1.1 2 1), .inl 0, .inr (.inr 2)]) rfl ?_
          have g33 : 0 ≤ (H1.1 2 5) ∧ (H1.1 2 5) ≤ 1001 := kn (x := kx_2) hI1 rfl 5
          refine h_cv (i := 51) (j := 28) (b := 2) (M' := mt_28) (xs := [.inr (.inl 0), .inl (H1.1 2 1), .inl 0]) (rest := []) rfl rfl rfl rfl (zs_K (x := kx_2) rfl (by decide)) rfl (Nat.le_of_ble_eq_true rfl) (Nat.le_of_ble_eq_true rfl) (by omega) (q_Tape_addToken (by omega) hI1 (by decide) (by omega) (by omega) (by omega)) ?_
          rintro _ H35 ⟨rfl, hI36, hq37, hp38, hx39⟩
          have hf40 : fq [(2, 5)] [4, 5, 6] false H H35 := fq_t hf1 hq37 rfl rfl rfl
          refine k_run 0 (pc' := 152) (l' := [(0, .inr (.inr 2)), (1, .inl x1), (2, .inl x2), (3, .inl x3)]) (st' := []) rfl ?_
          refine h_ret rfl rfl ?_
          have g41 : 0 ≤ (H35.1 2 1) ∧ (H35.1 2 1) ≤ 1000 := kn (x := kx_2) hI36 rfl 1
          have e42 : (H35.1 2 1) = (H1.1 2 1) := (hq37.1 2 1 rfl (by decide) (by decide)).1
          rw [e21] at hx39
          exact ⟨rfl, hI36, hf40, ⟨CJ_e hi3 (x3 := x3) ⟨by omega, by omega, by omega, by omega⟩ (fun q9 => by omega) hp38 hx39, NE_tr hi4 (NE_fwo hp38 (by simp))⟩⟩
        · refine k_run 0 (pc' := 31) (l' := [(0, .inr (.inr 2)), (1, .inl x1), (2, .inl x2), (3, .inl x3)]) (st' := []) rfl ?_
          refine k_run 3 (pc' := 36) (l' := [(0, .inr (.inr 2)), (1, .inl x1), (2, .inl x2), (3, .inl x3)]) (st' := [.inl x2, .inr (.inr 3)]) rfl ?_
          refine k_ild (c := 3) (j := (x2).toNat) (i := x2) (x := kx_3) rfl rfl (by decide) rfl (by decide) (by omega) (by omega) ?_
          have g43 : -2147483648 ≤ (H1.1 3 (x2).toNat) ∧ (H1.1 3 (x2).toNat) ≤ 2147483647 := kn (x := kx_3) hI1 rfl (x2).toNat
          have e44 : (H1.1 3 (x2).toNat) = (H.1 3 (x2).toNat) := (hf1.1 3 (x2).toNat rfl (by decide) (fun q => by simp at q)).1
          refine k_run 0 (pc' := 37) (l' := [(0, .inr (.inr 2)), (1, .inl x1), (2, .inl x2), (3, .inl x3)]) (st' := [.inl (H1.1 3 (x2).toNat)]) rfl ?_
          refine k_run 2 (pc' := 41) (l' := [(0, .inr (.inr 2)), (1, .inl x1), (2, .inl x2), (3, .inl x3), (4, .inl (H1.1 3 (x2).toNat))]) (st' := [.inl (H1.1 3 (x2).toNat)]) rfl ?_
          refine h_cs (i := 32) (j := 33) (M' := mt_33) (xs := [.inl (H1.1 3 (x2).toNat)]) (rest := []) rfl rfl rfl rfl rfl (Nat.le_of_ble_eq_true rfl) (Nat.le_of_ble_eq_true rfl) (by omega) (q_Tape_isLetter (by omega)  (by omega)) ?_
          rintro _ _ ⟨z51, rfl, g45, hx50, rfl⟩
          refine k_run 0 (pc' := 44) (l' := [(0, .inr (.inr 2)), (1, .inl x1), (2, .inl x2), (3, .inl x3), (4, .inl (H1.1 3 (x2).toNat))]) (st' := [.inl z51]) rfl ?_
          refine h_zeq (off := 11) (t := 55) rfl rfl (by omega) (fun c52 => ?_) (fun c52 => ?_)
          · refine k_run 0 (pc' := 55) (l' := [(0, .inr (.inr 2)), (1, .inl x1), (2, .inl x2), (3, .inl x3), (4, .inl (H1.1 3 (x2).toNat))]) (st' := []) rfl ?_
            refine k_run 6 (pc' := 64) (l' := [(0, .inr (.inr 2)), (1, .inl x1), (2, .inl x2), (3, .inl x3), (4, .inl (H1.1 3 (x2).toNat)), (5, .inl (x2 + 1))]) (st' := [.inl 32, .inl (H1.1 3 (x2).toNat)]) rfl ?_
            refine h_ieq (off := 69) (t := 133) rfl rfl (by omega) (by decide) (fun c53 => ?_) (fun c53 => ?_)
            · refine k_run 0 (pc' := 133) (l' := [(0, .inr (.inr 2)), (1, .inl x1), (2, .inl x2), (3, .inl x3), (4, .inl (H1.1 3 (x2).toNat)), (5, .inl (x2 + 1))]) (st' := []) rfl ?_
              refine k_run 4 (pc' := 11) (l' := [(0, .inr (.inr 2)), (1, .inl x1), (2, .inl (x2 + 1)), (3, .inl (x3 + 1)), (4, .inl (H1.1 3 (x2).toNat)), (5, .inl (x2 + 1))]) (st' := []) rfl ?_
              refine h_loc [0, 1, 2, 3] rfl ?_
              exact ih H1 hI1 hf1 x1 (x2 + 1) (x3 + 1) (by omega) (by omega) (by omega) (by omega) (by omega) (by omega) (by first | exact CJ_b hi3 (by omega) (by omega) (by omega) (show cB (H.1 3 x2.toNat) by rw [← e3]; unfold cB; omega) | (exfalso; omega)) hi4 (by omega)
            · refine k_run 0 (pc' := 67) (l' := [(0, .inr (.inr 2)), (1, .inl x1), (2, .inl x2), (3, .inl x3), (4, .inl (H1.1 3 (x2).toNat)), (5, .inl (x2 + 1))]) (st' := []) rfl ?_
              refine k_run 2 (pc' := 71) (l' := [(0, .inr (.inr 2)), (1, .inl x1), (2, .inl x2), (3, .inl x3), (4, .inl (H1.1 3 (x2).toNat)), (5, .inl (x2 + 1))]) (st' := [.inl 10, .inl (H1.1 3 (x2).toNat)]) rfl ?_
              refine h_ieq (off := 62) (t := 133) rfl rfl (by omega) (by decide) (fun c54 => ?_) (fun c54 => ?_)
              · refine k_run 0 (pc' := 133) (l' := [(0, .inr (.inr 2)), (1, .inl x1), (2, .inl x2), (3, .inl x3), (4, .inl (H1.1 3 (x2).toNat)), (5, .inl (x2 + 1))]) (st' := []) rfl ?_
                refine k_run 4 (pc' := 11) (l' := [(0, .inr (.inr 2)), (1, .inl x1), (2, .inl (x2 + 1)), (3, .inl (x3 + 1)), (4, .inl (H1.1 3 (x2).toNat)), (5, .inl (x2 + 1))]) (st' := []) rfl ?_
                refine h_loc [0, 1, 2, 3] rfl ?_
                exact ih H1 hI1 hf1 x1 (x2 + 1) (x3 + 1) (by omega) (by omega) (by omega) (by omega) (by omega) (by omega) (by first | exact CJ_b hi3 (by omega) (by omega) (by omega) (show cB (H.1 3 x2.toNat) by rw [← e3]; unfold cB; omega) | (exfalso; omega)) hi4 (by omega)
              · refine k_run 0 (pc' := 74) (l' := [(0, .inr (.inr 2)), (1, .inl x1), (2, .inl x2), (3, .inl x3), (4, .inl (H1.1 3 (x2).toNat)), (5, .inl (x2 + 1))]) (st' := []) rfl ?_
                refine k_run 3 (pc' := 78) (l' := [(0, .inr (.inr 2)), (1, .inl x1), (2, .inl x2), (3, .inl x3), (4, .inl (H1.1 3 (x2).toNat)), (5, .inl (x2 + 1))]) (st' := [.inl (x2 + 1), .inl x2, .inr (.inr 2)]) rfl ?_
                refine h_cv (i := 40) (j := 30) (b := 2) (M' := mt_30) (xs := [.inl (x2 + 1), .inl x2]) (rest := []) rfl rfl rfl rfl (zs_K (x := kx_2) rfl (by decide)) rfl (Nat.le_of_ble_eq_true rfl) (Nat.le_of_ble_eq_true rfl) (by omega) (q_Tape_nameOf (by omega) hI1 (by omega) (by omega) (by omega) (by omega)) ?_
                rintro _ _ ⟨z61, rfl, g55, hx60, rfl⟩
                refine k_run 0 (pc' := 81) (l' := [(0, .inr (.inr 2)), (1, .inl x1), (2, .inl x2), (3, .inl x3), (4, .inl (H1.1 3 (x2).toNat)), (5, .inl (x2 + 1))]) (st' := [.inr (.inl z61)]) rfl ?_
                refine k_run 2 (pc' := 85) (l' := [(0, .inr (.inr 2)), (1, .inl x1), (2, .inl x2), (3, .inl x3), (4, .inl (H1.1 3 (x2).toNat)), (5, .inl (x2 + 1)), (6, .inr (.inl z61))]) (st' := [.inl (H1.1 3 (x2).toNat)]) rfl ?_
                refine h_cs (i := 32) (j := 33) (M' := mt_33) (xs := [.inl (H1.1 3 (x2).toNat)]) (rest := []) rfl rfl rfl rfl rfl (Nat.le_of_ble_eq_true rfl) (Nat.le_of_ble_eq_true rfl) (by omega) (q_Tape_isLetter (by omega)  (by omega)) ?_
                rintro _ _ ⟨z68, rfl, g62, hx67, rfl⟩
                refine k_run 0 (pc' := 88) (l' := [(0, .inr (.inr 2)), (1, .inl x1), (2, .inl x2), (3, .inl x3), (4, .inl (H1.1 3 (x2).toNat)), (5, .inl (x2 + 1)), (6, .inr (.inl z61))]) (st' := [.inl z68]) rfl ?_
                refine h_zeq (off := 17) (t := 105) rfl rfl (by omega) (fun c69 => ?_) (fun c69 => ?_)
                · refine k_run 0 (pc' := 105) (l' := [(0, .inr (.inr 2)), (1, .inl x1), (2, .inl x2), (3, .inl x3), (4, .inl (H1.1 3 (x2).toNat)), (5, .inl (x2 + 1)), (6, .inr (.inl z61))]) (st' := []) rfl ?_
                  refine k_run 1 (pc' := 107) (l' := [(0, .inr (.inr 2)), (1, .inl x1), (2, .inl x2), (3, .inl x3), (4, .inl (H1.1 3 (x2).toNat)), (5, .inl (x2 + 1)), (6, .inr (.inl z61))]) (st' := [.inl (H1.1 3 (x2).toNat)]) rfl ?_
                  refine h_cs (i := 48) (j := 32) (M' := mt_32) (xs := [.inl (H1.1 3 (x2).toNat)]) (rest := []) rfl rfl rfl rfl rfl (Nat.le_of_ble_eq_true rfl) (Nat.le_of_ble_eq_true rfl) (by omega) (q_Tape_tokenOfSign (by omega)  (by omega)) ?_
                  rintro _ _ ⟨z76, rfl, g70, hx75, rfl⟩
                  refine k_run 0 (pc' := 110) (l' := [(0, .inr (.inr 2)), (1, .inl x1), (2, .inl x2), (3, .inl x3), (4, .inl (H1.1 3 (x2).toNat)), (5, .inl (x2 + 1)), (6, .inr (.inl z61))]) (st' := [.inl z76]) rfl ?_
                  refine k_run 3 (pc' := 115) (l' := [(0, .inr (.inr 2)), (1, .inl x1), (2, .inl x2), (3, .inl x3), (4, .inl (H1.1 3 (x2).toNat)), (5, .inl (x2 + 1)), (6, .inr (.inl z61)), (8, .inl z76)]) (st' := [.inl 1, .inl z76]) rfl ?_
                  refine h_ine (off := 7) (t := 122) rfl rfl (by omega) (by decide) (fun c77 => ?_) (fun c77 => ?_)
                  · refine k_run 0 (pc' := 122) (l' := [(0, .inr (.inr 2)), (1, .inl x1), (2, .inl x2), (3, .inl x3), (4, .inl (H1.1 3 (x2).toNat)), (5, .inl (x2 + 1)), (6, .inr (.inl z61)), (8, .inl z76)]) (st' := []) rfl ?_
                    refine k_run 6 (pc' := 130) (l' := [(0, .inr (.inr 2)), (1, .inl 0), (2, .inl x2), (3, .inl x3), (4, .inl (H1.1 3 (x2).toNat)), (5, .inl (x2 + 1)), (6, .inr (.inl z61)), (8, .inl z76)]) (st' := [.inr (.inl z61), .inl x2, .inl z76, .inr (.inr 2)]) rfl ?_
                    have g78 : 0 ≤ (H1.1 2 5) ∧ (H1.1 2 5) ≤ 1001 := kn (x := kx_2) hI1 rfl 5
                    refine h_cv (i := 51) (j := 28) (b := 2) (M' := mt_28) (xs := [.inr (.inl z61), .inl x2, .inl z76]) (rest := []) rfl rfl rfl rfl (zs_K (x := kx_2) rfl (by decide)) rfl (Nat.le_of_ble_eq_true rfl) (Nat.le_of_ble_eq_true rfl) (by omega) (q_Tape_addToken (by omega) hI1 (by omega) (by omega) (by omega) (by omega)) ?_
                    rintro _ H80 ⟨rfl, hI81, hq82, hp83, hx84⟩
                    have hf85 : fq [(2, 5)] [4, 5, 6] false H H80 := fq_t hf1 hq82 rfl rfl rfl
                    refine k_run 0 (pc' := 133) (l' := [(0, .inr (.inr 2)), (1, .inl 0), (2, .inl x2), (3, .inl x3), (4, .inl (H1.1 3 (x2).toNat)), (5, .inl (x2 + 1)), (6, .inr (.inl z61)), (8, .inl z76)]) (st' := []) rfl ?_
                    refine k_run 4 (pc' := 11) (l' := [(0, .inr (.inr 2)), (1, .inl 0), (2, .inl (x2 + 1)), (3, .inl (x3 + 1)), (4, .inl (H1.1 3 (x2).toNat)), (5, .inl (x2 + 1)), (6, .inr (.inl z61)), (8, .inl z76)]) (st' := []) rfl ?_
                    have g86 : 0 ≤ (H80.1 2 1) ∧ (H80.1 2 1) ≤ 1000 := kn (x := kx_2) hI81 rfl 1
                    have e87 : (H80.1 2 1) = (H1.1 2 1) := (hq82.1 2 1 rfl (by decide) (by decide)).1
                    refine h_loc [0, 1, 2, 3] rfl ?_
                    rw [e3] at hx50
                    rw [e3] at hx60
                    rw [e3] at hx67
                    rw [e3] at hx75
                    exact ih H80 hI81 hf85 (0 : Int) (x2 + 1) (x3 + 1) (by decide) (by omega) (by omega) (by omega) (by omega) (by omega) (CJ_t hi3 (by omega) (by omega) (by omega) (show ¬ cB (H.1 3 x2.toNat) by rw [← e3]; unfold cB; omega) (tKd_si (by omega) (by omega) (show ¬ cL (H.1 3 x2.toNat) by intro q9; have q8 := hx50.mpr q9; omega) hx60 hx75) (by omega) hp83 hx84 (by omega)) (NE_tr hi4 (NE_fwo hp83 (by simp))) (by omega)
                  · refine k_run 0 (pc' := 118) (l' := [(0, .inr (.inr 2)), (1, .inl x1), (2, .inl x2), (3, .inl x3), (4, .inl (H1.1 3 (x2).toNat)), (5, .inl (x2 + 1)), (6, .inr (.inl z61)), (8, .inl z76)]) (st' := []) rfl ?_
                    refine k_run 7 (pc' := 130) (l' := [(0, .inr (.inr 2)), (1, .inl 1), (2, .inl x2), (3, .inl x3), (4, .inl (H1.1 3 (x2).toNat)), (5, .inl (x2 + 1)), (6, .inr (.inl z61)), (8, .inl z76)]) (st' := [.inr (.inl z61), .inl x2, .inl z76, .inr (.inr 2)]) rfl ?_
                    have g88 : 0 ≤ (H1.1 2 5) ∧ (H1.1 2 5) ≤ 1001 := kn (x := kx_2) hI1 rfl 5
                    refine h_cv (i := 51) (j := 28) (b := 2) (M' := mt_28) (xs := [.inr (.inl z61), .inl x2, .inl z76]) (rest := []) rfl rfl rfl rfl (zs_K (x := kx_2) rfl (by decide)) rfl (Nat.le_of_ble_eq_true rfl) (Nat.le_of_ble_eq_true rfl) (by omega) (q_Tape_addToken (by omega) hI1 (by omega) (by omega) (by omega) (by omega)) ?_
                    rintro _ H90 ⟨rfl, hI91, hq92, hp93, hx94⟩
                    have hf95 : fq [(2, 5)] [4, 5, 6] false H H90 := fq_t hf1 hq92 rfl rfl rfl
                    refine k_run 0 (pc' := 133) (l' := [(0, .inr (.inr 2)), (1, .inl 1), (2, .inl x2), (3, .inl x3), (4, .inl (H1.1 3 (x2).toNat)), (5, .inl (x2 + 1)), (6, .inr (.inl z61)), (8, .inl z76)]) (st' := []) rfl ?_
                    refine k_run 4 (pc' := 11) (l' := [(0, .inr (.inr 2)), (1, .inl 1), (2, .inl (x2 + 1)), (3, .inl (x3 + 1)), (4, .inl (H1.1 3 (x2).toNat)), (5, .inl (x2 + 1)), (6, .inr (.inl z61)), (8, .inl z76)]) (st' := []) rfl ?_
                    have g96 : 0 ≤ (H90.1 2 1) ∧ (H90.1 2 1) ≤ 1000 := kn (x := kx_2) hI91 rfl 1
                    have e97 : (H90.1 2 1) = (H1.1 2 1) := (hq92.1 2 1 rfl (by decide) (by decide)).1
                    refine h_loc [0, 1, 2, 3] rfl ?_
                    rw [e3] at hx50
                    rw [e3] at hx60
                    rw [e3] at hx67
                    rw [e3] at hx75
                    exact ih H90 hI91 hf95 (1 : Int) (x2 + 1) (x3 + 1) (by decide) (by omega) (by omega) (by omega) (by omega) (by omega) (CJ_t hi3 (by omega) (by omega) (by omega) (show ¬ cB (H.1 3 x2.toNat) by rw [← e3]; unfold cB; omega) (tKd_si (by omega) (by omega) (show ¬ cL (H.1 3 x2.toNat) by intro q9; have q8 := hx50.mpr q9; omega) hx60 hx75) (by omega) hp93 hx94 (by omega)) (NE_tr hi4 (NE_fwo hp93 (by simp))) (by omega)
                · refine k_run 0 (pc' := 91) (l' := [(0, .inr (.inr 2)), (1, .inl x1), (2, .inl x2), (3, .inl x3), (4, .inl (H1.1 3 (x2).toNat)), (5, .inl (x2 + 1)), (6, .inr (.inl z61))]) (st' := []) rfl ?_
                  refine k_run 5 (pc' := 99) (l' := [(0, .inr (.inr 2)), (1, .inl x1), (2, .inl x2), (3, .inl x3), (4, .inl (H1.1 3 (x2).toNat)), (5, .inl (x2 + 1)), (6, .inr (.inl z61))]) (st' := [.inr (.inl z61), .inl ((x2 + 1) - x2), .inl (H1.1 3 (x2).toNat)]) rfl ?_
                  refine h_cs (i := 44) (j := 31) (M' := mt_31) (xs := [.inr (.inl z61), .inl ((x2 + 1) - x2), .inl (H1.1 3 (x2).toNat)]) (rest := []) rfl rfl rfl rfl rfl (Nat.le_of_ble_eq_true rfl) (Nat.le_of_ble_eq_true rfl) (by omega) (q_Tape_tokenOfName (by omega)  (by omega) (by omega) (by omega)) ?_
                  rintro _ _ ⟨z104, rfl, g98, hx103, rfl⟩
                  refine k_run 0 (pc' := 102) (l' := [(0, .inr (.inr 2)), (1, .inl x1), (2, .inl x2), (3, .inl x3), (4, .inl (H1.1 3 (x2).toNat)), (5, .inl (x2 + 1)), (6, .inr (.inl z61))]) (st' := [.inl z104]) rfl ?_
                  refine k_run 4 (pc' := 115) (l' := [(0, .inr (.inr 2)), (1, .inl x1), (2, .inl x2), (3, .inl x3), (4, .inl (H1.1 3 (x2).toNat)), (5, .inl (x2 + 1)), (6, .inr (.inl z61)), (8, .inl z104)]) (st' := [.inl 1, .inl z104]) rfl ?_
                  refine h_ine (off := 7) (t := 122) rfl rfl (by omega) (by decide) (fun c105 => ?_) (fun c105 => ?_)
                  · refine k_run 0 (pc' := 122) (l' := [(0, .inr (.inr 2)), (1, .inl x1), (2, .inl x2), (3, .inl x3), (4, .inl (H1.1 3 (x2).toNat)), (5, .inl (x2 + 1)), (6, .inr (.inl z61)), (8, .inl z104)]) (st' := []) rfl ?_
                    refine k_run 6 (pc' := 130) (l' := [(0, .inr (.inr 2)), (1, .inl 0), (2, .inl x2), (3, .inl x3), (4, .inl (H1.1 3 (x2).toNat)), (5, .inl (x2 + 1)), (6, .inr (.inl z61)), (8, .inl z104)]) (st' := [.inr (.inl z61), .inl x2, .inl z104, .inr (.inr 2)]) rfl ?_
                    have g106 : 0 ≤ (H1.1 2 5) ∧ (H1.1 2 5) ≤ 1001 := kn (x := kx_2) hI1 rfl 5
                    refine h_cv (i := 51) (j := 28) (b := 2) (M' := mt_28) (xs := [.inr (.inl z61), .inl x2, .inl z104]) (rest := []) rfl rfl rfl rfl (zs_K (x := kx_2) rfl (by decide)) rfl (Nat.le_of_ble_eq_true rfl) (Nat.le_of_ble_eq_true rfl) (by omega) (q_Tape_addToken (by omega) hI1 (by omega) (by omega) (by omega) (by omega)) ?_
                    rintro _ H108 ⟨rfl, hI109, hq110, hp111, hx112⟩
                    have hf113 : fq [(2, 5)] [4, 5, 6] false H H108 := fq_t hf1 hq110 rfl rfl rfl
                    refine k_run 0 (pc' := 133) (l' := [(0, .inr (.inr 2)), (1, .inl 0), (2, .inl x2), (3, .inl x3), (4, .inl (H1.1 3 (x2).toNat)), (5, .inl (x2 + 1)), (6, .inr (.inl z61)), (8, .inl z104)]) (st' := []) rfl ?_
                    refine k_run 4 (pc' := 11) (l' := [(0, .inr (.inr 2)), (1, .inl 0), (2, .inl (x2 + 1)), (3, .inl (x3 + 1)), (4, .inl (H1.1 3 (x2).toNat)), (5, .inl (x2 + 1)), (6, .inr (.inl z61)), (8, .inl z104)]) (st' := []) rfl ?_
                    have g114 : 0 ≤ (H108.1 2 1) ∧ (H108.1 2 1) ≤ 1000 := kn (x := kx_2) hI109 rfl 1
                    have e115 : (H108.1 2 1) = (H1.1 2 1) := (hq110.1 2 1 rfl (by decide) (by decide)).1
                    refine h_loc [0, 1, 2, 3] rfl ?_
                    rw [e3] at hx50
                    rw [e3] at hx60
                    rw [e3] at hx67
                    rw [e3] at hx103
                    exact ih H108 hI109 hf113 (0 : Int) (x2 + 1) (x3 + 1) (by decide) (by omega) (by omega) (by omega) (by omega) (by omega) (by exfalso; rw [← e3] at *; omega) (NE_tr hi4 (NE_fwo hp111 (by simp))) (by omega)
                  · refine k_run 0 (pc' := 118) (l' := [(0, .inr (.inr 2)), (1, .inl x1), (2, .inl x2), (3, .inl x3), (4, .inl (H1.1 3 (x2).toNat)), (5, .inl (x2 + 1)), (6, .inr (.inl z61)), (8, .inl z104)]) (st' := []) rfl ?_
                    refine k_run 7 (pc' := 130) (l' := [(0, .inr (.inr 2)), (1, .inl 1), (2, .inl x2), (3, .inl x3), (4, .inl (H1.1 3 (x2).toNat)), (5, .inl (x2 + 1)), (6, .inr (.inl z61)), (8, .inl z104)]) (st' := [.inr (.inl z61), .inl x2, .inl z104, .inr (.inr 2)]) rfl ?_
                    have g116 : 0 ≤ (H1.1 2 5) ∧ (H1.1 2 5) ≤ 1001 := kn (x := kx_2) hI1 rfl 5
                    refine h_cv (i := 51) (j := 28) (b := 2) (M' := mt_28) (xs := [.inr (.inl z61), .inl x2, .inl z104]) (rest := []) rfl rfl rfl rfl (zs_K (x := kx_2) rfl (by decide)) rfl (Nat.le_of_ble_eq_true rfl) (Nat.le_of_ble_eq_true rfl) (by omega) (q_Tape_addToken (by omega) hI1 (by omega) (by omega) (by omega) (by omega)) ?_
                    rintro _ H118 ⟨rfl, hI119, hq120, hp121, hx122⟩
                    have hf123 : fq [(2, 5)] [4, 5, 6] false H H118 := fq_t hf1 hq120 rfl rfl rfl
                    refine k_run 0 (pc' := 133) (l' := [(0, .inr (.inr 2)), (1, .inl 1), (2, .inl x2), (3, .inl x3), (4, .inl (H1.1 3 (x2).toNat)), (5, .inl (x2 + 1)), (6, .inr (.inl z61)), (8, .inl z104)]) (st' := []) rfl ?_
                    refine k_run 4 (pc' := 11) (l' := [(0, .inr (.inr 2)), (1, .inl 1), (2, .inl (x2 + 1)), (3, .inl (x3 + 1)), (4, .inl (H1.1 3 (x2).toNat)), (5, .inl (x2 + 1)), (6, .inr (.inl z61)), (8, .inl z104)]) (st' := []) rfl ?_
                    have g124 : 0 ≤ (H118.1 2 1) ∧ (H118.1 2 1) ≤ 1000 := kn (x := kx_2) hI119 rfl 1
                    have e125 : (H118.1 2 1) = (H1.1 2 1) := (hq120.1 2 1 rfl (by decide) (by decide)).1
                    refine h_loc [0, 1, 2, 3] rfl ?_
                    rw [e3] at hx50
                    rw [e3] at hx60
                    rw [e3] at hx67
                    rw [e3] at hx103
                    exact ih H118 hI119 hf123 (1 : Int) (x2 + 1) (x3 + 1) (by decide) (by omega) (by omega) (by omega) (by omega) (by omega) (by exfalso; rw [← e3] at *; omega) (NE_tr hi4 (NE_fwo hp121 (by simp))) (by omega)
          · refine k_run 0 (pc' := 47) (l' := [(0, .inr (.inr 2)), (1, .inl x1), (2, .inl x2), (3, .inl x3), (4, .inl (H1.1 3 (x2).toNat))]) (st' := []) rfl ?_
            refine k_run 2 (pc' := 49) (l' := [(0, .inr (.inr 2)), (1, .inl x1), (2, .inl x2), (3, .inl x3), (4, .inl (H1.1 3 (x2).toNat))]) (st' := [.inl x2, .inr (.inr 2)]) rfl ?_
            refine h_cv (i := 36) (j := 29) (b := 2) (M' := mt_29) (xs := [.inl x2]) (rest := []) rfl rfl rfl rfl (zs_K (x := kx_2) rfl (by decide)) rfl (Nat.le_of_ble_eq_true rfl) (Nat.le_of_ble_eq_true rfl) (by omega) (q_Tape_behindName (by omega) hI1 (by omega) (by omega)) ?_
            rintro _ _ ⟨z132, rfl, g126, hx131, rfl⟩
            refine k_run 0 (pc' := 52) (l' := [(0, .inr (.inr 2)), (1, .inl x1), (2, .inl x2), (3, .inl x3), (4, .inl (H1.1 3 (x2).toNat))]) (st' := [.inl z132]) rfl ?_
            refine k_run 4 (pc' := 64) (l' := [(0, .inr (.inr 2)), (1, .inl x1), (2, .inl x2), (3, .inl x3), (4, .inl (H1.1 3 (x2).toNat)), (5, .inl z132)]) (st' := [.inl 32, .inl (H1.1 3 (x2).toNat)]) rfl ?_
            refine h_ieq (off := 69) (t := 133) rfl rfl (by omega) (by decide) (fun c133 => ?_) (fun c133 => ?_)
            · refine k_run 0 (pc' := 133) (l' := [(0, .inr (.inr 2)), (1, .inl x1), (2, .inl x2), (3, .inl x3), (4, .inl (H1.1 3 (x2).toNat)), (5, .inl z132)]) (st' := []) rfl ?_
              refine k_run 4 (pc' := 11) (l' := [(0, .inr (.inr 2)), (1, .inl x1), (2, .inl z132), (3, .inl (x3 + 1)), (4, .inl (H1.1 3 (x2).toNat)), (5, .inl z132)]) (st' := []) rfl ?_
              refine h_loc [0, 1, 2, 3] rfl ?_
              exact ih H1 hI1 hf1 x1 z132 (x3 + 1) (by omega) (by omega) (by omega) (by omega) (by omega) (by omega) (by first | exact CJ_b hi3 (by omega) (by omega) (by omega) (show cB (H.1 3 x2.toNat) by rw [← e3]; unfold cB; omega) | (exfalso; omega)) hi4 (by omega)
            · refine k_run 0 (pc' := 67) (l' := [(0, .inr (.inr 2)), (1, .inl x1), (2, .inl x2), (3, .inl x3), (4, .inl (H1.1 3 (x2).toNat)), (5, .inl z132)]) (st' := []) rfl ?_
              refine k_run 2 (pc' := 71) (l' := [(0, .inr (.inr 2)), (1, .inl x1), (2, .inl x2), (3, .inl x3), (4, .inl (H1.1 3 (x2).toNat)), (5, .inl z132)]) (st' := [.inl 10, .inl (H1.1 3 (x2).toNat)]) rfl ?_
              refine h_ieq (off := 62) (t := 133) rfl rfl (by omega) (by decide) (fun c134 => ?_) (fun c134 => ?_)
              · refine k_run 0 (pc' := 133) (l' := [(0, .inr (.inr 2)), (1, .inl x1), (2, .inl x2), (3, .inl x3), (4, .inl (H1.1 3 (x2).toNat)), (5, .inl z132)]) (st' := []) rfl ?_
                refine k_run 4 (pc' := 11) (l' := [(0, .inr (.inr 2)), (1, .inl x1), (2, .inl z132), (3, .inl (x3 + 1)), (4, .inl (H1.1 3 (x2).toNat)), (5, .inl z132)]) (st' := []) rfl ?_
                refine h_loc [0, 1, 2, 3] rfl ?_
                exact ih H1 hI1 hf1 x1 z132 (x3 + 1) (by omega) (by omega) (by omega) (by omega) (by omega) (by omega) (by first | exact CJ_b hi3 (by omega) (by omega) (by omega) (show cB (H.1 3 x2.toNat) by rw [← e3]; unfold cB; omega) | (exfalso; omega)) hi4 (by omega)
              · refine k_run 0 (pc' := 74) (l' := [(0, .inr (.inr 2)), (1, .inl x1), (2, .inl x2), (3, .inl x3), (4, .inl (H1.1 3 (x2).toNat)), (5, .inl z132)]) (st' := []) rfl ?_
                refine k_run 3 (pc' := 78) (l' := [(0, .inr (.inr 2)), (1, .inl x1), (2, .inl x2), (3, .inl x3), (4, .inl (H1.1 3 (x2).toNat)), (5, .inl z132)]) (st' := [.inl z132, .inl x2, .inr (.inr 2)]) rfl ?_
                refine h_cv (i := 40) (j := 30) (b := 2) (M' := mt_30) (xs := [.inl z132, .inl x2]) (rest := []) rfl rfl rfl rfl (zs_K (x := kx_2) rfl (by decide)) rfl (Nat.le_of_ble_eq_true rfl) (Nat.le_of_ble_eq_true rfl) (by omega) (q_Tape_nameOf (by omega) hI1 (by omega) (by omega) (by omega) (by omega)) ?_
                rintro _ _ ⟨z141, rfl, g135, hx140, rfl⟩
                refine k_run 0 (pc' := 81) (l' := [(0, .inr (.inr 2)), (1, .inl x1), (2, .inl x2), (3, .inl x3), (4, .inl (H1.1 3 (x2).toNat)), (5, .inl z132)]) (st' := [.inr (.inl z141)]) rfl ?_
                refine k_run 2 (pc' := 85) (l' := [(0, .inr (.inr 2)), (1, .inl x1), (2, .inl x2), (3, .inl x3), (4, .inl (H1.1 3 (x2).toNat)), (5, .inl z132), (6, .inr (.inl z141))]) (st' := [.inl (H1.1 3 (x2).toNat)]) rfl ?_
                refine h_cs (i := 32) (j := 33) (M' := mt_33) (xs := [.inl (H1.1 3 (x2).toNat)]) (rest := []) rfl rfl rfl rfl rfl (Nat.le_of_ble_eq_true rfl) (Nat.le_of_ble_eq_true rfl) (by omega) (q_Tape_isLetter (by omega)  (by omega)) ?_
                rintro _ _ ⟨z148, rfl, g142, hx147, rfl⟩
                refine k_run 0 (pc' := 88) (l' := [(0, .inr (.inr 2)), (1, .inl x1), (2, .inl x2), (3, .inl x3), (4, .inl (H1.1 3 (x2).toNat)), (5, .inl z132), (6, .inr (.inl z141))]) (st' := [.inl z148]) rfl ?_
                refine h_zeq (off := 17) (t := 105) rfl rfl (by omega) (fun c149 => ?_) (fun c149 => ?_)
                · refine k_run 0 (pc' := 105) (l' := [(0, .inr (.inr 2)), (1, .inl x1), (2, .inl x2), (3, .inl x3), (4, .inl (H1.1 3 (x2).toNat)), (5, .inl z132), (6, .inr (.inl z141))]) (st' := []) rfl ?_
                  refine k_run 1 (pc' := 107) (l' := [(0, .inr (.inr 2)), (1, .inl x1), (2, .inl x2), (3, .inl x3), (4, .inl (H1.1 3 (x2).toNat)), (5, .inl z132), (6, .inr (.inl z141))]) (st' := [.inl (H1.1 3 (x2).toNat)]) rfl ?_
                  refine h_cs (i := 48) (j := 32) (M' := mt_32) (xs := [.inl (H1.1 3 (x2).toNat)]) (rest := []) rfl rfl rfl rfl rfl (Nat.le_of_ble_eq_true rfl) (Nat.le_of_ble_eq_true rfl) (by omega) (q_Tape_tokenOfSign (by omega)  (by omega)) ?_
                  rintro _ _ ⟨z156, rfl, g150, hx155, rfl⟩
                  refine k_run 0 (pc' := 110) (l' := [(0, .inr (.inr 2)), (1, .inl x1), (2, .inl x2), (3, .inl x3), (4, .inl (H1.1 3 (x2).toNat)), (5, .inl z132), (6, .inr (.inl z141))]) (st' := [.inl z156]) rfl ?_
                  refine k_run 3 (pc' := 115) (l' := [(0, .inr (.inr 2)), (1, .inl x1), (2, .inl x2), (3, .inl x3), (4, .inl (H1.1 3 (x2).toNat)), (5, .inl z132), (6, .inr (.inl z141)), (8, .inl z156)]) (st' := [.inl 1, .inl z156]) rfl ?_
                  refine h_ine (off := 7) (t := 122) rfl rfl (by omega) (by decide) (fun c157 => ?_) (fun c157 => ?_)
                  · refine k_run 0 (pc' := 122) (l' := [(0, .inr (.inr 2)), (1, .inl x1), (2, .inl x2), (3, .inl x3), (4, .inl (H1.1 3 (x2).toNat)), (5, .inl z132), (6, .inr (.inl z141)), (8, .inl z156)]) (st' := []) rfl ?_
                    refine k_run 6 (pc' := 130) (l' := [(0, .inr (.inr 2)), (1, .inl 0), (2, .inl x2), (3, .inl x3), (4, .inl (H1.1 3 (x2).toNat)), (5, .inl z132), (6, .inr (.inl z141)), (8, .inl z156)]) (st' := [.inr (.inl z141), .inl x2, .inl z156, .inr (.inr 2)]) rfl ?_
                    have g158 : 0 ≤ (H1.1 2 5) ∧ (H1.1 2 5) ≤ 1001 := kn (x := kx_2) hI1 rfl 5
                    refine h_cv (i := 51) (j := 28) (b := 2) (M' := mt_28) (xs := [.inr (.inl z141), .inl x2, .inl z156]) (rest := []) rfl rfl rfl rfl (zs_K (x := kx_2) rfl (by decide)) rfl (Nat.le_of_ble_eq_true rfl) (Nat.le_of_ble_eq_true rfl) (by omega) (q_Tape_addToken (by omega) hI1 (by omega) (by omega) (by omega) (by omega)) ?_
                    rintro _ H160 ⟨rfl, hI161, hq162, hp163, hx164⟩
                    have hf165 : fq [(2, 5)] [4, 5, 6] false H H160 := fq_t hf1 hq162 rfl rfl rfl
                    refine k_run 0 (pc' := 133) (l' := [(0, .inr (.inr 2)), (1, .inl 0), (2, .inl x2), (3, .inl x3), (4, .inl (H1.1 3 (x2).toNat)), (5, .inl z132), (6, .inr (.inl z141)), (8, .inl z156)]) (st' := []) rfl ?_
                    refine k_run 4 (pc' := 11) (l' := [(0, .inr (.inr 2)), (1, .inl 0), (2, .inl z132), (3, .inl (x3 + 1)), (4, .inl (H1.1 3 (x2).toNat)), (5, .inl z132), (6, .inr (.inl z141)), (8, .inl z156)]) (st' := []) rfl ?_
                    have g166 : 0 ≤ (H160.1 2 1) ∧ (H160.1 2 1) ≤ 1000 := kn (x := kx_2) hI161 rfl 1
                    have e167 : (H160.1 2 1) = (H1.1 2 1) := (hq162.1 2 1 rfl (by decide) (by decide)).1
                    refine h_loc [0, 1, 2, 3] rfl ?_
                    rw [e3] at hx50
                    rw [e3, e21] at hx131
                    rw [e3] at hx140
                    rw [e3] at hx147
                    rw [e3] at hx155
                    exact ih H160 hI161 hf165 (0 : Int) z132 (x3 + 1) (by decide) (by omega) (by omega) (by omega) (by omega) (by omega) (by exfalso; rw [← e3] at *; omega) (NE_tr hi4 (NE_fwo hp163 (by simp))) (by omega)
                  · refine k_run 0 (pc' := 118) (l' := [(0, .inr (.inr 2)), (1, .inl x1), (2, .inl x2), (3, .inl x3), (4, .inl (H1.1 3 (x2).toNat)), (5, .inl z132), (6, .inr (.inl z141)), (8, .inl z156)]) (st' := []) rfl ?_
                    refine k_run 7 (pc' := 130) (l' := [(0, .inr (.inr 2)), (1, .inl 1), (2, .inl x2), (3, .inl x3), (4, .inl (H1.1 3 (x2).toNat)), (5, .inl z132), (6, .inr (.inl z141)), (8, .inl z156)]) (st' := [.inr (.inl z141), .inl x2, .inl z156, .inr (.inr 2)]) rfl ?_
                    have g168 : 0 ≤ (H1.1 2 5) ∧ (H1.1 2 5) ≤ 1001 := kn (x := kx_2) hI1 rfl 5
                    refine h_cv (i := 51) (j := 28) (b := 2) (M' := mt_28) (xs := [.inr (.inl z141), .inl x2, .inl z156]) (rest := []) rfl rfl rfl rfl (zs_K (x := kx_2) rfl (by decide)) rfl (Nat.le_of_ble_eq_true rfl) (Nat.le_of_ble_eq_true rfl) (by omega) (q_Tape_addToken (by omega) hI1 (by omega) (by omega) (by omega) (by omega)) ?_
                    rintro _ H170 ⟨rfl, hI171, hq172, hp173, hx174⟩
                    have hf175 : fq [(2, 5)] [4, 5, 6] false H H170 := fq_t hf1 hq172 rfl rfl rfl
                    refine k_run 0 (pc' := 133) (l' := [(0, .inr (.inr 2)), (1, .inl 1), (2, .inl x2), (3, .inl x3), (4, .inl (H1.1 3 (x2).toNat)), (5, .inl z132), (6, .inr (.inl z141)), (8, .inl z156)]) (st' := []) rfl ?_
                    refine k_run 4 (pc' := 11) (l' := [(0, .inr (.inr 2)), (1, .inl 1), (2, .inl z132), (3, .inl (x3 + 1)), (4, .inl (H1.1 3 (x2).toNat)), (5, .inl z132), (6, .inr (.inl z141)), (8, .inl z156)]) (st' := []) rfl ?_
                    have g176 : 0 ≤ (H170.1 2 1) ∧ (H170.1 2 1) ≤ 1000 := kn (x := kx_2) hI171 rfl 1
                    have e177 : (H170.1 2 1) = (H1.1 2 1) := (hq172.1 2 1 rfl (by decide) (by decide)).1
                    refine h_loc [0, 1, 2, 3] rfl ?_
                    rw [e3] at hx50
                    rw [e3, e21] at hx131
                    rw [e3] at hx140
                    rw [e3] at hx147
                    rw [e3] at hx155
                    exact ih H170 hI171 hf175 (1 : Int) z132 (x3 + 1) (by decide) (by omega) (by omega) (by omega) (by omega) (by omega) (by exfalso; rw [← e3] at *; omega) (NE_tr hi4 (NE_fwo hp173 (by simp))) (by omega)
                · refine k_run 0 (pc' := 91) (l' := [(0, .inr (.inr 2)), (1, .inl x1), (2, .inl x2), (3, .inl x3), (4, .inl (H1.1 3 (x2).toNat)), (5, .inl z132), (6, .inr (.inl z141))]) (st' := []) rfl ?_
                  refine k_run 5 (pc' := 99) (l' := [(0, .inr (.inr 2)), (1, .inl x1), (2, .inl x2), (3, .inl x3), (4, .inl (H1.1 3 (x2).toNat)), (5, .inl z132), (6, .inr (.inl z141))]) (st' := [.inr (.inl z141), .inl (z132 - x2), .inl (H1.1 3 (x2).toNat)]) rfl ?_
                  refine h_cs (i := 44) (j := 31) (M' := mt_31) (xs := [.inr (.inl z141), .inl (z132 - x2), .inl (H1.1 3 (x2).toNat)]) (rest := []) rfl rfl rfl rfl rfl (Nat.le_of_ble_eq_true rfl) (Nat.le_of_ble_eq_true rfl) (by omega) (q_Tape_tokenOfName (by omega)  (by omega) (by omega) (by omega)) ?_
                  rintro _ _ ⟨z184, rfl, g178, hx183, rfl⟩
                  refine k_run 0 (pc' := 102) (l' := [(0, .inr (.inr 2)), (1, .inl x1), (2, .inl x2), (3, .inl x3), (4, .inl (H1.1 3 (x2).toNat)), (5, .inl z132), (6, .inr (.inl z141))]) (st' := [.inl z184]) rfl ?_
                  refine k_run 4 (pc' := 115) (l' := [(0, .inr (.inr 2)), (1, .inl x1), (2, .inl x2), (3, .inl x3), (4, .inl (H1.1 3 (x2).toNat)), (5, .inl z132), (6, .inr (.inl z141)), (8, .inl z184)]) (st' := [.inl 1, .inl z184]) rfl ?_
                  refine h_ine (off := 7) (t := 122) rfl rfl (by omega) (by decide) (fun c185 => ?_) (fun c185 => ?_)
                  · refine k_run 0 (pc' := 122) (l' := [(0, .inr (.inr 2)), (1, .inl x1), (2, .inl x2), (3, .inl x3), (4, .inl (H1.1 3 (x2).toNat)), (5, .inl z132), (6, .inr (.inl z141)), (8, .inl z184)]) (st' := []) rfl ?_
                    refine k_run 6 (pc' := 130) (l' := [(0, .inr (.inr 2)), (1, .inl 0), (2, .inl x2), (3, .inl x3), (4, .inl (H1.1 3 (x2).toNat)), (5, .inl z132), (6, .inr (.inl z141)), (8, .inl z184)]) (st' := [.inr (.inl z141), .inl x2, .inl z184, .inr (.inr 2)]) rfl ?_
                    have g186 : 0 ≤ (H1.1 2 5) ∧ (H1.1 2 5) ≤ 1001 := kn (x := kx_2) hI1 rfl 5
                    refine h_cv (i := 51) (j := 28) (b := 2) (M' := mt_28) (xs := [.inr (.inl z141), .inl x2, .inl z184]) (rest := []) rfl rfl rfl rfl (zs_K (x := kx_2) rfl (by decide)) rfl (Nat.le_of_ble_eq_true rfl) (Nat.le_of_ble_eq_true rfl) (by omega) (q_Tape_addToken (by omega) hI1 (by omega) (by omega) (by omega) (by omega)) ?_
                    rintro _ H188 ⟨rfl, hI189, hq190, hp191, hx192⟩
                    have hf193 : fq [(2, 5)] [4, 5, 6] false H H188 := fq_t hf1 hq190 rfl rfl rfl
                    refine k_run 0 (pc' := 133) (l' := [(0, .inr (.inr 2)), (1, .inl 0), (2, .inl x2), (3, .inl x3), (4, .inl (H1.1 3 (x2).toNat)), (5, .inl z132), (6, .inr (.inl z141)), (8, .inl z184)]) (st' := []) rfl ?_
                    refine k_run 4 (pc' := 11) (l' := [(0, .inr (.inr 2)), (1, .inl 0), (2, .inl z132), (3, .inl (x3 + 1)), (4, .inl (H1.1 3 (x2).toNat)), (5, .inl z132), (6, .inr (.inl z141)), (8, .inl z184)]) (st' := []) rfl ?_
                    have g194 : 0 ≤ (H188.1 2 1) ∧ (H188.1 2 1) ≤ 1000 := kn (x := kx_2) hI189 rfl 1
                    have e195 : (H188.1 2 1) = (H1.1 2 1) := (hq190.1 2 1 rfl (by decide) (by decide)).1
                    refine h_loc [0, 1, 2, 3] rfl ?_
                    rw [e3] at hx50
                    rw [e3, e21] at hx131
                    rw [e3] at hx140
                    rw [e3] at hx147
                    rw [e3] at hx183
                    have hcl : cL (H.1 3 x2.toNat) := hx50.mp (by omega)
                    have hgt : x2 < z132 := by have q9 := tEd_lt (b := H.1 3) (n := (H.1 2 1).toNat) (s := x2.toNat) (by omega); unfold tEd at q9; rw [if_neg (by omega), if_pos hcl, show (H.1 2 1).toNat - x2.toNat = (H.1 2 1 - x2).toNat by omega] at q9; omega
                    exact ih H188 hI189 hf193 (0 : Int) z132 (x3 + 1) (by decide) (by omega) (by omega) (by omega) (by omega) (by omega) (CJ_t hi3 (by omega) (by omega) (by omega) (show ¬ cB (H.1 3 x2.toNat) by rw [← e3]; unfold cB; omega) (tKd_wi (by omega) (by omega) hcl hx131 hx140 hx183) (by omega) hp191 hx192 (by omega)) (NE_tr hi4 (NE_fwo hp191 (by simp))) (by omega)
                  · refine k_run 0 (pc' := 118) (l' := [(0, .inr (.inr 2)), (1, .inl x1), (2, .inl x2), (3, .inl x3), (4, .inl (H1.1 3 (x2).toNat)), (5, .inl z132), (6, .inr (.inl z141)), (8, .inl z184)]) (st' := []) rfl ?_
                    refine k_run 7 (pc' := 130) (l' := [(0, .inr (.inr 2)), (1, .inl 1), (2, .inl x2), (3, .inl x3), (4, .inl (H1.1 3 (x2).toNat)), (5, .inl z132), (6, .inr (.inl z141)), (8, .inl z184)]) (st' := [.inr (.inl z141), .inl x2, .inl z184, .inr (.inr 2)]) rfl ?_
                    have g196 : 0 ≤ (H1.1 2 5) ∧ (H1.1 2 5) ≤ 1001 := kn (x := kx_2) hI1 rfl 5
                    refine h_cv (i := 51) (j := 28) (b := 2) (M' := mt_28) (xs := [.inr (.inl z141), .inl x2, .inl z184]) (rest := []) rfl rfl rfl rfl (zs_K (x := kx_2) rfl (by decide)) rfl (Nat.le_of_ble_eq_true rfl) (Nat.le_of_ble_eq_true rfl) (by omega) (q_Tape_addToken (by omega) hI1 (by omega) (by omega) (by omega) (by omega)) ?_
                    rintro _ H198 ⟨rfl, hI199, hq200, hp201, hx202⟩
                    have hf203 : fq [(2, 5)] [4, 5, 6] false H H198 := fq_t hf1 hq200 rfl rfl rfl
                    refine k_run 0 (pc' := 133) (l' := [(0, .inr (.inr 2)), (1, .inl 1), (2, .inl x2), (3, .inl x3), (4, .inl (H1.1 3 (x2).toNat)), (5, .inl z132), (6, .inr (.inl z141)), (8, .inl z184)]) (st' := []) rfl ?_
                    refine k_run 4 (pc' := 11) (l' := [(0, .inr (.inr 2)), (1, .inl 1), (2, .inl z132), (3, .inl (x3 + 1)), (4, .inl (H1.1 3 (x2).toNat)), (5, .inl z132), (6, .inr (.inl z141)), (8, .inl z184)]) (st' := []) rfl ?_
                    have g204 : 0 ≤ (H198.1 2 1) ∧ (H198.1 2 1) ≤ 1000 := kn (x := kx_2) hI199 rfl 1
                    have e205 : (H198.1 2 1) = (H1.1 2 1) := (hq200.1 2 1 rfl (by decide) (by decide)).1
                    refine h_loc [0, 1, 2, 3] rfl ?_
                    rw [e3] at hx50
                    rw [e3, e21] at hx131
                    rw [e3] at hx140
                    rw [e3] at hx147
                    rw [e3] at hx183
                    have hcl : cL (H.1 3 x2.toNat) := hx50.mp (by omega)
                    have hgt : x2 < z132 := by have q9 := tEd_lt (b := H.1 3) (n := (H.1 2 1).toNat) (s := x2.toNat) (by omega); unfold tEd at q9; rw [if_neg (by omega), if_pos hcl, show (H.1 2 1).toNat - x2.toNat = (H.1 2 1 - x2).toNat by omega] at q9; omega
                    exact ih H198 hI199 hf203 (1 : Int) z132 (x3 + 1) (by decide) (by omega) (by omega) (by omega) (by omega) (by omega) (CJ_t hi3 (by omega) (by omega) (by omega) (show ¬ cB (H.1 3 x2.toNat) by rw [← e3]; unfold cB; omega) (tKd_wi (by omega) (by omega) hcl hx131 hx140 hx183) (by omega) hp201 hx202 (by omega)) (NE_tr hi4 (NE_fwo hp201 (by simp))) (by omega)
set_option maxRecDepth 100000 in
theorem q_Tape_cut {d : Nat} (hd : 3 ≤ d) {H : hp} (hI : Inv H)   : hG (zs zK) d mt_27 0 (zargs 0 [.inr (.inr 2)]) [] H (fun r9 H9 => r9 = none ∧ Inv H9 ∧ fq [(2, 5)] [4, 5, 6] false H H9 ∧ ((∃ q : Nat, KC (H.1 3, (H.1 2 1).toNat) q H9) ∧ NE 0 H H9)) := by
  refine k_run 0 (pc' := 0) (l' := [(0, .inr (.inr 2))]) (st' := []) rfl ?_
  refine k_run 2 (pc' := 2) (l' := [(0, .inr (.inr 2))]) (st' := [.inl 0, .inr (.inr 2)]) rfl ?_
  refine k_puti (z := 0) (a := 2) (x := kx_2) rfl rfl rfl (by decide) (by decide) rfl rfl rfl rfl hI (by decide) (show 0 ≤ (0 : Int) ∧ (0 : Int) ≤ 1001 by omega) (fun H1 hI2 hw3 hv4 => ?_)
  have hf5 : fq [(2, 5)] [4, 5, 6] false H H1 := fq_w (fq_rf _ _ _ _) hw3 (fpo (by decide) rfl)
  refine k_run 0 (pc' := 5) (l' := [(0, .inr (.inr 2))]) (st' := []) rfl ?_
  refine k_run 6 (pc' := 11) (l' := [(0, .inr (.inr 2)), (1, .inl 0), (2, .inl 0), (3, .inl 0)]) (st' := []) rfl ?_
  have g6 : 0 ≤ (H1.1 2 1) ∧ (H1.1 2 1) ≤ 1000 := kn (x := kx_2) hI2 rfl 1
  have e7 : (H1.1 2 1) = (H.1 2 1) := hw3.2 _ _ (fun q => absurd q.2 (by decide))
  exact (q_Tape_cut_cut hd hI  _) H1 hI2 hf5 (0 : Int) (0 : Int) (0 : Int) (by decide) (by decide) (by decide) (by omega) (by omega) (by omega) (CJ_0 hv4) (NE_w hw3 (sc_no (by omega))) (Nat.lt_succ_self _)
