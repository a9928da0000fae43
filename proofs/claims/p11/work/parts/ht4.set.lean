/-! the class sets a row's values and fills a side -/
theorem isT_un {t n m : Nat} (h : isT t n) (g : isT t m) : n = m := by
  have h1 := h.2.1
  rw [g.2.1] at h1
  unfold kTc at h1
  simp at h1
  omega
theorem isT_v : ∀ v : Nat, v < 6 → isT (382 + 4 * v) 6
  | 0, _ => ⟨rfl, rfl, by decide, by decide, by decide⟩
  | 1, _ => ⟨rfl, rfl, by decide, by decide, by decide⟩
  | 2, _ => ⟨rfl, rfl, by decide, by decide, by decide⟩
  | 3, _ => ⟨rfl, rfl, by decide, by decide, by decide⟩
  | 4, _ => ⟨rfl, rfl, by decide, by decide, by decide⟩
  | 5, _ => ⟨rfl, rfl, by decide, by decide, by decide⟩
  | n + 6, h => absurd h (by omega)
/-- the terms of values are where they were made -/
def VR9 (H : hp) : Prop := ∀ v : Nat, v < 6 → H.2 376 v = 382 + 4 * v
def SF9 (H H1 : hp) : Prop := H1.2 = H.2 ∧ ∀ c j, (∀ v : Nat, v < 6 → c ≠ 382 + 4 * v ∧ c ≠ 383 + 4 * v) → H1.1 c j = H.1 c j
theorem SF9_rf (H : hp) : SF9 H H := ⟨rfl, fun _ _ _ => rfl⟩
theorem SF9_lo {H H1 : hp} (h : SF9 H H1) {c j : Nat} (hc : c < 382 ∨ 406 ≤ c) : H1.1 c j = H.1 c j := h.2 c j (fun v hv => by omega)
theorem SF9_a {H H1 H2 : hp} {t v : Nat} (h : SF9 H H1) (g : AF t H1 H2) (ht : t = 382 + 4 * v) (hv : v < 6) : SF9 H H2 := ⟨g.1.trans h.1, fun c j hc => (g.2 c j (by have := hc v hv; omega) (by have := hc v hv; omega)).trans (h.2 c j hc)⟩
theorem SF9_w {H H1 H2 : hp} {t v k : Nat} (h : SF9 H H1) (g : wr t k H1 H2) (ht : t = 382 + 4 * v) (hv : v < 6) : SF9 H H2 := SF9_a h (AF_w g) ht hv
theorem CM_nil {H : hp} {t : Nat} {X : rx} (h : H.1 t 1 = 0) : CM H t X ([] : List Int).length (ga []) := ⟨h, fun x hx => absurd hx (Nat.not_lt_zero _)⟩
theorem vL_at {X : rx} {al : Bool} {t : Int} {N i p : Nat} {v : List Int} (hi : i < N) (h : (vv X al (i + 1) t)[p]? = some v) : (vL X al t N)[sumN (fun i => (vv X al (i + 1) t).length) i + p]? = some v := by
  unfold vL
  rw [fmN_get (f := fun i => vv X al (i + 1) t) hi (List.getElem?_eq_some_iff.mp h).1]
  exact h
theorem list_ga {l m : List Int} (h : l.length = m.length) (g : ∀ x, x < l.length → ga l x = ga m x) : l = m := by
  refine List.ext_getElem h (fun x h1 h2 => ?_)
  have := g x h1
  unfold ga at this
  rw [List.getD_eq_getElem?_getD, List.getD_eq_getElem?_getD, List.getElem?_eq_getElem h1, List.getElem?_eq_getElem h2] at this
  exact this

/-! Trial.setValues -/
set_option maxRecDepth 100000 in
theorem qv_setValues_cut {X : rx} {al : Bool} {nv N : Nat} {ty : Nat → Int} {d : Nat} (hd : 19 ≤ d) {H : hp} (hI : Inv H) {e : Nat} {a : Int} (he : isE e) (ha : -2147483648 ≤ a ∧ a ≤ 2147483647) (hp0 : 0 ≤ a ∧ a ≤ 2000) (hX : CT9 X) (he9 : e + 5 < 366) (hT : TC H X) (hal : ((al = false → H.1 372 9 = 0) ∧ (al = true → H.1 372 9 = 1))) (hV : KV H X al N) (hN6 : N ≤ 6) (hL : LV9 H X e nv ty) (hvr : VR9 H) (htt : ∀ v : Nat, v < nv → H.1 375 v = (((tot9 X al ty N) v : Nat) : Int) ∧ 1 ≤ (tot9 X al ty N) v ∧ (tot9 X al ty N) v ≤ 2000) : ∀ w : Nat, (∀ (H1 : hp), Inv H1 → fq [] [] false H H1 → ∀ (x3 : Int) (x4 : Int) , (-2147483648 ≤ x3 ∧ x3 ≤ 2147483647) → (-2147483648 ≤ x4 ∧ x4 ≤ 2147483647) → (-1 ≤ x4 ∧ x4 < (nv : Int)) → (0 ≤ x3 ∧ x3 ≤ 2000) → (x3.toNat = lft (tot9 X al ty N) nv a.toNat ((nv : Int) - 1 - x4).toNat) → (SF9 H H1) → (∀ w : Nat, x4 < w → w < nv → CM H1 (382 + 4 * w) X (rwV X al ty nv N a.toNat w).length (ga (rwV X al ty nv N a.toNat w))) → (((1000 * (x4 + 2) + 500).toNat) < w) → hG (zs zK) d mt_111 15 [(0, .inr (.inr 372)), (1, .inr (.inr e)), (2, .inl a), (3, .inl x3), (4, .inl x4)] [] H1 (fun r9 H9 => r9 = none ∧ Inv H9 ∧ fq [] [] false H H9 ∧ ((∀ w : Nat, w < nv → CM H9 (382 + 4 * w) X (rwV X al ty nv N a.toNat w).length (ga (rwV X al ty nv N a.toNat w))) ∧ SF9 H H9))) ∧ (∀ (H1 : hp), Inv H1 → fq [] [] false H H1 → ∀ (x3 : Int) (x4 : Int) (x5 : Int) (x6 : Int) (x7 : Int) , (-2147483648 ≤ x3 ∧ x3 ≤ 2147483647) → (-2147483648 ≤ x4 ∧ x4 ≤ 2147483647) → (-2147483648 ≤ x5 ∧ x5 ≤ 2147483647) → (-2147483648 ≤ x6 ∧ x6 ≤ 2147483647) → (-2147483648 ≤ x7 ∧ x7 ≤ 2147483647) → (0 ≤ x4 ∧ x4 < (nv : Int)) → (0 ≤ x3 ∧ x3 ≤ 2000) → (x3.toNat = lft (tot9 X al ty N) nv a.toNat ((nv : Int) - x4).toNat) → (SF9 H H1) → (∀ w : Nat, x4 < w → w < nv → CM H1 (382 + 4 * w) X (rwV X al ty nv N a.toNat w).length (ga (rwV X al ty nv N a.toNat w))) → (1 ≤ x7 ∧ x7 ≤ 6) → (x6.toNat + sumN (fun i => (vv X al (i + 1) (ty x4.toNat)).length) (x7 - 1).toNat = dgt (tot9 X al ty N) nv a.toNat x4.toNat) → (0 ≤ x6 ∧ x6 ≤ 2000) → (((1000 * (x4 + 2) + 100 - x7).toNat) < w) → hG (zs zK) d mt_111 47 [(0, .inr (.inr 372)), (1, .inr (.inr e)), (2, .inl a), (3, .inl x3), (4, .inl x4), (5, .inl x5), (6, .inl x6), (7, .inl x7)] [] H1 (fun r9 H9 => r9 = none ∧ Inv H9 ∧ fq [] [] false H H9 ∧ ((∀ w : Nat, w < nv → CM H9 (382 + 4 * w) X (rwV X al ty nv N a.toNat w).length (ga (rwV X al ty nv N a.toNat w))) ∧ SF9 H H9))) := by
  intro w
  induction w with
  | zero => exact ⟨fun _ _ _ _ _ _ _ _ _ _ _ _ h => absurd h (Nat.not_lt_zero _), fun _ _ _ _ _ _ _ _ _ _ _ _ _ _ _ _ _ _ _ _ _ h => absurd h (Nat.not_lt_zero _)⟩
  | succ w ih =>
    refine ⟨?_, ?_⟩
    · intro H1 hI1 hf1 x3 x4 hx3 hx4 hi0 hi1 hi2 hi3 hi4 hw
      obtain ⟨Q9, hQ9⟩ : ∃ Q9 : Option zv → hp → Prop, Q9 = (fun r9 H9 => r9 = none ∧ Inv H9 ∧ fq [] [] false H H9 ∧ ((∀ w : Nat, w < nv → CM H9 (382 + 4 * w) X (rwV X al ty nv N a.toNat w).length (ga (rwV X al ty nv N a.toNat w))) ∧ SF9 H H9)) := ⟨_, rfl⟩
      rw [← hQ9]
      obtain ⟨hX3, hX4, hXc⟩ := id hX
      have hsf := hi3
      have hL1 : LV9 H1 X e nv ty := LV_cg hL (fun j => SF9_lo hsf (by omega)) (fun j => SF9_lo hsf (by omega))
      have hL11 := hL1.1
      have hT1 : TC H1 X := TC_lo hT (fun c j hc => SF9_lo hsf (by omega))
      have hV1 : KV H1 X al N := KV_cg hV (fun _ _ _ _ _ => SF9_lo hsf (by omega)) (fun _ _ _ _ _ _ => SF9_lo hsf (by omega))
      have hal1 : (al = false → H1.1 372 9 = 0) ∧ (al = true → H1.1 372 9 = 1) := by rw [SF9_lo hsf (by omega)]; exact hal
      have hvr1 : VR9 H1 := fun v hv => by rw [hsf.1]; exact hvr v hv
      refine k_run 1 (pc' := 17) (l' := [(0, .inr (.inr 372)), (1, .inr (.inr e)), (2, .inl a), (3, .inl x3), (4, .inl x4)]) (st' := [.inl x4]) rfl ?_
      refine h_zlt (off := 118) (t := 135) rfl rfl (by omega) (fun c3 => ?_) (fun c3 => ?_)
      · refine k_run 0 (pc' := 135) (l' := [(0, .inr (.inr 372)), (1, .inr (.inr e)), (2, .inl a), (3, .inl x3), (4, .inl x4)]) (st' := []) rfl ?_
        refine h_ret rfl rfl ?_
        rw [hQ9]
        exact ⟨rfl, hI1, hf1, (by first | (exfalso; omega) | exact ⟨fun w9 h9 => hi4 w9 (by omega) h9, hsf⟩)⟩
      · refine k_run 0 (pc' := 20) (l' := [(0, .inr (.inr 372)), (1, .inr (.inr e)), (2, .inl a), (3, .inl x3), (4, .inl x4)]) (st' := []) rfl ?_
        obtain ⟨ht1, ht2⟩ := hL1.2 x4.toNat (by omega)
        obtain ⟨hq1, hq2, hq3⟩ := htt x4.toNat (by omega)
        have hq4 : H1.1 375 x4.toNat = H.1 375 x4.toNat := SF9_lo hsf (by omega)
        refine k_run 3 (pc' := 26) (l' := [(0, .inr (.inr 372)), (1, .inr (.inr e)), (2, .inl a), (3, .inl x3), (4, .inl x4)]) (st' := [.inl x4, .inr (.inr 375)]) rfl ?_
        refine k_ild (c := 375) (j := (x4).toNat) (i := x4) (x := kx_375) rfl rfl (by decide) rfl (by decide) (by omega) (by omega) ?_
        have g4 : -2147483648 ≤ (H1.1 375 (x4).toNat) ∧ (H1.1 375 (x4).toNat) ≤ 2147483647 := kn (x := kx_375) hI1 rfl (x4).toNat
        have e5 : (H1.1 375 (x4).toNat) = (H.1 375 (x4).toNat) := (hf1.1 375 (x4).toNat rfl (by decide) (fun q => by simp at q)).1
        refine k_run 0 (pc' := 27) (l' := [(0, .inr (.inr 372)), (1, .inr (.inr e)), (2, .inl a), (3, .inl x3), (4, .inl x4)]) (st' := [.inl (H1.1 375 (x4).toNat)]) rfl ?_
        refine k_run 1 (pc' := 28) (l' := [(0, .inr (.inr 372)), (1, .inr (.inr e)), (2, .inl a), (3, .inl x3), (4, .inl x4)]) (st' := [.inl 1, .inl (H1.1 375 (x4).toNat)]) rfl ?_
        refine k_max (i := 70) (x := (H1.1 375 (x4).toNat)) (y := 1) rfl rfl (Nat.le_of_ble_eq_true rfl) (by omega) (by omega) (by decide) (fun z6 hz6 => ?_)
        refine k_run 0 (pc' := 31) (l' := [(0, .inr (.inr 372)), (1, .inr (.inr e)), (2, .inl a), (3, .inl x3), (4, .inl x4)]) (st' := [.inl z6]) rfl ?_
        refine k_run 1 (pc' := 33) (l' := [(0, .inr (.inr 372)), (1, .inr (.inr e)), (2, .inl a), (3, .inl x3), (4, .inl x4), (5, .inl z6)]) (st' := []) rfl ?_
        have hx5 : z6 = (((tot9 X al ty N) x4.toNat : Nat) : Int) := by omega
        have hzd := z_dr (x := x3) (y := z6) (by omega) (by omega)
        rw [show (z6).toNat = (tot9 X al ty N) x4.toNat by omega, hi2] at hzd
        have hdl : dgt (tot9 X al ty N) nv a.toNat x4.toNat < (tot9 X al ty N) x4.toNat := dgt_lt (by omega)
        have hlf : lft (tot9 X al ty N) nv a.toNat ((nv : Int) - 1 - x4).toNat / (tot9 X al ty N) x4.toNat ≤ lft (tot9 X al ty N) nv a.toNat ((nv : Int) - 1 - x4).toNat := Nat.div_le_self _ _
        have hzn : 0 ≤ z_div x3 z6 ∧ z_div x3 z6 ≤ 2000 := by rw [hzd.1]; exact ⟨Int.natCast_nonneg _, by omega⟩
        have hzm : 0 ≤ z_rem x3 z6 ∧ z_rem x3 z6 ≤ 2000 := by rw [hzd.2]; have q9 := Nat.mod_le (lft (tot9 X al ty N) nv a.toNat ((nv : Int) - 1 - x4).toNat) ((tot9 X al ty N) x4.toNat); exact ⟨Int.natCast_nonneg _, by omega⟩
        refine k_run 2 (pc' := 36) (l' := [(0, .inr (.inr 372)), (1, .inr (.inr e)), (2, .inl a), (3, .inl x3), (4, .inl x4), (5, .inl z6)]) (st' := [.inl z6, .inl x3]) rfl ?_
        refine h_irem (x := x3) (y := z6) rfl (by omega) (by omega) (by omega : z6 ≠ 0) ?_
        refine k_run 0 (pc' := 37) (l' := [(0, .inr (.inr 372)), (1, .inr (.inr e)), (2, .inl a), (3, .inl x3), (4, .inl x4), (5, .inl z6)]) (st' := [.inl (z_rem x3 z6)]) rfl ?_
        refine k_run 3 (pc' := 42) (l' := [(0, .inr (.inr 372)), (1, .inr (.inr e)), (2, .inl a), (3, .inl x3), (4, .inl x4), (5, .inl z6), (6, .inl (z_rem x3 z6))]) (st' := [.inl z6, .inl x3]) rfl ?_
        refine h_idiv (x := x3) (y := z6) rfl (by omega) (by omega) (by omega : z6 ≠ 0) ?_
        refine k_run 0 (pc' := 43) (l' := [(0, .inr (.inr 372)), (1, .inr (.inr e)), (2, .inl a), (3, .inl x3), (4, .inl x4), (5, .inl z6), (6, .inl (z_rem x3 z6))]) (st' := [.inl (z_div x3 z6)]) rfl ?_
        refine k_run 3 (pc' := 47) (l' := [(0, .inr (.inr 372)), (1, .inr (.inr e)), (2, .inl a), (3, .inl (z_div x3 z6)), (4, .inl x4), (5, .inl z6), (6, .inl (z_rem x3 z6)), (7, .inl 1)]) (st' := []) rfl ?_
        rw [hQ9]
        exact ih.2 H1 hI1 hf1 (z_div x3 z6) x4 z6 (z_rem x3 z6) (1 : Int) (z_int _) (by omega) (by omega) (z_int _) (by decide) (by omega) (by omega) (by rw [hzd.1, Int.toNat_natCast, show ((nv : Int) - x4).toNat = ((nv : Int) - 1 - x4).toNat + 1 by omega]; show _ = lft (tot9 X al ty N) nv a.toNat ((nv : Int) - 1 - x4).toNat / (tot9 X al ty N) (nv - (((nv : Int) - 1 - x4).toNat + 1)); rw [show nv - (((nv : Int) - 1 - x4).toNat + 1) = x4.toNat by omega]) hsf hi4 (by omega) (by rw [show ((1 : Int) - 1).toNat = 0 from rfl, hzd.2]; show (lft (tot9 X al ty N) nv a.toNat ((nv : Int) - 1 - x4).toNat % (tot9 X al ty N) x4.toNat : Nat) + 0 = _; unfold dgt; rw [show ((nv : Int) - 1 - x4).toNat = nv - 1 - x4.toNat by omega]; rfl) (by omega) (by omega)
    · intro H1 hI1 hf1 x3 x4 x5 x6 x7 hx3 hx4 hx5 hx6 hx7 hi0 hi1 hi2 hi3 hi4 hi5 hi6 hi7 hw
      obtain ⟨Q9, hQ9⟩ : ∃ Q9 : Option zv → hp → Prop, Q9 = (fun r9 H9 => r9 = none ∧ Inv H9 ∧ fq [] [] false H H9 ∧ ((∀ w : Nat, w < nv → CM H9 (382 + 4 * w) X (rwV X al ty nv N a.toNat w).length (ga (rwV X al ty nv N a.toNat w))) ∧ SF9 H H9)) := ⟨_, rfl⟩
      rw [← hQ9]
      obtain ⟨hX3, hX4, hXc⟩ := id hX
      have hsf := hi3
      have hL1 : LV9 H1 X e nv ty := LV_cg hL (fun j => SF9_lo hsf (by omega)) (fun j => SF9_lo hsf (by omega))
      have hL11 := hL1.1
      have hT1 : TC H1 X := TC_lo hT (fun c j hc => SF9_lo hsf (by omega))
      have hV1 : KV H1 X al N := KV_cg hV (fun _ _ _ _ _ => SF9_lo hsf (by omega)) (fun _ _ _ _ _ _ => SF9_lo hsf (by omega))
      have hal1 : (al = false → H1.1 372 9 = 0) ∧ (al = true → H1.1 372 9 = 1) := by rw [SF9_lo hsf (by omega)]; exact hal
      have hvr1 : VR9 H1 := fun v hv => by rw [hsf.1]; exact hvr v hv
      refine k_run 2 (pc' := 51) (l' := [(0, .inr (.inr 372)), (1, .inr (.inr e)), (2, .inl a), (3, .inl x3), (4, .inl x4), (5, .inl x5), (6, .inl x6), (7, .inl x7)]) (st' := [.inl 6, .inl x7]) rfl ?_
      refine h_ige (off := 45) (t := 96) rfl rfl (by omega) (by decide) (fun c7 => ?_) (fun c7 => ?_)
      · refine k_run 0 (pc' := 96) (l' := [(0, .inr (.inr 372)), (1, .inr (.inr e)), (2, .inl a), (3, .inl x3), (4, .inl x4), (5, .inl x5), (6, .inl x6), (7, .inl x7)]) (st' := []) rfl ?_
        obtain ⟨ht1, ht2⟩ := hL1.2 x4.toNat (by omega)
        obtain ⟨hq1, hq2, hq3⟩ := htt x4.toNat (by omega)
        have hdl : dgt (tot9 X al ty N) nv a.toNat x4.toNat < (tot9 X al ty N) x4.toNat := dgt_lt (by omega)
        have htsm : (tot9 X al ty N) x4.toNat = sumN (fun i => (vv X al (i + 1) (ty x4.toNat)).length) N := tot_sum
        have hN7 : x7 ≤ N := by by_cases q9 : x7 ≤ N; { exact q9 }; { have q8 := sumN_mono (f := (fun i => (vv X al (i + 1) (ty x4.toNat)).length)) (n := N) (m := (x7 - 1).toNat) (by omega); omega }
        have hle : (fun i => (vv X al (i + 1) (ty x4.toNat)).length) (x7 - 1).toNat ≤ sumN (fun i => (vv X al (i + 1) (ty x4.toNat)).length) N := sumN_ge (f := (fun i => (vv X al (i + 1) (ty x4.toNat)).length)) (by omega)
        have hle2 : (vv X al x7.toNat (ty x4.toNat)).length ≤ 2000 := by rw [show x7.toNat = (x7 - 1).toNat + 1 by omega]; have q9 : (vv X al ((x7 - 1).toNat + 1) (ty x4.toNat)).length ≤ sumN (fun i => (vv X al (i + 1) (ty x4.toNat)).length) N := hle; omega
        have hlt : x6 < (((vv X al x7.toNat (ty x4.toNat)).length : Nat) : Int) := by have q9 : sumN (fun i => (vv X al (i + 1) (ty x4.toNat)).length) ((x7 - 1).toNat + 1) = sumN (fun i => (vv X al (i + 1) (ty x4.toNat)).length) (x7 - 1).toNat + (vv X al ((x7 - 1).toNat + 1) (ty x4.toNat)).length := rfl; rw [show (x7 - 1).toNat + 1 = N by omega] at q9; rw [show x7.toNat = N by omega]; omega
        refine k_run 3 (pc' := 102) (l' := [(0, .inr (.inr 372)), (1, .inr (.inr e)), (2, .inl a), (3, .inl x3), (4, .inl x4), (5, .inl x5), (6, .inl x6), (7, .inl x7)]) (st' := [.inl x4, .inr (.inr 376)]) rfl ?_
        refine k_ald (c := 376) (j := (x4).toNat) (i := x4) (x := kx_376) rfl rfl (by decide) rfl (by decide) (by omega) (by omega) hI1 (fun h8 => ?_)
        obtain ⟨t9, et11⟩ : ∃ t9, t9 = H1.2 376 (x4).toNat := ⟨_, rfl⟩
        rw [← et11] at h8 ⊢
        obtain ⟨n12, k10⟩ := (show (∃ n, isT t9 n) ∧ 369 < t9 from h8).1
        have k10b := k10.2.2.2.2
        refine k_run 0 (pc' := 103) (l' := [(0, .inr (.inr 372)), (1, .inr (.inr e)), (2, .inl a), (3, .inl x3), (4, .inl x4), (5, .inl x5), (6, .inl x6), (7, .inl x7)]) (st' := [.inr (.inr t9)]) rfl ?_
        have ha9 : t9 = 382 + 4 * x4.toNat := by rw [et11]; exact hvr1 x4.toNat (by omega)
        have hb9 : n12 = 6 := isT_un k10 (by rw [ha9]; exact isT_v x4.toNat (by omega))
        refine k_run 1 (pc' := 104) (l' := [(0, .inr (.inr 372)), (1, .inr (.inr e)), (2, .inl a), (3, .inl x3), (4, .inl x4), (5, .inl x5), (6, .inl x6), (7, .inl x7)]) (st' := [.inl 0, .inr (.inr t9)]) rfl ?_
        refine k_puti (z := 0) (a := t9) (x := (kTo t9 n12)) rfl rfl k10.1 (iT0 k10) k10.2.2.1 rfl rfl rfl rfl hI1 (by decide) (show 0 ≤ (0 : Int) ∧ (0 : Int) ≤ n12 by omega) (fun H13 hI14 hw15 hv16 => ?_)
        have hf17 : fq [] [] false H H13 := fq_w hf1 hw15 (fpT k10)
        refine k_run 0 (pc' := 107) (l' := [(0, .inr (.inr 372)), (1, .inr (.inr e)), (2, .inl a), (3, .inl x3), (4, .inl x4), (5, .inl x5), (6, .inl x6), (7, .inl x7)]) (st' := []) rfl ?_
        have hsf2 := SF9_w hsf hw15 ha9 (by omega)
        have ht3 : H13.1 (e + 5) x4.toNat = ty x4.toNat := by rw [hw15.2 _ _ (fun q9 => by have := q9.1; omega)]; exact ht1
        have hT2 : TC H13 X := TC_lo hT (fun c j hc => SF9_lo hsf2 (by omega))
        have hV2 : KV H13 X al N := KV_cg hV (fun _ _ _ _ _ => SF9_lo hsf2 (by omega)) (fun _ _ _ _ _ _ => SF9_lo hsf2 (by omega))
        have hal2 : (al = false → H13.1 372 9 = 0) ∧ (al = true → H13.1 372 9 = 1) := by rw [SF9_lo hsf2 (by omega)]; exact hal
        have hsz2 : H13.1 t9 1 = 0 := hv16
        have hM2 : CM H13 t9 X ([] : List Int).length (ga []) := CM_nil hsz2
        refine k_run 2 (pc' := 109) (l' := [(0, .inr (.inr 372)), (1, .inr (.inr e)), (2, .inl a), (3, .inl x3), (4, .inl x4), (5, .inl x5), (6, .inl x6), (7, .inl x7)]) (st' := [.inr (.inr e), .inr (.inr 372)]) rfl ?_
        refine k_get (a := e) (x := (kEo e)) (v := .inr (.inr (e + 5))) rfl rfl he.1 (iE0 he) rfl rfl rfl ?_
        refine k_run 0 (pc' := 112) (l' := [(0, .inr (.inr 372)), (1, .inr (.inr e)), (2, .inl a), (3, .inl x3), (4, .inl x4), (5, .inl x5), (6, .inl x6), (7, .inl x7)]) (st' := [.inr (.inr (e + 5)), .inr (.inr 372)]) rfl ?_
        refine k_run 1 (pc' := 114) (l' := [(0, .inr (.inr 372)), (1, .inr (.inr e)), (2, .inl a), (3, .inl x3), (4, .inl x4), (5, .inl x5), (6, .inl x6), (7, .inl x7)]) (st' := [.inl x4, .inr (.inr (e + 5)), .inr (.inr 372)]) rfl ?_
        refine k_ild (c := (e + 5)) (j := (x4).toNat) (i := x4) (x := kEt) rfl he.2.1 (iE5 he) rfl (by decide) (by omega) (by omega) ?_
        have g18 : -2 ≤ (H13.1 (e + 5) (x4).toNat) ∧ (H13.1 (e + 5) (x4).toNat) ≤ 100 := kn hI14 he.2.1 (x4).toNat
        refine k_run 0 (pc' := 115) (l' := [(0, .inr (.inr 372)), (1, .inr (.inr e)), (2, .inl a), (3, .inl x3), (4, .inl x4), (5, .inl x5), (6, .inl x6), (7, .inl x7)]) (st' := [.inl (H13.1 (e + 5) (x4).toNat), .inr (.inr 372)]) rfl ?_
        refine k_run 5 (pc' := 125) (l' := [(0, .inr (.inr 372)), (1, .inr (.inr e)), (2, .inl a), (3, .inl x3), (4, .inl x4), (5, .inl x5), (6, .inl x6), (7, .inl x7)]) (st' := [.inl x4, .inr (.inr 376), .inl x6, .inl x7, .inl (H13.1 (e + 5) (x4).toNat), .inr (.inr 372)]) rfl ?_
        refine k_ald (c := 376) (j := (x4).toNat) (i := x4) (x := kx_376) rfl rfl (by decide) rfl (by decide) (by omega) (by omega) hI14 (fun h19 => ?_)
        obtain ⟨t20, et22⟩ : ∃ t9, t9 = H13.2 376 (x4).toNat := ⟨_, rfl⟩
        rw [← et22] at h19 ⊢
        obtain ⟨n23, k21⟩ := (show (∃ n, isT t20 n) ∧ 369 < t20 from h19).1
        have k21b := k21.2.2.2.2
        refine k_run 0 (pc' := 126) (l' := [(0, .inr (.inr 372)), (1, .inr (.inr e)), (2, .inl a), (3, .inl x3), (4, .inl x4), (5, .inl x5), (6, .inl x6), (7, .inl x7)]) (st' := [.inr (.inr t20), .inl x6, .inl x7, .inl (H13.1 (e + 5) (x4).toNat), .inr (.inr 372)]) rfl ?_
        have ha8 : t20 = 382 + 4 * x4.toNat := by rw [et22, hw15.1]; exact hvr1 x4.toNat (by omega)
        have hb8 : n23 = 6 := isT_un k21 (by rw [ha8]; exact isT_v x4.toNat (by omega))
        have hM3 : CM H13 t20 X ([] : List Int).length (ga []) := by rw [ha8, ← ha9]; exact hM2
        have hl0 : ([] : List Int).length = 0 := rfl
        refine h_cv (i := 161) (j := 112) (b := 372) (M' := mt_112) (xs := [.inr (.inr t20), .inl x6, .inl x7, .inl (H13.1 (e + 5) (x4).toNat)]) (rest := []) rfl rfl rfl rfl (zs_K (x := kx_372) rfl (by decide)) rfl (Nat.le_of_ble_eq_true rfl) (Nat.le_of_ble_eq_true rfl) (by omega) (qv_Trial_putValue (by omega) hI14 (by omega) (by omega) (by omega) k21 (by omega) (by omega) hX hT2 hal2 hV2 (by omega) hM3 (by omega) (by rw [ht3]; exact ⟨by omega, by omega⟩) (by rw [ht3]; exact hle2)) ?_
        rintro _ H25 ⟨rfl, hI26, hq27, hx29⟩
        have hf30 : fq [] [] false H H25 := fq_t hf17 hq27 rfl rfl rfl
        refine k_run 0 (pc' := 129) (l' := [(0, .inr (.inr 372)), (1, .inr (.inr e)), (2, .inl a), (3, .inl x3), (4, .inl x4), (5, .inl x5), (6, .inl x6), (7, .inl x7)]) (st' := []) rfl ?_
        refine k_run 2 (pc' := 15) (l' := [(0, .inr (.inr 372)), (1, .inr (.inr e)), (2, .inl a), (3, .inl x3), (4, .inl (x4 + (-1))), (5, .inl x5), (6, .inl x6), (7, .inl x7)]) (st' := []) rfl ?_
        refine h_loc [0, 1, 2, 3, 4] rfl ?_
        rw [hQ9]
        exact ih.1 H25 hI26 hf30 x3 (x4 + (-1)) (by omega) (by omega) (by omega) (by omega) (by rw [hi2]; congr 1; omega) (by obtain ⟨v9, v1, v2, v3⟩ := hx29; exact SF9_a hsf2 v3 ha8 (by omega)) (fun w9 h9 h8 => by obtain ⟨v9, v1, v2, v3⟩ := hx29; rw [ht3] at v1; rw [List.nil_append] at v2; by_cases q9 : w9 = x4.toNat; { subst q9; have q8 : (rwV X al ty nv N a.toNat x4.toNat) = v9 := (by unfold rwV; refine vAt_of ?_; rw [← hi6, Nat.add_comm]; exact vL_at (by omega) (by rw [show (x7 - 1).toNat + 1 = x7.toNat by omega]; exact v1)); rw [q8, ← ha8]; exact v2 }; { have q7 := hi4 w9 (by omega) h8; refine ⟨?_, fun x hx => ?_⟩; { rw [v3.2 _ _ (by omega) (by omega), hw15.2 _ _ (fun q6 => by have := q6.1; omega)]; exact q7.1 }; { rw [v3.2 _ _ (by omega) (by omega), hw15.2 _ _ (fun q6 => by have := q6.1; omega)]; exact q7.2 x hx } }) (by omega)
      · refine k_run 0 (pc' := 54) (l' := [(0, .inr (.inr 372)), (1, .inr (.inr e)), (2, .inl a), (3, .inl x3), (4, .inl x4), (5, .inl x5), (6, .inl x6), (7, .inl x7)]) (st' := []) rfl ?_
        obtain ⟨ht1, ht2⟩ := hL1.2 x4.toNat (by omega)
        obtain ⟨hq1, hq2, hq3⟩ := htt x4.toNat (by omega)
        have hdl : dgt (tot9 X al ty N) nv a.toNat x4.toNat < (tot9 X al ty N) x4.toNat := dgt_lt (by omega)
        have htsm : (tot9 X al ty N) x4.toNat = sumN (fun i => (vv X al (i + 1) (ty x4.toNat)).length) N := tot_sum
        have hN7 : x7 ≤ N := by by_cases q9 : x7 ≤ N; { exact q9 }; { have q8 := sumN_mono (f := (fun i => (vv X al (i + 1) (ty x4.toNat)).length)) (n := N) (m := (x7 - 1).toNat) (by omega); omega }
        have hle : (fun i => (vv X al (i + 1) (ty x4.toNat)).length) (x7 - 1).toNat ≤ sumN (fun i => (vv X al (i + 1) (ty x4.toNat)).length) N := sumN_ge (f := (fun i => (vv X al (i + 1) (ty x4.toNat)).length)) (by omega)
        have hle2 : (vv X al x7.toNat (ty x4.toNat)).length ≤ 2000 := by rw [show x7.toNat = (x7 - 1).toNat + 1 by omega]; have q9 : (vv X al ((x7 - 1).toNat + 1) (ty x4.toNat)).length ≤ sumN (fun i => (vv X al (i + 1) (ty x4.toNat)).length) N := hle; omega
        refine k_run 3 (pc' := 58) (l' := [(0, .inr (.inr 372)), (1, .inr (.inr e)), (2, .inl a), (3, .inl x3), (4, .inl x4), (5, .inl x5), (6, .inl x6), (7, .inl x7)]) (st' := [.inr (.inr e), .inr (.inr 372), .inl x6]) rfl ?_
        refine k_get (a := e) (x := (kEo e)) (v := .inr (.inr (e + 5))) rfl rfl he.1 (iE0 he) rfl rfl rfl ?_
        refine k_run 0 (pc' := 61) (l' := [(0, .inr (.inr 372)), (1, .inr (.inr e)), (2, .inl a), (3, .inl x3), (4, .inl x4), (5, .inl x5), (6, .inl x6), (7, .inl x7)]) (st' := [.inr (.inr (e + 5)), .inr (.inr 372), .inl x6]) rfl ?_
        refine k_run 1 (pc' := 63) (l' := [(0, .inr (.inr 372)), (1, .inr (.inr e)), (2, .inl a), (3, .inl x3), (4, .inl x4), (5, .inl x5), (6, .inl x6), (7, .inl x7)]) (st' := [.inl x4, .inr (.inr (e + 5)), .inr (.inr 372), .inl x6]) rfl ?_
        refine k_ild (c := (e + 5)) (j := (x4).toNat) (i := x4) (x := kEt) rfl he.2.1 (iE5 he) rfl (by decide) (by omega) (by omega) ?_
        have g31 : -2 ≤ (H1.1 (e + 5) (x4).toNat) ∧ (H1.1 (e + 5) (x4).toNat) ≤ 100 := kn hI1 he.2.1 (x4).toNat
        refine k_run 0 (pc' := 64) (l' := [(0, .inr (.inr 372)), (1, .inr (.inr e)), (2, .inl a), (3, .inl x3), (4, .inl x4), (5, .inl x5), (6, .inl x6), (7, .inl x7)]) (st' := [.inl (H1.1 (e + 5) (x4).toNat), .inr (.inr 372), .inl x6]) rfl ?_
        refine k_run 1 (pc' := 66) (l' := [(0, .inr (.inr 372)), (1, .inr (.inr e)), (2, .inl a), (3, .inl x3), (4, .inl x4), (5, .inl x5), (6, .inl x6), (7, .inl x7)]) (st' := [.inl x7, .inl (H1.1 (e + 5) (x4).toNat), .inr (.inr 372), .inl x6]) rfl ?_
        refine h_cv (i := 153) (j := 108) (b := 372) (M' := mt_108) (xs := [.inl x7, .inl (H1.1 (e + 5) (x4).toNat)]) (rest := [.inl x6]) rfl rfl rfl rfl (zs_K (x := kx_372) rfl (by decide)) rfl (Nat.le_of_ble_eq_true rfl) (Nat.le_of_ble_eq_true rfl) (by omega) (qv_valuesOf (by omega) hI1 (by omega) (by omega) (by omega) (by omega)) ?_
        rintro _ _ ⟨z38, rfl, g32, rfl⟩
        refine k_run 0 (pc' := 69) (l' := [(0, .inr (.inr 372)), (1, .inr (.inr e)), (2, .inl a), (3, .inl x3), (4, .inl x4), (5, .inl x5), (6, .inl x6), (7, .inl x7)]) (st' := [.inl z38, .inl x6]) rfl ?_
        have hz66 : z38 = (((vv X al x7.toNat (ty x4.toNat)).length : Nat) : Int) := by rw [g32.2, ht1, KV_v hV1 (by omega) (by omega)]; show ((cp _ : Nat) : Int) = _; rw [cp_ex (Nat.le_trans (cp_le_self _) hle2)]
        refine h_ilt (off := 27) (t := 96) rfl rfl (by omega) (by omega) (fun c39 => ?_) (fun c39 => ?_)
        · refine k_run 0 (pc' := 96) (l' := [(0, .inr (.inr 372)), (1, .inr (.inr e)), (2, .inl a), (3, .inl x3), (4, .inl x4), (5, .inl x5), (6, .inl x6), (7, .inl x7)]) (st' := []) rfl ?_
          have hlt : x6 < (((vv X al x7.toNat (ty x4.toNat)).length : Nat) : Int) := by omega
          refine k_run 3 (pc' := 102) (l' := [(0, .inr (.inr 372)), (1, .inr (.inr e)), (2, .inl a), (3, .inl x3), (4, .inl x4), (5, .inl x5), (6, .inl x6), (7, .inl x7)]) (st' := [.inl x4, .inr (.inr 376)]) rfl ?_
          refine k_ald (c := 376) (j := (x4).toNat) (i := x4) (x := kx_376) rfl rfl (by decide) rfl (by decide) (by omega) (by omega) hI1 (fun h40 => ?_)
          obtain ⟨t41, et43⟩ : ∃ t9, t9 = H1.2 376 (x4).toNat := ⟨_, rfl⟩
          rw [← et43] at h40 ⊢
          obtain ⟨n44, k42⟩ := (show (∃ n, isT t41 n) ∧ 369 < t41 from h40).1
          have k42b := k42.2.2.2.2
          refine k_run 0 (pc' := 103) (l' := [(0, .inr (.inr 372)), (1, .inr (.inr e)), (2, .inl a), (3, .inl x3), (4, .inl x4), (5, .inl x5), (6, .inl x6), (7, .inl x7)]) (st' := [.inr (.inr t41)]) rfl ?_
          have ha9 : t41 = 382 + 4 * x4.toNat := by rw [et43]; exact hvr1 x4.toNat (by omega)
          have hb9 : n44 = 6 := isT_un k42 (by rw [ha9]; exact isT_v x4.toNat (by omega))
          refine k_run 1 (pc' := 104) (l' := [(0, .inr (.inr 372)), (1, .inr (.inr e)), (2, .inl a), (3, .inl x3), (4, .inl x4), (5, .inl x5), (6, .inl x6), (7, .inl x7)]) (st' := [.inl 0, .inr (.inr t41)]) rfl ?_
          refine k_puti (z := 0) (a := t41) (x := (kTo t41 n44)) rfl rfl k42.1 (iT0 k42) k42.2.2.1 rfl rfl rfl rfl hI1 (by decide) (show 0 ≤ (0 : Int) ∧ (0 : Int) ≤ n44 by omega) (fun H45 hI46 hw47 hv48 => ?_)
          have hf49 : fq [] [] false H H45 := fq_w hf1 hw47 (fpT k42)
          refine k_run 0 (pc' := 107) (l' := [(0, .inr (.inr 372)), (1, .inr (.inr e)), (2, .inl a), (3, .inl x3), (4, .inl x4), (5, .inl x5), (6, .inl x6), (7, .inl x7)]) (st' := []) rfl ?_
          have hsf2 := SF9_w hsf hw47 ha9 (by omega)
          have ht3 : H45.1 (e + 5) x4.toNat = ty x4.toNat := by rw [hw47.2 _ _ (fun q9 => by have := q9.1; omega)]; exact ht1
          have hT2 : TC H45 X := TC_lo hT (fun c j hc => SF9_lo hsf2 (by omega))
          have hV2 : KV H45 X al N := KV_cg hV (fun _ _ _ _ _ => SF9_lo hsf2 (by omega)) (fun _ _ _ _ _ _ => SF9_lo hsf2 (by omega))
          have hal2 : (al = false → H45.1 372 9 = 0) ∧ (al = true → H45.1 372 9 = 1) := by rw [SF9_lo hsf2 (by omega)]; exact hal
          have hsz2 : H45.1 t41 1 = 0 := hv48
          have hM2 : CM H45 t41 X ([] : List Int).length (ga []) := CM_nil hsz2
          refine k_run 2 (pc' := 109) (l' := [(0, .inr (.inr 372)), (1, .inr (.inr e)), (2, .inl a), (3, .inl x3), (4, .inl x4), (5, .inl x5), (6, .inl x6), (7, .inl x7)]) (st' := [.inr (.inr e), .inr (.inr 372)]) rfl ?_
          refine k_get (a := e) (x := (kEo e)) (v := .inr (.inr (e + 5))) rfl rfl he.1 (iE0 he) rfl rfl rfl ?_
          refine k_run 0 (pc' := 112) (l' := [(0, .inr (.inr 372)), (1, .inr (.inr e)), (2, .inl a), (3, .inl x3), (4, .inl x4), (5, .inl x5), (6, .inl x6), (7, .inl x7)]) (st' := [.inr (.inr (e + 5)), .inr (.inr 372)]) rfl ?_
          refine k_run 1 (pc' := 114) (l' := [(0, .inr (.inr 372)), (1, .inr (.inr e)), (2, .inl a), (3, .inl x3), (4, .inl x4), (5, .inl x5), (6, .inl x6), (7, .inl x7)]) (st' := [.inl x4, .inr (.inr (e + 5)), .inr (.inr 372)]) rfl ?_
          refine k_ild (c := (e + 5)) (j := (x4).toNat) (i := x4) (x := kEt) rfl he.2.1 (iE5 he) rfl (by decide) (by omega) (by omega) ?_
          have g50 : -2 ≤ (H45.1 (e + 5) (x4).toNat) ∧ (H45.1 (e + 5) (x4).toNat) ≤ 100 := kn hI46 he.2.1 (x4).toNat
          refine k_run 0 (pc' := 115) (l' := [(0, .inr (.inr 372)), (1, .inr (.inr e)), (2, .inl a), (3, .inl x3), (4, .inl x4), (5, .inl x5), (6, .inl x6), (7, .inl x7)]) (st' := [.inl (H45.1 (e + 5) (x4).toNat), .inr (.inr 372)]) rfl ?_
          refine k_run 5 (pc' := 125) (l' := [(0, .inr (.inr 372)), (1, .inr (.inr e)), (2, .inl a), (3, .inl x3), (4, .inl x4), (5, .inl x5), (6, .inl x6), (7, .inl x7)]) (st' := [.inl x4, .inr (.inr 376), .inl x6, .inl x7, .inl (H45.1 (e + 5) (x4).toNat), .inr (.inr 372)]) rfl ?_
          refine k_ald (c := 376) (j := (x4).toNat) (i := x4) (x := kx_376) rfl rfl (by decide) rfl (by decide) (by omega) (by omega) hI46 (fun h51 => ?_)
          obtain ⟨t52, et54⟩ : ∃ t9, t9 = H45.2 376 (x4).toNat := ⟨_, rfl⟩
          rw [← et54] at h51 ⊢
          obtain ⟨n55, k53⟩ := (show (∃ n, isT t52 n) ∧ 369 < t52 from h51).1
          have k53b := k53.2.2.2.2
          refine k_run 0 (pc' := 126) (l' := [(0, .inr (.inr 372)), (1, .inr (.inr e)), (2, .inl a), (3, .inl x3), (4, .inl x4), (5, .inl x5), (6, .inl x6), (7, .inl x7)]) (st' := [.inr (.inr t52), .inl x6, .inl x7, .inl (H45.1 (e + 5) (x4).toNat), .inr (.inr 372)]) rfl ?_
          have ha8 : t52 = 382 + 4 * x4.toNat := by rw [et54, hw47.1]; exact hvr1 x4.toNat (by omega)
          have hb8 : n55 = 6 := isT_un k53 (by rw [ha8]; exact isT_v x4.toNat (by omega))
          have hM3 : CM H45 t52 X ([] : List Int).length (ga []) := by rw [ha8, ← ha9]; exact hM2
          have hl0 : ([] : List Int).length = 0 := rfl
          refine h_cv (i := 161) (j := 112) (b := 372) (M' := mt_112) (xs := [.inr (.inr t52), .inl x6, .inl x7, .inl (H45.1 (e + 5) (x4).toNat)]) (rest := []) rfl rfl rfl rfl (zs_K (x := kx_372) rfl (by decide)) rfl (Nat.le_of_ble_eq_true rfl) (Nat.le_of_ble_eq_true rfl) (by omega) (qv_Trial_putValue (by omega) hI46 (by omega) (by omega) (by omega) k53 (by omega) (by omega) hX hT2 hal2 hV2 (by omega) hM3 (by omega) (by rw [ht3]; exact ⟨by omega, by omega⟩) (by rw [ht3]; exact hle2)) ?_
          rintro _ H57 ⟨rfl, hI58, hq59, hx61⟩
          have hf62 : fq [] [] false H H57 := fq_t hf49 hq59 rfl rfl rfl
          refine k_run 0 (pc' := 129) (l' := [(0, .inr (.inr 372)), (1, .inr (.inr e)), (2, .inl a), (3, .inl x3), (4, .inl x4), (5, .inl x5), (6, .inl x6), (7, .inl x7)]) (st' := []) rfl ?_
          refine k_run 2 (pc' := 15) (l' := [(0, .inr (.inr 372)), (1, .inr (.inr e)), (2, .inl a), (3, .inl x3), (4, .inl (x4 + (-1))), (5, .inl x5), (6, .inl x6), (7, .inl x7)]) (st' := []) rfl ?_
          refine h_loc [0, 1, 2, 3, 4] rfl ?_
          rw [hQ9]
          exact ih.1 H57 hI58 hf62 x3 (x4 + (-1)) (by omega) (by omega) (by omega) (by omega) (by rw [hi2]; congr 1; omega) (by obtain ⟨v9, v1, v2, v3⟩ := hx61; exact SF9_a hsf2 v3 ha8 (by omega)) (fun w9 h9 h8 => by obtain ⟨v9, v1, v2, v3⟩ := hx61; rw [ht3] at v1; rw [List.nil_append] at v2; by_cases q9 : w9 = x4.toNat; { subst q9; have q8 : (rwV X al ty nv N a.toNat x4.toNat) = v9 := (by unfold rwV; refine vAt_of ?_; rw [← hi6, Nat.add_comm]; exact vL_at (by omega) (by rw [show (x7 - 1).toNat + 1 = x7.toNat by omega]; exact v1)); rw [q8, ← ha8]; exact v2 }; { have q7 := hi4 w9 (by omega) h8; refine ⟨?_, fun x hx => ?_⟩; { rw [v3.2 _ _ (by omega) (by omega), hw47.2 _ _ (fun q6 => by have := q6.1; omega)]; exact q7.1 }; { rw [v3.2 _ _ (by omega) (by omega), hw47.2 _ _ (fun q6 => by have := q6.1; omega)]; exact q7.2 x hx } }) (by omega)
        · refine k_run 0 (pc' := 72) (l' := [(0, .inr (.inr 372)), (1, .inr (.inr e)), (2, .inl a), (3, .inl x3), (4, .inl x4), (5, .inl x5), (6, .inl x6), (7, .inl x7)]) (st' := []) rfl ?_
          refine k_run 3 (pc' := 76) (l' := [(0, .inr (.inr 372)), (1, .inr (.inr e)), (2, .inl a), (3, .inl x3), (4, .inl x4), (5, .inl x5), (6, .inl x6), (7, .inl x7)]) (st' := [.inr (.inr e), .inr (.inr 372), .inl x6]) rfl ?_
          refine k_get (a := e) (x := (kEo e)) (v := .inr (.inr (e + 5))) rfl rfl he.1 (iE0 he) rfl rfl rfl ?_
          refine k_run 0 (pc' := 79) (l' := [(0, .inr (.inr 372)), (1, .inr (.inr e)), (2, .inl a), (3, .inl x3), (4, .inl x4), (5, .inl x5), (6, .inl x6), (7, .inl x7)]) (st' := [.inr (.inr (e + 5)), .inr (.inr 372), .inl x6]) rfl ?_
          refine k_run 1 (pc' := 81) (l' := [(0, .inr (.inr 372)), (1, .inr (.inr e)), (2, .inl a), (3, .inl x3), (4, .inl x4), (5, .inl x5), (6, .inl x6), (7, .inl x7)]) (st' := [.inl x4, .inr (.inr (e + 5)), .inr (.inr 372), .inl x6]) rfl ?_
          refine k_ild (c := (e + 5)) (j := (x4).toNat) (i := x4) (x := kEt) rfl he.2.1 (iE5 he) rfl (by decide) (by omega) (by omega) ?_
          refine k_run 0 (pc' := 82) (l' := [(0, .inr (.inr 372)), (1, .inr (.inr e)), (2, .inl a), (3, .inl x3), (4, .inl x4), (5, .inl x5), (6, .inl x6), (7, .inl x7)]) (st' := [.inl (H1.1 (e + 5) (x4).toNat), .inr (.inr 372), .inl x6]) rfl ?_
          refine k_run 1 (pc' := 84) (l' := [(0, .inr (.inr 372)), (1, .inr (.inr e)), (2, .inl a), (3, .inl x3), (4, .inl x4), (5, .inl x5), (6, .inl x6), (7, .inl x7)]) (st' := [.inl x7, .inl (H1.1 (e + 5) (x4).toNat), .inr (.inr 372), .inl x6]) rfl ?_
          refine h_cv (i := 153) (j := 108) (b := 372) (M' := mt_108) (xs := [.inl x7, .inl (H1.1 (e + 5) (x4).toNat)]) (rest := [.inl x6]) rfl rfl rfl rfl (zs_K (x := kx_372) rfl (by decide)) rfl (Nat.le_of_ble_eq_true rfl) (Nat.le_of_ble_eq_true rfl) (by omega) (qv_valuesOf (by omega) hI1 (by omega) (by omega) (by omega) (by omega)) ?_
          rintro _ _ ⟨z69, rfl, g63, rfl⟩
          refine k_run 0 (pc' := 87) (l' := [(0, .inr (.inr 372)), (1, .inr (.inr e)), (2, .inl a), (3, .inl x3), (4, .inl x4), (5, .inl x5), (6, .inl x6), (7, .inl x7)]) (st' := [.inl z69, .inl x6]) rfl ?_
          have hz84 : z69 = (((vv X al x7.toNat (ty x4.toNat)).length : Nat) : Int) := by rw [g63.2, ht1, KV_v hV1 (by omega) (by omega)]; show ((cp _ : Nat) : Int) = _; rw [cp_ex (Nat.le_trans (cp_le_self _) hle2)]
          refine k_run 4 (pc' := 47) (l' := [(0, .inr (.inr 372)), (1, .inr (.inr e)), (2, .inl a), (3, .inl x3), (4, .inl x4), (5, .inl x5), (6, .inl (x6 - z69)), (7, .inl (x7 + 1))]) (st' := []) rfl ?_
          rw [hQ9]
          exact ih.2 H1 hI1 hf1 x3 x4 x5 (x6 - z69) (x7 + 1) (by omega) (by omega) (by omega) (by omega) (by omega) (by omega) (by omega) hi2 hsf hi4 (by omega) (by rw [show (x7 + 1 - 1).toNat = (x7 - 1).toNat + 1 by omega]; show _ + (sumN (fun i => (vv X al (i + 1) (ty x4.toNat)).length) (x7 - 1).toNat + (vv X al ((x7 - 1).toNat + 1) (ty x4.toNat)).length) = _; rw [show (x7 - 1).toNat + 1 = x7.toNat by omega]; omega) (by omega) (by omega)
set_option maxRecDepth 100000 in
theorem qv_setValues {X : rx} {al : Bool} {nv N : Nat} {ty : Nat → Int} {d : Nat} (hd : 19 ≤ d) {H : hp} (hI : Inv H) {e : Nat} {a : Int} (he : isE e) (ha : -2147483648 ≤ a ∧ a ≤ 2147483647) (hp0 : 0 ≤ a ∧ a ≤ 2000) (hX : CT9 X) (he9 : e + 5 < 366) (hT : TC H X) (hal : ((al = false → H.1 372 9 = 0) ∧ (al = true → H.1 372 9 = 1))) (hV : KV H X al N) (hN6 : N ≤ 6) (hL : LV9 H X e nv ty) (hvr : VR9 H) (htt : ∀ v : Nat, v < nv → H.1 375 v = (((tot9 X al ty N) v : Nat) : Int) ∧ 1 ≤ (tot9 X al ty N) v ∧ (tot9 X al ty N) v ≤ 2000) : hG (zs zK) d mt_111 0 (zargs 0 [.inr (.inr 372), .inr (.inr e), .inl a]) [] H (fun r9 H9 => r9 = none ∧ Inv H9 ∧ fq [] [] false H H9 ∧ ((∀ w : Nat, w < nv → CM H9 (382 + 4 * w) X (rwV X al ty nv N a.toNat w).length (ga (rwV X al ty nv N a.toNat w))) ∧ SF9 H H9)) := by
  have hL01 := hL.1
  obtain ⟨Q9, hQ9⟩ : ∃ Q9 : Option zv → hp → Prop, Q9 = (fun r9 H9 => r9 = none ∧ Inv H9 ∧ fq [] [] false H H9 ∧ ((∀ w : Nat, w < nv → CM H9 (382 + 4 * w) X (rwV X al ty nv N a.toNat w).length (ga (rwV X al ty nv N a.toNat w))) ∧ SF9 H H9)) := ⟨_, rfl⟩
  rw [← hQ9]
  refine k_run 0 (pc' := 0) (l' := [(0, .inr (.inr 372)), (1, .inr (.inr e)), (2, .inl a)]) (st' := []) rfl ?_
  refine k_run 3 (pc' := 3) (l' := [(0, .inr (.inr 372)), (1, .inr (.inr e)), (2, .inl a), (3, .inl a)]) (st' := [.inr (.inr e)]) rfl ?_
  refine k_get (a := e) (x := (kEo e)) (v := .inl (H.1 e 3)) rfl rfl he.1 (iE0 he) rfl rfl rfl ?_
  have g1 : 0 ≤ (H.1 e 3) ∧ (H.1 e 3) ≤ 40 := kn hI he.1 3
  refine k_run 0 (pc' := 6) (l' := [(0, .inr (.inr 372)), (1, .inr (.inr e)), (2, .inl a), (3, .inl a)]) (st' := [.inl (H.1 e 3)]) rfl ?_
  refine k_run 1 (pc' := 8) (l' := [(0, .inr (.inr 372)), (1, .inr (.inr e)), (2, .inl a), (3, .inl a)]) (st' := [.inl 6, .inl (H.1 e 3)]) rfl ?_
  refine k_min (i := 101) (x := (H.1 e 3)) (y := 6) rfl rfl (Nat.le_of_ble_eq_true rfl) (by omega) (by omega) (by decide) (fun z2 hz2 => ?_)
  refine k_run 0 (pc' := 11) (l' := [(0, .inr (.inr 372)), (1, .inr (.inr e)), (2, .inl a), (3, .inl a)]) (st' := [.inl z2]) rfl ?_
  refine k_run 3 (pc' := 15) (l' := [(0, .inr (.inr 372)), (1, .inr (.inr e)), (2, .inl a), (3, .inl a), (4, .inl (z2 - 1))]) (st' := []) rfl ?_
  rw [hQ9]
  exact (qv_setValues_cut hd hI he ha hp0 hX he9 hT hal hV hN6 hL hvr htt _).1 H hI (fq_rf _ _ _ _) a (z2 - 1) (by omega) (by omega) (by omega) (by omega) (by rw [show ((nv : Int) - 1 - ((z2 - 1))).toNat = 0 by omega]; rfl) (SF9_rf _) (fun w9 h9 h8 => absurd h9 (by omega)) (Nat.lt_succ_self _)

theorem sl_ga (l : List Int) : sl (ga l) 0 l.length = l := by
  refine list_ga (by rw [sl_len, Nat.sub_zero]) (fun x hx => ?_)
  rw [sl_len] at hx
  rw [sl_at _ hx, Nat.zero_add]

/-! Trial.fill -/
set_option maxRecDepth 100000 in
theorem qv_fill_cut {X : rx} {ar : Int → Int} {cn fn : Int} {sd : Nat → Int} {k nv : Nat} {vs : Nat → List Int} {d : Nat} (hd : 2 ≤ d) {H : hp} (hI : Inv H) {t n : Nat} {u m : Nat} (ht : isT t n) (hu : isT u m) (ht9 : t + 1 < 366) (hu9 : u = 378 ∨ u = 380) (hm9 : m = 240) (hS9 : CM H t X k sd) (hk9 : k ≤ 40) (hK : ∀ s, m_sg cn fn 40 s → KF9 X s ∧ aC (kcd X s) = ar s) (hsg : ∀ x : Nat, x < k → m_sg cn fn 40 (sd x) ∧ (1000 ≤ sd x → (sd x - 1000).toNat < nv)) (hnv6 : nv ≤ 6) (hvr : VR9 H) (hvs : ∀ v : Nat, v < nv → CM H (382 + 4 * v) X (vs v).length (ga (vs v))) (hv6 : ∀ v, (vs v).length ≤ 6) : ∀ w : Nat, (∀ (H1 : hp), Inv H1 → fq [] [] false H H1 → ∀ (x3 : Int) , (-2147483648 ≤ x3 ∧ x3 ≤ 2147483647) → (0 ≤ x3 ∧ x3 ≤ k) → (CM H1 u X (fil sd vs x3.toNat).length (ga (fil sd vs x3.toNat)) ∧ AF u H H1) → (((1000 - x3).toNat) < w) → hG (zs zK) d mt_105 7 [(0, .inr (.inr 372)), (1, .inr (.inr t)), (2, .inr (.inr u)), (3, .inl x3)] [] H1 (fun r9 H9 => r9 = none ∧ Inv H9 ∧ fq [] [] false H H9 ∧ (CM H9 u X (fil sd vs k).length (ga (fil sd vs k)) ∧ AF u H H9))) := by
  intro w
  induction w with
  | zero => exact fun _ _ _ _ _ _ _ h => absurd h (Nat.not_lt_zero _)
  | succ w ih =>
    intro H1 hI1 hf1 x3 hx3 hi0 hi1 hw
    have htb := ht.2.2.2.2
    have hub := hu.2.2.2.2
    obtain ⟨Q9, hQ9⟩ : ∃ Q9 : Option zv → hp → Prop, Q9 = (fun r9 H9 => r9 = none ∧ Inv H9 ∧ fq [] [] false H H9 ∧ (CM H9 u X (fil sd vs k).length (ga (fil sd vs k)) ∧ AF u H H9)) := ⟨_, rfl⟩
    rw [← hQ9]
    have hS91 := hS9.1
    have hS1 : CM H1 t X k sd := ⟨(hi1.2.2 t 1 (by omega) (by omega)).trans hS9.1, fun x hx => (hi1.2.2 (t + 1) x (by omega) (by omega)).trans (hS9.2 x hx)⟩
    have hU1 := hi1.1.1
    have hS11 := hS1.1
    have hfl := fil_ln (a := sd) hv6 x3.toNat
    have hvr1 : VR9 H1 := fun v hv => by rw [hi1.2.1]; exact hvr v hv
    refine k_run 2 (pc' := 9) (l' := [(0, .inr (.inr 372)), (1, .inr (.inr t)), (2, .inr (.inr u)), (3, .inl x3)]) (st' := [.inr (.inr t), .inl x3]) rfl ?_
    refine k_get (a := t) (x := (kTo t n)) (v := .inl (H1.1 t 1)) rfl rfl ht.1 (iT0 ht) rfl rfl rfl ?_
    have g6 : 0 ≤ (H1.1 t 1) ∧ (H1.1 t 1) ≤ n := kn hI1 ht.1 1
    refine k_run 0 (pc' := 12) (l' := [(0, .inr (.inr 372)), (1, .inr (.inr t)), (2, .inr (.inr u)), (3, .inl x3)]) (st' := [.inl (H1.1 t 1), .inl x3]) rfl ?_
    refine h_ige (off := 79) (t := 91) rfl rfl (by omega) (by omega) (fun c7 => ?_) (fun c7 => ?_)
    · refine k_run 0 (pc' := 91) (l' := [(0, .inr (.inr 372)), (1, .inr (.inr t)), (2, .inr (.inr u)), (3, .inl x3)]) (st' := []) rfl ?_
      refine h_ret rfl rfl ?_
      rw [hQ9]
      exact ⟨rfl, hI1, hf1, (by first | (exfalso; omega) | exact (by rw [show k = x3.toNat by omega]; exact hi1))⟩
    · refine k_run 0 (pc' := 15) (l' := [(0, .inr (.inr 372)), (1, .inr (.inr t)), (2, .inr (.inr u)), (3, .inl x3)]) (st' := []) rfl ?_
      obtain ⟨hsg9, hvb9⟩ := hsg x3.toNat (by omega)
      have eT : H1.1 (t + 1) x3.toNat = kcd X (sd x3.toNat) := hS1.2 _ (by omega)
      obtain ⟨kf2, -⟩ := hK _ hsg9
      unfold KF9 at kf2
      rw [← eT] at kf2
      refine k_run 1 (pc' := 16) (l' := [(0, .inr (.inr 372)), (1, .inr (.inr t)), (2, .inr (.inr u)), (3, .inl x3)]) (st' := [.inr (.inr t)]) rfl ?_
      refine k_get (a := t) (x := (kTo t n)) (v := .inr (.inr (t + 1))) rfl rfl ht.1 (iT0 ht) rfl rfl rfl ?_
      refine k_run 0 (pc' := 19) (l' := [(0, .inr (.inr 372)), (1, .inr (.inr t)), (2, .inr (.inr u)), (3, .inl x3)]) (st' := [.inr (.inr (t + 1))]) rfl ?_
      refine k_run 1 (pc' := 20) (l' := [(0, .inr (.inr 372)), (1, .inr (.inr t)), (2, .inr (.inr u)), (3, .inl x3)]) (st' := [.inl x3, .inr (.inr (t + 1))]) rfl ?_
      refine k_ild (c := (t + 1)) (j := (x3).toNat) (i := x3) (x := (kTc n)) rfl ht.2.1 (iT1 ht) rfl (by omega) (by omega) (by omega) ?_
      have g8 : -2147483648 ≤ (H1.1 (t + 1) (x3).toNat) ∧ (H1.1 (t + 1) (x3).toNat) ≤ 2147483647 := kn hI1 ht.2.1 (x3).toNat
      refine k_run 0 (pc' := 21) (l' := [(0, .inr (.inr 372)), (1, .inr (.inr t)), (2, .inr (.inr u)), (3, .inl x3)]) (st' := [.inl (H1.1 (t + 1) (x3).toNat)]) rfl ?_
      refine h_cs (i := 114) (j := 50) (M' := mt_50) (xs := [.inl (H1.1 (t + 1) (x3).toNat)]) (rest := []) rfl rfl rfl rfl rfl (Nat.le_of_ble_eq_true rfl) (Nat.le_of_ble_eq_true rfl) (by omega) (q_Term_indexOf (by omega)  (by omega)) ?_
      rintro _ _ ⟨z15, rfl, g9, hx14, rfl⟩
      refine k_run 0 (pc' := 24) (l' := [(0, .inr (.inr 372)), (1, .inr (.inr t)), (2, .inr (.inr u)), (3, .inl x3)]) (st' := [.inl z15]) rfl ?_
      refine k_run 2 (pc' := 27) (l' := [(0, .inr (.inr 372)), (1, .inr (.inr t)), (2, .inr (.inr u)), (3, .inl x3), (4, .inl z15)]) (st' := [.inr (.inr t)]) rfl ?_
      refine k_get (a := t) (x := (kTo t n)) (v := .inr (.inr (t + 1))) rfl rfl ht.1 (iT0 ht) rfl rfl rfl ?_
      refine k_run 0 (pc' := 30) (l' := [(0, .inr (.inr 372)), (1, .inr (.inr t)), (2, .inr (.inr u)), (3, .inl x3), (4, .inl z15)]) (st' := [.inr (.inr (t + 1))]) rfl ?_
      refine k_run 1 (pc' := 31) (l' := [(0, .inr (.inr 372)), (1, .inr (.inr t)), (2, .inr (.inr u)), (3, .inl x3), (4, .inl z15)]) (st' := [.inl x3, .inr (.inr (t + 1))]) rfl ?_
      refine k_ild (c := (t + 1)) (j := (x3).toNat) (i := x3) (x := (kTc n)) rfl ht.2.1 (iT1 ht) rfl (by omega) (by omega) (by omega) ?_
      refine k_run 0 (pc' := 32) (l' := [(0, .inr (.inr 372)), (1, .inr (.inr t)), (2, .inr (.inr u)), (3, .inl x3), (4, .inl z15)]) (st' := [.inl (H1.1 (t + 1) (x3).toNat)]) rfl ?_
      refine h_cs (i := 118) (j := 49) (M' := mt_49) (xs := [.inl (H1.1 (t + 1) (x3).toNat)]) (rest := []) rfl rfl rfl rfl rfl (Nat.le_of_ble_eq_true rfl) (Nat.le_of_ble_eq_true rfl) (by omega) (q_Term_kindOf (by omega)  (by omega)) ?_
      rintro _ _ ⟨z22, rfl, g16, hx21, rfl⟩
      refine k_run 0 (pc' := 35) (l' := [(0, .inr (.inr 372)), (1, .inr (.inr t)), (2, .inr (.inr u)), (3, .inl x3), (4, .inl z15)]) (st' := [.inl z22]) rfl ?_
      refine k_run 1 (pc' := 36) (l' := [(0, .inr (.inr 372)), (1, .inr (.inr t)), (2, .inr (.inr u)), (3, .inl x3), (4, .inl z15)]) (st' := [.inl 3, .inl z22]) rfl ?_
      refine h_ine (off := 39) (t := 75) rfl rfl (by omega) (by decide) (fun c23 => ?_) (fun c23 => ?_)
      · refine k_run 0 (pc' := 75) (l' := [(0, .inr (.inr 372)), (1, .inr (.inr t)), (2, .inr (.inr u)), (3, .inl x3), (4, .inl z15)]) (st' := []) rfl ?_
        refine k_run 2 (pc' := 77) (l' := [(0, .inr (.inr 372)), (1, .inr (.inr t)), (2, .inr (.inr u)), (3, .inl x3), (4, .inl z15)]) (st' := [.inr (.inr t), .inr (.inr u)]) rfl ?_
        refine k_get (a := t) (x := (kTo t n)) (v := .inr (.inr (t + 1))) rfl rfl ht.1 (iT0 ht) rfl rfl rfl ?_
        refine k_run 0 (pc' := 80) (l' := [(0, .inr (.inr 372)), (1, .inr (.inr t)), (2, .inr (.inr u)), (3, .inl x3), (4, .inl z15)]) (st' := [.inr (.inr (t + 1)), .inr (.inr u)]) rfl ?_
        refine k_run 1 (pc' := 81) (l' := [(0, .inr (.inr 372)), (1, .inr (.inr t)), (2, .inr (.inr u)), (3, .inl x3), (4, .inl z15)]) (st' := [.inl x3, .inr (.inr (t + 1)), .inr (.inr u)]) rfl ?_
        refine k_ild (c := (t + 1)) (j := (x3).toNat) (i := x3) (x := (kTc n)) rfl ht.2.1 (iT1 ht) rfl (by omega) (by omega) (by omega) ?_
        refine k_run 0 (pc' := 82) (l' := [(0, .inr (.inr 372)), (1, .inr (.inr t)), (2, .inr (.inr u)), (3, .inl x3), (4, .inl z15)]) (st' := [.inl (H1.1 (t + 1) (x3).toNat), .inr (.inr u)]) rfl ?_
        refine h_cv (i := 125) (j := 52) (b := u) (M' := mt_52) (xs := [.inl (H1.1 (t + 1) (x3).toNat)]) (rest := []) rfl rfl rfl rfl (by rw [zs_K hu.1 (iT0 hu)]; rfl) rfl (Nat.le_of_ble_eq_true rfl) (Nat.le_of_ble_eq_true rfl) (by omega) (q_Term_put (by omega) hI1 hu (by omega) (by omega)) ?_
        rintro _ H25 ⟨rfl, hI26, hq27, hp28, hx29⟩
        have hf30 : fq [] [] false H H25 := fq_t hf1 hq27 rfl rfl rfl
        refine k_run 0 (pc' := 85) (l' := [(0, .inr (.inr 372)), (1, .inr (.inr t)), (2, .inr (.inr u)), (3, .inl x3), (4, .inl z15)]) (st' := []) rfl ?_
        refine k_run 2 (pc' := 7) (l' := [(0, .inr (.inr 372)), (1, .inr (.inr t)), (2, .inr (.inr u)), (3, .inl (x3 + 1)), (4, .inl z15)]) (st' := []) rfl ?_
        refine h_loc [0, 1, 2, 3] rfl ?_
        rw [hQ9]
        exact ih H25 hI26 hf30 (x3 + 1) (by omega) (by omega) (by have q8 : ¬ 1000 ≤ sd x3.toNat := (by intro q7; have q6 := hvb9 q7; omega); obtain ⟨c1, c2⟩ := CM_put (s := sd x3.toNat) hi1.1 hp28 hx29 eT; have q9 : fil sd vs (x3.toNat + 1) = (fil sd vs x3.toNat) ++ [sd x3.toNat] := (by show _ ++ (if 1000 ≤ sd x3.toNat then _ else _) = _; rw [if_neg q8]); rw [show (x3 + 1).toNat = x3.toNat + 1 by omega, q9]; exact ⟨c1, AF_tr hi1.2 c2⟩) (by omega)
      · refine k_run 0 (pc' := 39) (l' := [(0, .inr (.inr 372)), (1, .inr (.inr t)), (2, .inr (.inr u)), (3, .inl x3), (4, .inl z15)]) (st' := []) rfl ?_
        refine k_run 3 (pc' := 45) (l' := [(0, .inr (.inr 372)), (1, .inr (.inr t)), (2, .inr (.inr u)), (3, .inl x3), (4, .inl z15)]) (st' := [.inr (.inr 376), .inl z15]) rfl ?_
        refine k_alen (c := 376) (x := kx_376) rfl rfl (by decide) rfl ?_
        refine k_run 0 (pc' := 46) (l' := [(0, .inr (.inr 372)), (1, .inr (.inr t)), (2, .inr (.inr u)), (3, .inl x3), (4, .inl z15)]) (st' := [.inl 6, .inl z15]) rfl ?_
        refine h_ige (off := 29) (t := 75) rfl rfl (by omega) (by decide) (fun c31 => ?_) (fun c31 => ?_)
        · refine k_run 0 (pc' := 75) (l' := [(0, .inr (.inr 372)), (1, .inr (.inr t)), (2, .inr (.inr u)), (3, .inl x3), (4, .inl z15)]) (st' := []) rfl ?_
          refine k_run 2 (pc' := 77) (l' := [(0, .inr (.inr 372)), (1, .inr (.inr t)), (2, .inr (.inr u)), (3, .inl x3), (4, .inl z15)]) (st' := [.inr (.inr t), .inr (.inr u)]) rfl ?_
          refine k_get (a := t) (x := (kTo t n)) (v := .inr (.inr (t + 1))) rfl rfl ht.1 (iT0 ht) rfl rfl rfl ?_
          refine k_run 0 (pc' := 80) (l' := [(0, .inr (.inr 372)), (1, .inr (.inr t)), (2, .inr (.inr u)), (3, .inl x3), (4, .inl z15)]) (st' := [.inr (.inr (t + 1)), .inr (.inr u)]) rfl ?_
          refine k_run 1 (pc' := 81) (l' := [(0, .inr (.inr 372)), (1, .inr (.inr t)), (2, .inr (.inr u)), (3, .inl x3), (4, .inl z15)]) (st' := [.inl x3, .inr (.inr (t + 1)), .inr (.inr u)]) rfl ?_
          refine k_ild (c := (t + 1)) (j := (x3).toNat) (i := x3) (x := (kTc n)) rfl ht.2.1 (iT1 ht) rfl (by omega) (by omega) (by omega) ?_
          refine k_run 0 (pc' := 82) (l' := [(0, .inr (.inr 372)), (1, .inr (.inr t)), (2, .inr (.inr u)), (3, .inl x3), (4, .inl z15)]) (st' := [.inl (H1.1 (t + 1) (x3).toNat), .inr (.inr u)]) rfl ?_
          refine h_cv (i := 125) (j := 52) (b := u) (M' := mt_52) (xs := [.inl (H1.1 (t + 1) (x3).toNat)]) (rest := []) rfl rfl rfl rfl (by rw [zs_K hu.1 (iT0 hu)]; rfl) rfl (Nat.le_of_ble_eq_true rfl) (Nat.le_of_ble_eq_true rfl) (by omega) (q_Term_put (by omega) hI1 hu (by omega) (by omega)) ?_
          rintro _ H33 ⟨rfl, hI34, hq35, hp36, hx37⟩
          have hf38 : fq [] [] false H H33 := fq_t hf1 hq35 rfl rfl rfl
          refine k_run 0 (pc' := 85) (l' := [(0, .inr (.inr 372)), (1, .inr (.inr t)), (2, .inr (.inr u)), (3, .inl x3), (4, .inl z15)]) (st' := []) rfl ?_
          refine k_run 2 (pc' := 7) (l' := [(0, .inr (.inr 372)), (1, .inr (.inr t)), (2, .inr (.inr u)), (3, .inl (x3 + 1)), (4, .inl z15)]) (st' := []) rfl ?_
          refine h_loc [0, 1, 2, 3] rfl ?_
          rw [hQ9]
          exact ih H33 hI34 hf38 (x3 + 1) (by omega) (by omega) (by have q8 : ¬ 1000 ≤ sd x3.toNat := (by intro q7; have q6 := hvb9 q7; omega); obtain ⟨c1, c2⟩ := CM_put (s := sd x3.toNat) hi1.1 hp36 hx37 eT; have q9 : fil sd vs (x3.toNat + 1) = (fil sd vs x3.toNat) ++ [sd x3.toNat] := (by show _ ++ (if 1000 ≤ sd x3.toNat then _ else _) = _; rw [if_neg q8]); rw [show (x3 + 1).toNat = x3.toNat + 1 by omega, q9]; exact ⟨c1, AF_tr hi1.2 c2⟩) (by omega)
        · refine k_run 0 (pc' := 49) (l' := [(0, .inr (.inr 372)), (1, .inr (.inr t)), (2, .inr (.inr u)), (3, .inl x3), (4, .inl z15)]) (st' := []) rfl ?_
          refine k_run 4 (pc' := 56) (l' := [(0, .inr (.inr 372)), (1, .inr (.inr t)), (2, .inr (.inr u)), (3, .inl x3), (4, .inl z15)]) (st' := [.inl z15, .inr (.inr 376), .inr (.inr u)]) rfl ?_
          refine k_ald (c := 376) (j := (z15).toNat) (i := z15) (x := kx_376) rfl rfl (by decide) rfl (by decide) (by omega) (by omega) hI1 (fun h39 => ?_)
          obtain ⟨t40, et42⟩ : ∃ t9, t9 = H1.2 376 (z15).toNat := ⟨_, rfl⟩
          rw [← et42] at h39 ⊢
          obtain ⟨n43, k41⟩ := (show (∃ n, isT t40 n) ∧ 369 < t40 from h39).1
          have k41b := k41.2.2.2.2
          refine k_run 0 (pc' := 57) (l' := [(0, .inr (.inr 372)), (1, .inr (.inr t)), (2, .inr (.inr u)), (3, .inl x3), (4, .inl z15)]) (st' := [.inr (.inr t40), .inr (.inr u)]) rfl ?_
          have hsv : 1000 ≤ sd x3.toNat := by omega
          have hix : z15 = sd x3.toNat - 1000 := by omega
          have hvb := hvb9 hsv
          have ha9 : t40 = 382 + 4 * (sd x3.toNat - 1000).toNat := by rw [et42, show (z15).toNat = (sd x3.toNat - 1000).toNat by omega]; exact hvr1 _ (by omega)
          have hMv : CM H1 t40 X (vs (sd x3.toNat - 1000).toNat).length (ga (vs (sd x3.toNat - 1000).toNat)) := by rw [ha9]; have q9 := hvs _ hvb; exact ⟨(hi1.2.2 _ _ (by omega) (by omega)).trans q9.1, fun x hx => (hi1.2.2 _ _ (by omega) (by omega)).trans (q9.2 x hx)⟩
          have hMv1 := hMv.1
          have hvl := hv6 (sd x3.toNat - 1000).toNat
          refine k_run 4 (pc' := 64) (l' := [(0, .inr (.inr 372)), (1, .inr (.inr t)), (2, .inr (.inr u)), (3, .inl x3), (4, .inl z15)]) (st' := [.inl z15, .inr (.inr 376), .inl 0, .inr (.inr t40), .inr (.inr u)]) rfl ?_
          refine k_ald (c := 376) (j := (z15).toNat) (i := z15) (x := kx_376) rfl rfl (by decide) rfl (by decide) (by omega) (by omega) hI1 (fun h44 => ?_)
          rw [← et42]
          refine k_run 0 (pc' := 65) (l' := [(0, .inr (.inr 372)), (1, .inr (.inr t)), (2, .inr (.inr u)), (3, .inl x3), (4, .inl z15)]) (st' := [.inr (.inr t40), .inl 0, .inr (.inr t40), .inr (.inr u)]) rfl ?_
          refine k_get (a := t40) (x := (kTo t40 n43)) (v := .inl (H1.1 t40 1)) rfl rfl k41.1 (iT0 k41) rfl rfl rfl ?_
          have g45 : 0 ≤ (H1.1 t40 1) ∧ (H1.1 t40 1) ≤ n43 := kn hI1 k41.1 1
          refine k_run 0 (pc' := 68) (l' := [(0, .inr (.inr 372)), (1, .inr (.inr t)), (2, .inr (.inr u)), (3, .inl x3), (4, .inl z15)]) (st' := [.inl (H1.1 t40 1), .inl 0, .inr (.inr t40), .inr (.inr u)]) rfl ?_
          refine h_cv (i := 121) (j := 54) (b := u) (M' := mt_54) (xs := [.inl (H1.1 t40 1), .inl 0, .inr (.inr t40)]) (rest := []) rfl rfl rfl rfl (by rw [zs_K hu.1 (iT0 hu)]; rfl) rfl (Nat.le_of_ble_eq_true rfl) (Nat.le_of_ble_eq_true rfl) (by omega) (qb_append (by omega) hI1 hu k41 (by decide) (by omega) (by omega)) ?_
          rintro _ H47 ⟨z52, rfl, g46, hI48, hq49, hx51⟩
          have hf53 : fq [] [] false H H47 := fq_t hf1 hq49 rfl rfl rfl
          refine k_run 0 (pc' := 71) (l' := [(0, .inr (.inr 372)), (1, .inr (.inr t)), (2, .inr (.inr u)), (3, .inl x3), (4, .inl z15)]) (st' := [.inl z52]) rfl ?_
          refine k_run 4 (pc' := 7) (l' := [(0, .inr (.inr 372)), (1, .inr (.inr t)), (2, .inr (.inr u)), (3, .inl (x3 + 1)), (4, .inl z15)]) (st' := []) rfl ?_
          refine h_loc [0, 1, 2, 3] rfl ?_
          rw [hQ9]
          exact ih H47 hI48 hf53 (x3 + 1) (by omega) (by omega) (by have ap := (hx51.resolve_right (fun q9 => by have q8 := q9.1; omega)).2.2; have q9 : fil sd vs (x3.toNat + 1) = (fil sd vs x3.toNat) ++ sl (ga (vs (sd x3.toNat - 1000).toNat)) 0 (vs (sd x3.toNat - 1000).toNat).length := (by show _ ++ (if 1000 ≤ sd x3.toNat then _ else _) = _; rw [if_pos hsv, sl_ga]); rw [show (x3 + 1).toNat = x3.toNat + 1 by omega, q9]; exact ⟨CM_app (N := (vs (sd x3.toNat - 1000).toNat).length) hi1.1 ap hMv.2 rfl (by omega) (by omega), AF_tr hi1.2 ap.2.2.2⟩) (by omega)
set_option maxRecDepth 100000 in
theorem qv_fill {X : rx} {ar : Int → Int} {cn fn : Int} {sd : Nat → Int} {k nv : Nat} {vs : Nat → List Int} {d : Nat} (hd : 2 ≤ d) {H : hp} (hI : Inv H) {t n : Nat} {u m : Nat} (ht : isT t n) (hu : isT u m) (ht9 : t + 1 < 366) (hu9 : u = 378 ∨ u = 380) (hm9 : m = 240) (hS9 : CM H t X k sd) (hk9 : k ≤ 40) (hK : ∀ s, m_sg cn fn 40 s → KF9 X s ∧ aC (kcd X s) = ar s) (hsg : ∀ x : Nat, x < k → m_sg cn fn 40 (sd x) ∧ (1000 ≤ sd x → (sd x - 1000).toNat < nv)) (hnv6 : nv ≤ 6) (hvr : VR9 H) (hvs : ∀ v : Nat, v < nv → CM H (382 + 4 * v) X (vs v).length (ga (vs v))) (hv6 : ∀ v, (vs v).length ≤ 6) : hG (zs zK) d mt_105 0 (zargs 0 [.inr (.inr 372), .inr (.inr t), .inr (.inr u)]) [] H (fun r9 H9 => r9 = none ∧ Inv H9 ∧ fq [] [] false H H9 ∧ (CM H9 u X (fil sd vs k).length (ga (fil sd vs k)) ∧ AF u H H9)) := by
  have htb := ht.2.2.2.2
  have hub := hu.2.2.2.2
  have hS91 := hS9.1
  obtain ⟨Q9, hQ9⟩ : ∃ Q9 : Option zv → hp → Prop, Q9 = (fun r9 H9 => r9 = none ∧ Inv H9 ∧ fq [] [] false H H9 ∧ (CM H9 u X (fil sd vs k).length (ga (fil sd vs k)) ∧ AF u H H9)) := ⟨_, rfl⟩
  rw [← hQ9]
  refine k_run 0 (pc' := 0) (l' := [(0, .inr (.inr 372)), (1, .inr (.inr t)), (2, .inr (.inr u))]) (st' := []) rfl ?_
  refine k_run 2 (pc' := 2) (l' := [(0, .inr (.inr 372)), (1, .inr (.inr t)), (2, .inr (.inr u))]) (st' := [.inl 0, .inr (.inr u)]) rfl ?_
  refine k_puti (z := 0) (a := u) (x := (kTo u m)) rfl rfl hu.1 (iT0 hu) hu.2.2.1 rfl rfl rfl rfl hI (by decide) (show 0 ≤ (0 : Int) ∧ (0 : Int) ≤ m by omega) (fun H1 hI2 hw3 hv4 => ?_)
  have hf5 : fq [] [] false H H1 := fq_w (fq_rf _ _ _ _) hw3 (fpT hu)
  refine k_run 0 (pc' := 5) (l' := [(0, .inr (.inr 372)), (1, .inr (.inr t)), (2, .inr (.inr u))]) (st' := []) rfl ?_
  refine k_run 2 (pc' := 7) (l' := [(0, .inr (.inr 372)), (1, .inr (.inr t)), (2, .inr (.inr u)), (3, .inl 0)]) (st' := []) rfl ?_
  rw [hQ9]
  exact (qv_fill_cut hd hI ht hu ht9 hu9 hm9 hS9 hk9 hK hsg hnv6 hvr hvs hv6 _) H1 hI2 hf5 (0 : Int) (by decide) (by omega) ⟨CM_nil hv4, AF_w hw3⟩ (Nat.lt_succ_self _)
