/-! the reference's reading against the machine: heads, terms -/
theorem GB_t {ob ar : List Nat} {Y : yx} {m : Int} {c0 : cf} {H K : hp} {P Q : Prop} (h : GB Y m c0 H P) (f : fr ob ar H K) (h1 : ∀ c ∈ [1827, 1828, 1829, 1830, 1831, 1832, 1833, 1834, 1835, 1841], c ∉ ar) (h2 : ∀ j ∈ [1, 3, 8, 13, 19, 35, 36], j ∉ ob) (g : (H.1 1826 35) = 0 → P → Q) : GB Y m c0 K Q := by
  have e : (K.1 1826 35) = (H.1 1826 35) := f.2.2 35 (h2 _ (by decide))
  rcases h with ⟨a, b⟩ | ⟨a, b⟩
  · exact Or.inl ⟨e.trans a, g a b⟩
  · exact Or.inr ⟨by rw [e]; exact a, BD_fr b f h1 h2⟩
theorem ar_H {Y : yx} {m : Int} {H : hp} {X : rx} {s : Int} (h : RK Y m H X) (hc : (H.1 1826 3) ≤ 16) (hs : (1 ≤ s ∧ s ≤ (H.1 1826 3)) ∨ (100 ≤ s ∧ s < 100 + (H.1 1826 8))) (hf : (H.1 1826 8) ≤ 16) : ar X s = ma (H.1 1833) (H.1 1830) s := by
  have a2 := h.2.2.2.2.2.1
  have a3 := h.2.2.2.2.2.2.1
  unfold ar
  rcases hs with q | q
  · rw [if_neg (by omega), ma_c (by omega)]
    have := a2.1
    exact (a2.2 (s - 1).toNat (by omega)).2.2.1.symm
  · rw [if_pos (by omega), ma_f (by omega)]
    have := a3.1
    exact (a3.2 (s - 100).toNat (by omega)).2.1.symm
theorem aty_H {Y : yx} {m : Int} {H : hp} {X : rx} {s i : Int} (h : RK Y m H X) (hc : (H.1 1826 3) ≤ 16) (hs : (1 ≤ s ∧ s ≤ (H.1 1826 3)) ∨ (100 ≤ s ∧ s < 100 + (H.1 1826 8))) (hf : (H.1 1826 8) ≤ 16) (hi : 0 ≤ i) (h2 : i < ma (H.1 1833) (H.1 1830) s) : aty9 X s i = aty H s i := by
  have e := ar_H h hc hs hf
  have a2 := h.2.2.2.2.2.1
  have a3 := h.2.2.2.2.2.2.1
  unfold ar at e
  unfold aty9 aty
  rcases hs with q | q
  · rw [if_neg (by omega)] at e
    rw [if_neg (by omega), if_neg (by omega)]
    have := a2.1
    have b := (a2.2 (s - 1).toNat (by omega)).2.2.2 i.toNat (by omega)
    rw [show (4 * (s - 1) + i).toNat = 4 * (s - 1).toNat + i.toNat by omega, show (3 * (s - 1) + i).toNat = 3 * (s - 1).toNat + i.toNat by omega]
    exact b.symm
  · rw [if_pos (by omega)] at e
    rw [if_pos (by omega), if_pos (by omega)]
    have := a3.1
    have b := (a3.2 (s - 100).toNat (by omega)).2.2 i.toNat (by omega)
    rw [show (4 * (s - 100) + i).toNat = 4 * (s - 100).toNat + i.toNat by omega]
    exact b.symm
/-- a term is being read -/
def TG (Y : yx) (m : Int) (c0 : cf) (K : List tq) (e t0 : Int) (X : rx) (b : Nat) (wt hd fi : Int) (H : hp) : Prop := ∃ X1 : rx, rch Y c0 ((if b = 1 then [(2, me e wt, (H.1 1826 41), 1 - hd)] else []) ++ (SK e H ++ K), X1) ∧ RU Y m t0 H X1 ∧ FI t0 X1 fi ∧ (b = 1 → ((H.1 1826 40) = 0 → wt = t0) ∧ ((H.1 1826 44) = 1 → 0 ≤ wt)) ∧ sW X X1
/-- fields that the tables and the token do not look at -/
theorem RU_fr {ob ar : List Nat} {Y : yx} {m t0 : Int} {H K : hp} {X : rx} (h : RK Y m H X) (hv : VR H X) (f : fr ob ar H K) (h1 : ∀ c ∈ 1848 :: 1849 :: 1850 :: 1851 :: [1827, 1828, 1829, 1830, 1831, 1832, 1833, 1834, 1835, 1841], c ∉ ar) (h2 : ∀ j ∈ 29 :: 30 :: 31 :: 32 :: 33 :: 35 :: 39 :: 40 :: 43 :: 44 :: [1, 3, 8, 13, 19], j ∉ ob) (hb : B0 t0 K) (hr : RD H X) : RU Y m t0 K X := by
  refine ⟨RK_fr h f (fun c hc => h1 c (by simp only [List.mem_cons, List.not_mem_nil, or_false] at hc ⊢; omega)) (fun j hj => h2 j (by simp only [List.mem_cons, List.not_mem_nil, or_false] at hj ⊢; omega)), ?_, hb, RD_same hr rfl rfl (f.2.2 43 (h2 _ (by decide))) (f.2.1 1851 (by decide) (h1 _ (by decide)))⟩
  unfold VR
  rw [f.2.2 39 (h2 _ (by decide)), f.2.2 40 (h2 _ (by decide)), f.2.2 44 (h2 _ (by decide)), f.2.1 1849 (by decide) (h1 _ (by decide)), f.2.1 1850 (by decide) (h1 _ (by decide))]
  exact hv
theorem B0_le {t0 : Int} {H K : hp} (h : B0 t0 H) (e1 : (K.1 1826 40) = (H.1 1826 40)) (es : (K.1 1826 44) = (H.1 1826 44)) (k2 : (K.1 1826 47) ≤ (H.1 1826 47)) (k3 : (K.1 1852) = (H.1 1852)) (k5 : (K.1 1854) = (H.1 1854)) : B0 t0 K := by
  refine ⟨fun q i hi => ?_, fun q i hi => ?_⟩
  · rw [k3, k5]
    exact h.1 (by omega) i (by omega)
  · rw [k3, k5]
    exact h.2 (by omega) i (by omega)
theorem TG_1 {Y : yx} {m : Int} {c0 : cf} {K : List tq} {e t0 : Int} {wt hd fi : Int} {H : hp} {X X1 : rx} (h : rch Y c0 ((2, me e wt, (H.1 1826 41), 1 - hd) :: (SK e H ++ K), X1)) (hU : RU Y m t0 H X1) (hF : FI t0 X1 fi) (h0 : (H.1 1826 40) = 0 → wt = t0) (hy : (H.1 1826 44) = 1 → 0 ≤ wt) (hs : sW X X1) : TG Y m c0 K e t0 X 1 wt hd fi H := ⟨X1, h, hU, hF, fun _ => ⟨h0, hy⟩, hs⟩
theorem TG_0 {Y : yx} {m : Int} {c0 : cf} {K : List tq} {e t0 : Int} {wt hd fi : Int} {H : hp} {X X1 : rx} (h : rch Y c0 (SK e H ++ K, X1)) (hU : RU Y m t0 H X1) (hF : FI t0 X1 fi) (hs : sW X X1) : TG Y m c0 K e t0 X 0 wt hd fi H := ⟨X1, h, hU, hF, fun q => absurd q (by decide), hs⟩
theorem TG_g1 {Y : yx} {m : Int} {c0 : cf} {K : List tq} {e t0 : Int} {wt hd fi : Int} {H : hp} {X : rx} (h : TG Y m c0 K e t0 X 1 wt hd fi H) : ∃ X1 : rx, rch Y c0 ((2, me e wt, (H.1 1826 41), 1 - hd) :: (SK e H ++ K), X1) ∧ RU Y m t0 H X1 ∧ FI t0 X1 fi ∧ ((H.1 1826 40) = 0 → wt = t0) ∧ ((H.1 1826 44) = 1 → 0 ≤ wt) ∧ sW X X1 := h.imp (fun _ g => ⟨g.1, g.2.1, g.2.2.1, (g.2.2.2.1 rfl).1, (g.2.2.2.1 rfl).2, g.2.2.2.2⟩)
theorem TG_g0 {Y : yx} {m : Int} {c0 : cf} {K : List tq} {e t0 : Int} {wt hd fi : Int} {H : hp} {X : rx} {b : Nat} (h : TG Y m c0 K e t0 X b wt hd fi H) (hb : b = 0) : ∃ X1 : rx, rch Y c0 (SK e H ++ K, X1) ∧ RU Y m t0 H X1 ∧ FI t0 X1 fi ∧ sW X X1 := by
  subst hb
  exact h.imp (fun _ g => ⟨g.1, g.2.1, g.2.2.1, g.2.2.2.2⟩)
theorem FI_adv {t0 fi : Int} {X : rx} (h : FI t0 X fi) : FI t0 (adv X) fi := by
  have q := FH_keep (t0 := t0) (r0 := -1) (sW_adv X) (adv_s X).2.2.1 (fun _ => by rw [(adv_s X).2.2.2.2.2]) (by rw [(adv_s X).2.1]; exact Int.le_refl _) (fun q _ _ => Or.inl ⟨by rw [(adv_s X).2.1]; exact q, rfl⟩)
  replace q := q.2 fi h
  by_cases e : fi = -1
  · rw [if_pos e] at q
    rw [e]
    exact q
  · rw [if_neg e] at q
    exact q

/-! head -/
set_option maxRecDepth 100000 in
theorem n_head {zC : Nat → Option zsh} {d : Nat} (hd : 6 ≤ d) {H : hp} {t h : Int} {Y : yx} {m : Int} {c0 : cf} {K : List tq} {X : rx} {e t0 : Int} (h0 : 0 ≤ (H.1 1826 30) ∧ (H.1 1826 30) ≤ (H.1 1826 29) ∧ (H.1 1826 29) ≤ 1000) (hw : 0 ≤ (H.1 1826 35) ∧ (H.1 1826 35) ≤ 5) (hst : 0 ≤ (H.1 1826 32) ∧ (H.1 1826 32) ≤ 1000) (hw0 : (H.1 1826 35) = 0) (hP : PWc H) (hTT : TT H 1) (hso : 1 ≤ (H.1 1826 44) ∧ (H.1 1826 44) ≤ 3) (ht : -1 ≤ t ∧ t < (H.1 1826 1)) (hh : 0 ≤ h ∧ h ≤ 1) (hU : RU Y m t0 H X) (hmf : (H.1 1826 8) = m) (he : ((H.1 1826 44) = 2 ∧ e = -2) ∨ ((H.1 1826 44) ≠ 2 ∧ e = -1)) (hq : rch Y c0 ((2, me e t, (H.1 1826 41), 1 - h) :: (SK e H ++ K), X)) (hK : lkK K) (ht0 : (H.1 1826 40) = 0 → t = t0) (hty : (H.1 1826 44) = 1 → 0 ≤ t) : hG (zs zC) d mt_182 0 (zargs 0 [.inr (.inr 1826), .inl t, .inl h]) [] H (fun r H2 => (∃ r0 : Int, r = some (.inl r0) ∧ -1 ≤ r0 ∧ r0 < (H.1 1826 1) ∧ GB Y m c0 H2 (∃ X2 : rx, rch Y c0 (SK e H2 ++ K, X2) ∧ RU Y m t0 H2 X2 ∧ FH t0 X X2 r0)) ∧ fr [30, 31, 32, 33, 35, 36, 39, 40, 41, 43, 47] [1849, 1850, 1851, 1852, 1853, 1854] H H2 ∧ ((H.1 1826 30) ≤ (H2.1 1826 30) ∧ (H2.1 1826 30) ≤ (H.1 1826 29)) ∧ (0 ≤ (H2.1 1826 35) ∧ (H2.1 1826 35) ≤ 5) ∧ (0 ≤ (H2.1 1826 32) ∧ (H2.1 1826 32) ≤ 1000) ∧ ((H2.1 1826 35) = 0 → (H.1 1826 31) ≠ 0 ∧ ((H2.1 1826 31) = 0 ∨ (H.1 1826 30) < (H2.1 1826 30))) ∧ (((H.1 1826 44) ≠ 2 → (H2.1 1826 39) = (H.1 1826 39)) ∧ (H.1 1826 39) ≤ (H2.1 1826 39)) ∧ hid ((H2.1 1826 35) = 0 → TT H2 0)) := by
  refine h_rng (fun hrg0 => ?_)
  refine h_run 0 (pc' := 0) (l' := [(0, .inr (.inr 1826)), (1, .inl t), (2, .inl h)]) (st' := []) rfl ?_
  obtain ⟨⟨pb1, pb2, pb3, pb4, pb5⟩, pw1, pw2, pw3, pw4⟩ := (id hP : PW H (H.1 1826 1) (H.1 1826 3) (H.1 1826 8) (H.1 1826 13) (H.1 1826 19))
  obtain ⟨n, m9, k9, ⟨ta1, ta2, ta3, ta4⟩, ⟨tb1, tb2, tb3⟩, ⟨tc1, tc2, tc3⟩, -, -, -⟩ := id hTT
  have tcb := cb_nn (ou := (H.1 1852)) (n := n)
  have hR := hU.1
  have htk := RK_t hR
  have hme := me_or e t
  have hnm := hU.2.1.1
  have hcn4 := hR.2.2.2.2.2.1.1
  have hcn5 := hR.2.2.2.2.2.2.1.1
  have hto : ((H.1 1826 47)).toNat = n := by omega
  refine h_run 2 (pc' := 4) (l' := [(0, .inr (.inr 1826)), (1, .inl t), (2, .inl h)]) (st' := [.inl (H.1 1826 31)]) rfl ?_
  have g1 : -2147483648 ≤ (H.1 1826 31) ∧ (H.1 1826 31) ≤ 2147483647 := hrg0.1 1826 13 31 _ .int rfl rfl
  refine h_run 1 (pc' := 6) (l' := [(0, .inr (.inr 1826)), (1, .inl t), (2, .inl h)]) (st' := [.inl 40, .inl (H.1 1826 31)]) rfl ?_
  refine h_ine (off := 28) (t := 34) rfl rfl (by omega) (by decide) (fun c2 => ?_) (fun c2 => ?_)
  · refine h_run 2 (pc' := 38) (l' := [(0, .inr (.inr 1826)), (1, .inl t), (2, .inl h)]) (st' := [.inl (H.1 1826 31)]) rfl ?_
    refine h_run 1 (pc' := 40) (l' := [(0, .inr (.inr 1826)), (1, .inl t), (2, .inl h)]) (st' := [.inl 95, .inl (H.1 1826 31)]) rfl ?_
    refine h_ine (off := 43) (t := 83) rfl rfl (by omega) (by decide) (fun c3 => ?_) (fun c3 => ?_)
    · refine h_run 2 (pc' := 87) (l' := [(0, .inr (.inr 1826)), (1, .inl t), (2, .inl h)]) (st' := [.inl (H.1 1826 31)]) rfl ?_
      refine h_run 1 (pc' := 88) (l' := [(0, .inr (.inr 1826)), (1, .inl t), (2, .inl h)]) (st' := [.inl 1, .inl (H.1 1826 31)]) rfl ?_
      refine h_ieq (off := 18) (t := 106) rfl rfl (by omega) (by decide) (fun c4 => ?_) (fun c4 => ?_)
      · refine h_run 2 (pc' := 110) (l' := [(0, .inr (.inr 1826)), (1, .inl t), (2, .inl h)]) (st' := [.inl (H.1 1826 31)]) rfl ?_
        refine h_run 1 (pc' := 111) (l' := [(0, .inr (.inr 1826)), (1, .inl t), (2, .inl h)]) (st' := [.inl 2, .inl (H.1 1826 31)]) rfl ?_
        refine h_ine (off := 12) (t := 123) rfl rfl (by omega) (by decide) (fun c5 => ?_) (fun c5 => ?_)
        · refine h_run 3 (pc' := 126) (l' := [(0, .inr (.inr 1826)), (1, .inl t), (2, .inl h)]) (st' := [.inl h, .inl t, .inr (.inr 1826)]) rfl ?_
          have g6 : -2147483648 ≤ (H.1 1826 30) ∧ (H.1 1826 30) ≤ 2147483647 := hrg0.1 1826 13 30 _ .int rfl rfl
          have g7 : -2147483648 ≤ (H.1 1826 29) ∧ (H.1 1826 29) ≤ 2147483647 := hrg0.1 1826 13 29 _ .int rfl rfl
          have g8 : -2147483648 ≤ (H.1 1826 35) ∧ (H.1 1826 35) ≤ 2147483647 := hrg0.1 1826 13 35 _ .int rfl rfl
          have g9 : -2147483648 ≤ (H.1 1826 44) ∧ (H.1 1826 44) ≤ 2147483647 := hrg0.1 1826 13 44 _ .int rfl rfl
          have g10 : -2147483648 ≤ (H.1 1826 1) ∧ (H.1 1826 1) ≤ 2147483647 := hrg0.1 1826 13 1 _ .int rfl rfl
          have g11 : -2147483648 ≤ (H.1 1826 8) ∧ (H.1 1826 8) ≤ 2147483647 := hrg0.1 1826 13 8 _ .int rfl rfl
          have g13 : -2147483648 ≤ (H.1 1826 39) ∧ (H.1 1826 39) ≤ 2147483647 := hrg0.1 1826 13 39 _ .int rfl rfl
          have g14 : -2147483648 ≤ (H.1 1826 32) ∧ (H.1 1826 32) ≤ 2147483647 := hrg0.1 1826 13 32 _ .int rfl rfl
          refine h_cv (i := 373) (j := 184) (b := 1826) (M' := mt_184) (xs := [.inl h, .inl t]) (rest := []) rfl rfl rfl rfl rfl rfl (Nat.le_of_ble_eq_true rfl) (Nat.le_of_ble_eq_true rfl) (by omega) (n_small (by omega) (by omega : 0 ≤ (H.1 1826 30) ∧ (H.1 1826 30) ≤ (H.1 1826 29) ∧ (H.1 1826 29) ≤ 1000) (by omega : 0 ≤ (H.1 1826 35) ∧ (H.1 1826 35) ≤ 5) (by omega : 0 ≤ (H.1 1826 32) ∧ (H.1 1826 32) ≤ 1000) (by omega : (H.1 1826 35) = 0) hP hTT (by omega : 1 ≤ (H.1 1826 44) ∧ (H.1 1826 44) ≤ 3) (by omega) (by omega) hU (by omega : (H.1 1826 8) = m) (by omega : ((H.1 1826 44) = 2 ∧ e = -2) ∨ ((H.1 1826 44) ≠ 2 ∧ e = -1)) hq hK ht0 hty (by omega : (H.1 1826 31) = 1)) ?_
          rintro _ H12 ⟨⟨hx12r, rfl, hx12x, hx12y, hx12n⟩, hx12f, hx12a, hx12c, hx12e, hx12g, hx12v, hx12p⟩
          refine h_rng (fun hrg15 => ?_)
          have hf16 : fr [30, 31, 32, 33, 35, 36, 39, 40, 41, 43, 47] [1849, 1850, 1851, 1852, 1853, 1854] H H12 := fr_t (fr_rf _ _ _) hx12f (by decide) (by decide)
          replace hx12y : hx12r < (H.1 1826 1) := hx12y
          replace hx12a : (H.1 1826 30) ≤ (H12.1 1826 30) ∧ (H12.1 1826 30) ≤ (H.1 1826 29) := hx12a
          replace hx12g : (H12.1 1826 35) = 0 → ((H12.1 1826 31) = 0 ∨ (H.1 1826 30) < (H12.1 1826 30)) := hx12g
          have hx12o : (H12.1 1826 35) = 0 → 0 ≤ (H12.1 1826 47) ∧ (H12.1 1826 47) ≤ 60 := fun q => TT_ou (hx12p q)
          replace hx12v : ((H.1 1826 44) ≠ 2 → (H12.1 1826 39) = (H.1 1826 39)) ∧ (H.1 1826 39) ≤ (H12.1 1826 39) := hx12v
          refine h_run 0 (pc' := 129) (l' := [(0, .inr (.inr 1826)), (1, .inl t), (2, .inl h)]) (st' := [.inl hx12r]) rfl ?_
          refine h_reti (x := hx12r) rfl rfl ?_
          have g17 : -2147483648 ≤ (H12.1 1826 30) ∧ (H12.1 1826 30) ≤ 2147483647 := hrg15.1 1826 13 30 _ .int rfl rfl
          have g18 : -2147483648 ≤ (H12.1 1826 35) ∧ (H12.1 1826 35) ≤ 2147483647 := hrg15.1 1826 13 35 _ .int rfl rfl
          have g19 : -2147483648 ≤ (H12.1 1826 32) ∧ (H12.1 1826 32) ≤ 2147483647 := hrg15.1 1826 13 32 _ .int rfl rfl
          have g20 : -2147483648 ≤ (H12.1 1826 29) ∧ (H12.1 1826 29) ≤ 2147483647 := hrg15.1 1826 13 29 _ .int rfl rfl
          have e21 : (H12.1 1826 29) = (H.1 1826 29) := hx12f.2.2 29 (by decide)
          have g22 : -2147483648 ≤ (H12.1 1826 31) ∧ (H12.1 1826 31) ≤ 2147483647 := hrg15.1 1826 13 31 _ .int rfl rfl
          have g23 : -2147483648 ≤ (H12.1 1826 1) ∧ (H12.1 1826 1) ≤ 2147483647 := hrg15.1 1826 13 1 _ .int rfl rfl
          have e24 : (H12.1 1826 1) = (H.1 1826 1) := hx12f.2.2 1 (by decide)
          have g25 : -2147483648 ≤ (H12.1 1826 39) ∧ (H12.1 1826 39) ≤ 2147483647 := hrg15.1 1826 13 39 _ .int rfl rfl
          have g26 : -2147483648 ≤ (H12.1 1826 44) ∧ (H12.1 1826 44) ≤ 2147483647 := hrg15.1 1826 13 44 _ .int rfl rfl
          have e27 : (H12.1 1826 44) = (H.1 1826 44) := hx12f.2.2 44 (by decide)
          exact ⟨⟨hx12r, rfl, by omega, by omega, hx12n⟩, hf16, (by omega : (H.1 1826 30) ≤ (H12.1 1826 30) ∧ (H12.1 1826 30) ≤ (H.1 1826 29)), (by omega : 0 ≤ (H12.1 1826 35) ∧ (H12.1 1826 35) ≤ 5), (by omega : 0 ≤ (H12.1 1826 32) ∧ (H12.1 1826 32) ≤ 1000), (by omega : (H12.1 1826 35) = 0 → (H.1 1826 31) ≠ 0 ∧ ((H12.1 1826 31) = 0 ∨ (H.1 1826 30) < (H12.1 1826 30))), (by omega : ((H.1 1826 44) ≠ 2 → (H12.1 1826 39) = (H.1 1826 39)) ∧ (H.1 1826 39) ≤ (H12.1 1826 39)), hx12p⟩
        · refine h_run 3 (pc' := 117) (l' := [(0, .inr (.inr 1826)), (1, .inl t), (2, .inl h)]) (st' := [.inl h, .inl t, .inr (.inr 1826)]) rfl ?_
          have g28 : -2147483648 ≤ (H.1 1826 30) ∧ (H.1 1826 30) ≤ 2147483647 := hrg0.1 1826 13 30 _ .int rfl rfl
          have g29 : -2147483648 ≤ (H.1 1826 29) ∧ (H.1 1826 29) ≤ 2147483647 := hrg0.1 1826 13 29 _ .int rfl rfl
          have g30 : -2147483648 ≤ (H.1 1826 35) ∧ (H.1 1826 35) ≤ 2147483647 := hrg0.1 1826 13 35 _ .int rfl rfl
          have g31 : -2147483648 ≤ (H.1 1826 44) ∧ (H.1 1826 44) ≤ 2147483647 := hrg0.1 1826 13 44 _ .int rfl rfl
          have g32 : -2147483648 ≤ (H.1 1826 1) ∧ (H.1 1826 1) ≤ 2147483647 := hrg0.1 1826 13 1 _ .int rfl rfl
          have g33 : -2147483648 ≤ (H.1 1826 8) ∧ (H.1 1826 8) ≤ 2147483647 := hrg0.1 1826 13 8 _ .int rfl rfl
          have g35 : -2147483648 ≤ (H.1 1826 39) ∧ (H.1 1826 39) ≤ 2147483647 := hrg0.1 1826 13 39 _ .int rfl rfl
          have g36 : -2147483648 ≤ (H.1 1826 32) ∧ (H.1 1826 32) ≤ 2147483647 := hrg0.1 1826 13 32 _ .int rfl rfl
          refine h_cv (i := 370) (j := 183) (b := 1826) (M' := mt_183) (xs := [.inl h, .inl t]) (rest := []) rfl rfl rfl rfl rfl rfl (Nat.le_of_ble_eq_true rfl) (Nat.le_of_ble_eq_true rfl) (by omega) (n_great (by omega) (by omega : 0 ≤ (H.1 1826 30) ∧ (H.1 1826 30) ≤ (H.1 1826 29) ∧ (H.1 1826 29) ≤ 1000) (by omega : 0 ≤ (H.1 1826 35) ∧ (H.1 1826 35) ≤ 5) (by omega : 0 ≤ (H.1 1826 32) ∧ (H.1 1826 32) ≤ 1000) (by omega : (H.1 1826 35) = 0) hP hTT (by omega : 1 ≤ (H.1 1826 44) ∧ (H.1 1826 44) ≤ 3) (by omega) (by omega) hU (by omega : (H.1 1826 8) = m) (by omega : ((H.1 1826 44) = 2 ∧ e = -2) ∨ ((H.1 1826 44) ≠ 2 ∧ e = -1)) hq hK ht0 hty (by omega : (H.1 1826 31) = 2)) ?_
          rintro _ H34 ⟨⟨hx34r, rfl, hx34x, hx34y, hx34n⟩, hx34f, hx34a, hx34c, hx34e, hx34g, hx34v, hx34p⟩
          refine h_rng (fun hrg37 => ?_)
          have hf38 : fr [30, 31, 32, 33, 35, 36, 39, 40, 41, 43, 47] [1849, 1850, 1851, 1852, 1853, 1854] H H34 := fr_t (fr_rf _ _ _) hx34f (by decide) (by decide)
          replace hx34y : hx34r < (H.1 1826 1) := hx34y
          replace hx34a : (H.1 1826 30) ≤ (H34.1 1826 30) ∧ (H34.1 1826 30) ≤ (H.1 1826 29) := hx34a
          replace hx34g : (H34.1 1826 35) = 0 → ((H34.1 1826 31) = 0 ∨ (H.1 1826 30) < (H34.1 1826 30)) := hx34g
          have hx34o : (H34.1 1826 35) = 0 → 0 ≤ (H34.1 1826 47) ∧ (H34.1 1826 47) ≤ 60 := fun q => TT_ou (hx34p q)
          replace hx34v : ((H.1 1826 44) ≠ 2 → (H34.1 1826 39) = (H.1 1826 39)) ∧ (H.1 1826 39) ≤ (H34.1 1826 39) := hx34v
          refine h_run 0 (pc' := 120) (l' := [(0, .inr (.inr 1826)), (1, .inl t), (2, .inl h)]) (st' := [.inl hx34r]) rfl ?_
          refine h_run 1 (pc' := 129) (l' := [(0, .inr (.inr 1826)), (1, .inl t), (2, .inl h)]) (st' := [.inl hx34r]) rfl ?_
          refine h_reti (x := hx34r) rfl rfl ?_
          have g39 : -2147483648 ≤ (H34.1 1826 30) ∧ (H34.1 1826 30) ≤ 2147483647 := hrg37.1 1826 13 30 _ .int rfl rfl
          have g40 : -2147483648 ≤ (H34.1 1826 35) ∧ (H34.1 1826 35) ≤ 2147483647 := hrg37.1 1826 13 35 _ .int rfl rfl
          have g41 : -2147483648 ≤ (H34.1 1826 32) ∧ (H34.1 1826 32) ≤ 2147483647 := hrg37.1 1826 13 32 _ .int rfl rfl
          have g42 : -2147483648 ≤ (H34.1 1826 29) ∧ (H34.1 1826 29) ≤ 2147483647 := hrg37.1 1826 13 29 _ .int rfl rfl
          have e43 : (H34.1 1826 29) = (H.1 1826 29) := hx34f.2.2 29 (by decide)
          have g44 : -2147483648 ≤ (H34.1 1826 31) ∧ (H34.1 1826 31) ≤ 2147483647 := hrg37.1 1826 13 31 _ .int rfl rfl
          have g45 : -2147483648 ≤ (H34.1 1826 1) ∧ (H34.1 1826 1) ≤ 2147483647 := hrg37.1 1826 13 1 _ .int rfl rfl
          have e46 : (H34.1 1826 1) = (H.1 1826 1) := hx34f.2.2 1 (by decide)
          have g47 : -2147483648 ≤ (H34.1 1826 39) ∧ (H34.1 1826 39) ≤ 2147483647 := hrg37.1 1826 13 39 _ .int rfl rfl
          have g48 : -2147483648 ≤ (H34.1 1826 44) ∧ (H34.1 1826 44) ≤ 2147483647 := hrg37.1 1826 13 44 _ .int rfl rfl
          have e49 : (H34.1 1826 44) = (H.1 1826 44) := hx34f.2.2 44 (by decide)
          exact ⟨⟨hx34r, rfl, by omega, by omega, hx34n⟩, hf38, (by omega : (H.1 1826 30) ≤ (H34.1 1826 30) ∧ (H34.1 1826 30) ≤ (H.1 1826 29)), (by omega : 0 ≤ (H34.1 1826 35) ∧ (H34.1 1826 35) ≤ 5), (by omega : 0 ≤ (H34.1 1826 32) ∧ (H34.1 1826 32) ≤ 1000), (by omega : (H34.1 1826 35) = 0 → (H.1 1826 31) ≠ 0 ∧ ((H34.1 1826 31) = 0 ∨ (H.1 1826 30) < (H34.1 1826 30))), (by omega : ((H.1 1826 44) ≠ 2 → (H34.1 1826 39) = (H.1 1826 39)) ∧ (H.1 1826 39) ≤ (H34.1 1826 39)), hx34p⟩
      · refine h_run 2 (pc' := 95) (l' := [(0, .inr (.inr 1826)), (1, .inl t), (2, .inl h)]) (st' := [.inl (H.1 1826 31)]) rfl ?_
        refine h_run 1 (pc' := 96) (l' := [(0, .inr (.inr 1826)), (1, .inl t), (2, .inl h)]) (st' := [.inl 2, .inl (H.1 1826 31)]) rfl ?_
        refine h_ieq (off := 10) (t := 106) rfl rfl (by omega) (by decide) (fun c50 => ?_) (fun c50 => ?_)
        · refine h_run 2 (pc' := 110) (l' := [(0, .inr (.inr 1826)), (1, .inl t), (2, .inl h)]) (st' := [.inl (H.1 1826 31)]) rfl ?_
          refine h_run 1 (pc' := 111) (l' := [(0, .inr (.inr 1826)), (1, .inl t), (2, .inl h)]) (st' := [.inl 2, .inl (H.1 1826 31)]) rfl ?_
          refine h_ine (off := 12) (t := 123) rfl rfl (by omega) (by decide) (fun c51 => ?_) (fun c51 => ?_)
          · exfalso
            omega
          · refine h_run 3 (pc' := 117) (l' := [(0, .inr (.inr 1826)), (1, .inl t), (2, .inl h)]) (st' := [.inl h, .inl t, .inr (.inr 1826)]) rfl ?_
            have g52 : -2147483648 ≤ (H.1 1826 30) ∧ (H.1 1826 30) ≤ 2147483647 := hrg0.1 1826 13 30 _ .int rfl rfl
            have g53 : -2147483648 ≤ (H.1 1826 29) ∧ (H.1 1826 29) ≤ 2147483647 := hrg0.1 1826 13 29 _ .int rfl rfl
            have g54 : -2147483648 ≤ (H.1 1826 35) ∧ (H.1 1826 35) ≤ 2147483647 := hrg0.1 1826 13 35 _ .int rfl rfl
            have g55 : -2147483648 ≤ (H.1 1826 44) ∧ (H.1 1826 44) ≤ 2147483647 := hrg0.1 1826 13 44 _ .int rfl rfl
            have g56 : -2147483648 ≤ (H.1 1826 1) ∧ (H.1 1826 1) ≤ 2147483647 := hrg0.1 1826 13 1 _ .int rfl rfl
            have g57 : -2147483648 ≤ (H.1 1826 8) ∧ (H.1 1826 8) ≤ 2147483647 := hrg0.1 1826 13 8 _ .int rfl rfl
            have g59 : -2147483648 ≤ (H.1 1826 39) ∧ (H.1 1826 39) ≤ 2147483647 := hrg0.1 1826 13 39 _ .int rfl rfl
            have g60 : -2147483648 ≤ (H.1 1826 32) ∧ (H.1 1826 32) ≤ 2147483647 := hrg0.1 1826 13 32 _ .int rfl rfl
            refine h_cv (i := 370) (j := 183) (b := 1826) (M' := mt_183) (xs := [.inl h, .inl t]) (rest := []) rfl rfl rfl rfl rfl rfl (Nat.le_of_ble_eq_true rfl) (Nat.le_of_ble_eq_true rfl) (by omega) (n_great (by omega) (by omega : 0 ≤ (H.1 1826 30) ∧ (H.1 1826 30) ≤ (H.1 1826 29) ∧ (H.1 1826 29) ≤ 1000) (by omega : 0 ≤ (H.1 1826 35) ∧ (H.1 1826 35) ≤ 5) (by omega : 0 ≤ (H.1 1826 32) ∧ (H.1 1826 32) ≤ 1000) (by omega : (H.1 1826 35) = 0) hP hTT (by omega : 1 ≤ (H.1 1826 44) ∧ (H.1 1826 44) ≤ 3) (by omega) (by omega) hU (by omega : (H.1 1826 8) = m) (by omega : ((H.1 1826 44) = 2 ∧ e = -2) ∨ ((H.1 1826 44) ≠ 2 ∧ e = -1)) hq hK ht0 hty (by omega : (H.1 1826 31) = 2)) ?_
            rintro _ H58 ⟨⟨hx58r, rfl, hx58x, hx58y, hx58n⟩, hx58f, hx58a, hx58c, hx58e, hx58g, hx58v, hx58p⟩
            refine h_rng (fun hrg61 => ?_)
            have hf62 : fr [30, 31, 32, 33, 35, 36, 39, 40, 41, 43, 47] [1849, 1850, 1851, 1852, 1853, 1854] H H58 := fr_t (fr_rf _ _ _) hx58f (by decide) (by decide)
            replace hx58y : hx58r < (H.1 1826 1) := hx58y
            replace hx58a : (H.1 1826 30) ≤ (H58.1 1826 30) ∧ (H58.1 1826 30) ≤ (H.1 1826 29) := hx58a
            replace hx58g : (H58.1 1826 35) = 0 → ((H58.1 1826 31) = 0 ∨ (H.1 1826 30) < (H58.1 1826 30)) := hx58g
            have hx58o : (H58.1 1826 35) = 0 → 0 ≤ (H58.1 1826 47) ∧ (H58.1 1826 47) ≤ 60 := fun q => TT_ou (hx58p q)
            replace hx58v : ((H.1 1826 44) ≠ 2 → (H58.1 1826 39) = (H.1 1826 39)) ∧ (H.1 1826 39) ≤ (H58.1 1826 39) := hx58v
            refine h_run 0 (pc' := 120) (l' := [(0, .inr (.inr 1826)), (1, .inl t), (2, .inl h)]) (st' := [.inl hx58r]) rfl ?_
            refine h_run 1 (pc' := 129) (l' := [(0, .inr (.inr 1826)), (1, .inl t), (2, .inl h)]) (st' := [.inl hx58r]) rfl ?_
            refine h_reti (x := hx58r) rfl rfl ?_
            have g63 : -2147483648 ≤ (H58.1 1826 30) ∧ (H58.1 1826 30) ≤ 2147483647 := hrg61.1 1826 13 30 _ .int rfl rfl
            have g64 : -2147483648 ≤ (H58.1 1826 35) ∧ (H58.1 1826 35) ≤ 2147483647 := hrg61.1 1826 13 35 _ .int rfl rfl
            have g65 : -2147483648 ≤ (H58.1 1826 32) ∧ (H58.1 1826 32) ≤ 2147483647 := hrg61.1 1826 13 32 _ .int rfl rfl
            have g66 : -2147483648 ≤ (H58.1 1826 29) ∧ (H58.1 1826 29) ≤ 2147483647 := hrg61.1 1826 13 29 _ .int rfl rfl
            have e67 : (H58.1 1826 29) = (H.1 1826 29) := hx58f.2.2 29 (by decide)
            have g68 : -2147483648 ≤ (H58.1 1826 31) ∧ (H58.1 1826 31) ≤ 2147483647 := hrg61.1 1826 13 31 _ .int rfl rfl
            have g69 : -2147483648 ≤ (H58.1 1826 1) ∧ (H58.1 1826 1) ≤ 2147483647 := hrg61.1 1826 13 1 _ .int rfl rfl
            have e70 : (H58.1 1826 1) = (H.1 1826 1) := hx58f.2.2 1 (by decide)
            have g71 : -2147483648 ≤ (H58.1 1826 39) ∧ (H58.1 1826 39) ≤ 2147483647 := hrg61.1 1826 13 39 _ .int rfl rfl
            have g72 : -2147483648 ≤ (H58.1 1826 44) ∧ (H58.1 1826 44) ≤ 2147483647 := hrg61.1 1826 13 44 _ .int rfl rfl
            have e73 : (H58.1 1826 44) = (H.1 1826 44) := hx58f.2.2 44 (by decide)
            exact ⟨⟨hx58r, rfl, by omega, by omega, hx58n⟩, hf62, (by omega : (H.1 1826 30) ≤ (H58.1 1826 30) ∧ (H58.1 1826 30) ≤ (H.1 1826 29)), (by omega : 0 ≤ (H58.1 1826 35) ∧ (H58.1 1826 35) ≤ 5), (by omega : 0 ≤ (H58.1 1826 32) ∧ (H58.1 1826 32) ≤ 1000), (by omega : (H58.1 1826 35) = 0 → (H.1 1826 31) ≠ 0 ∧ ((H58.1 1826 31) = 0 ∨ (H.1 1826 30) < (H58.1 1826 30))), (by omega : ((H.1 1826 44) ≠ 2 → (H58.1 1826 39) = (H.1 1826 39)) ∧ (H.1 1826 39) ≤ (H58.1 1826 39)), hx58p⟩
        · refine h_run 2 (pc' := 101) (l' := [(0, .inr (.inr 1826)), (1, .inl t), (2, .inl h)]) (st' := [.inl 2, .inr (.inr 1826)]) rfl ?_
          have g74 : -2147483648 ≤ (H.1 1826 35) ∧ (H.1 1826 35) ≤ 2147483647 := hrg0.1 1826 13 35 _ .int rfl rfl
          refine h_cv (i := 278) (j := 159) (b := 1826) (M' := mt_159) (xs := [.inl 2]) (rest := []) rfl rfl rfl rfl rfl rfl (Nat.le_of_ble_eq_true rfl) (Nat.le_of_ble_eq_true rfl) (by omega) (m_bad0 (by omega) (by omega) (by omega : (H.1 1826 35) = 0)) ?_
          rintro _ _ ⟨rfl, rfl⟩
          refine h_run 0 (pc' := 104) (l' := [(0, .inr (.inr 1826)), (1, .inl t), (2, .inl h)]) (st' := []) rfl ?_
          refine h_run 1 (pc' := 105) (l' := [(0, .inr (.inr 1826)), (1, .inl t), (2, .inl h)]) (st' := [.inl (-1)]) rfl ?_
          refine h_reti (x := (-1)) rfl rfl ?_
          have g75 : -2147483648 ≤ (H.1 1826 30) ∧ (H.1 1826 30) ≤ 2147483647 := hrg0.1 1826 13 30 _ .int rfl rfl
          have g76 : -2147483648 ≤ (H.1 1826 32) ∧ (H.1 1826 32) ≤ 2147483647 := hrg0.1 1826 13 32 _ .int rfl rfl
          have g77 : -2147483648 ≤ (H.1 1826 29) ∧ (H.1 1826 29) ≤ 2147483647 := hrg0.1 1826 13 29 _ .int rfl rfl
          have g78 : -2147483648 ≤ (H.1 1826 1) ∧ (H.1 1826 1) ≤ 2147483647 := hrg0.1 1826 13 1 _ .int rfl rfl
          have g79 : -2147483648 ≤ (H.1 1826 39) ∧ (H.1 1826 39) ≤ 2147483647 := hrg0.1 1826 13 39 _ .int rfl rfl
          have g80 : -2147483648 ≤ (H.1 1826 44) ∧ (H.1 1826 44) ≤ 2147483647 := hrg0.1 1826 13 44 _ .int rfl rfl
          exact ⟨⟨(-1), rfl, by omega, by omega, (Or.inr ⟨(by omega : (2 : Int) ≠ 0), (BD_mk hR (fr_o (fr_o (fr_rf [35, 36] [] H) (by decide)) (by decide)) (by decide) (by decide) (by decide : (2 : Int) ≠ 0) rfl rfl (rch_st hq (by show stTerm Y (me e t) (H.1 1826 41) (1 - h) (SK e H ++ K) X = _; unfold stTerm stApp stVar miss; (repeat (first | rw [if_pos (by omega)] | rw [if_neg (by omega)])); try (first | rfl | (exfalso; omega)))))⟩)⟩, (fr_o (fr_o (fr_rf _ _ _) (by decide)) (by decide)), (by omega : (H.1 1826 30) ≤ (H.1 1826 30) ∧ (H.1 1826 30) ≤ (H.1 1826 29)), (by omega : 0 ≤ (2 : Int) ∧ (2 : Int) ≤ 5), (by omega : 0 ≤ (H.1 1826 32) ∧ (H.1 1826 32) ≤ 1000), (by omega : (2 : Int) = 0 → (H.1 1826 31) ≠ 0 ∧ ((H.1 1826 31) = 0 ∨ (H.1 1826 30) < (H.1 1826 30))), (by omega : ((H.1 1826 44) ≠ 2 → (H.1 1826 39) = (H.1 1826 39)) ∧ (H.1 1826 39) ≤ (H.1 1826 39)), (fun (q : (2 : Int) = 0) => absurd q (by omega))⟩
    · refine h_run 2 (pc' := 47) (l' := [(0, .inr (.inr 1826)), (1, .inl t), (2, .inl h)]) (st' := [.inl (H.1 1826 44)]) rfl ?_
      have g81 : -2147483648 ≤ (H.1 1826 44) ∧ (H.1 1826 44) ≤ 2147483647 := hrg0.1 1826 13 44 _ .int rfl rfl
      refine h_run 1 (pc' := 48) (l' := [(0, .inr (.inr 1826)), (1, .inl t), (2, .inl h)]) (st' := [.inl 2, .inl (H.1 1826 44)]) rfl ?_
      refine h_ine (off := 13) (t := 61) rfl rfl (by omega) (by decide) (fun c82 => ?_) (fun c82 => ?_)
      · refine h_run 1 (pc' := 62) (l' := [(0, .inr (.inr 1826)), (1, .inl t), (2, .inl h)]) (st' := [.inr (.inr 1826)]) rfl ?_
        have g83 : -2147483648 ≤ (H.1 1826 35) ∧ (H.1 1826 35) ≤ 2147483647 := hrg0.1 1826 13 35 _ .int rfl rfl
        have g84 : -2147483648 ≤ (H.1 1826 40) ∧ (H.1 1826 40) ≤ 2147483647 := hrg0.1 1826 13 40 _ .int rfl rfl
        by_cases b85 : (H.1 1826 40) = 40
        · refine h_cv (i := 344) (j := 168) (b := 1826) (M' := mt_168) (xs := []) (rest := []) rfl rfl rfl rfl rfl rfl (Nat.le_of_ble_eq_true rfl) (Nat.le_of_ble_eq_true rfl) (by omega) (m_countB (by omega) (by omega : (H.1 1826 35) = 0) (by omega : (H.1 1826 40) = 40)) ?_
          rintro _ _ ⟨rfl, rfl⟩
          refine h_run 0 (pc' := 65) (l' := [(0, .inr (.inr 1826)), (1, .inl t), (2, .inl h)]) (st' := []) rfl ?_
          refine h_run 2 (pc' := 67) (l' := [(0, .inr (.inr 1826)), (1, .inl t), (2, .inl h)]) (st' := [.inl 0, .inr (.inr 1826)]) rfl ?_
          refine h_cv (i := 350) (j := 169) (b := 1826) (M' := mt_169) (xs := [.inl 0]) (rest := []) rfl rfl rfl rfl rfl rfl (Nat.le_of_ble_eq_true rfl) (Nat.le_of_ble_eq_true rfl) (by omega) (m_put0 (by omega) (by omega : (5 : Int) ≠ 0)) ?_
          rintro _ _ ⟨rfl, rfl⟩
          refine h_run 0 (pc' := 70) (l' := [(0, .inr (.inr 1826)), (1, .inl t), (2, .inl h)]) (st' := []) rfl ?_
          refine h_run 1 (pc' := 71) (l' := [(0, .inr (.inr 1826)), (1, .inl t), (2, .inl h)]) (st' := [.inr (.inr 1826)]) rfl ?_
          refine h_cv (i := 293) (j := 158) (b := 1826) (M' := mt_158) (xs := []) (rest := []) rfl rfl rfl rfl rfl rfl (Nat.le_of_ble_eq_true rfl) (Nat.le_of_ble_eq_true rfl) (by omega) (m_good0 (by omega) (by omega : (5 : Int) ≠ 0)) ?_
          rintro _ _ ⟨rfl, rfl⟩
          refine h_run 0 (pc' := 74) (l' := [(0, .inr (.inr 1826)), (1, .inl t), (2, .inl h)]) (st' := [.inl 0]) rfl ?_
          refine h_zeq (off := 7) (t := 81) rfl rfl (by decide) (fun _ => ?_) (fun c => absurd c (by decide))
          refine h_run 1 (pc' := 82) (l' := [(0, .inr (.inr 1826)), (1, .inl t), (2, .inl h)]) (st' := [.inl t]) rfl ?_
          refine h_reti (x := t) rfl rfl ?_
          have g86 : -2147483648 ≤ (H.1 1826 30) ∧ (H.1 1826 30) ≤ 2147483647 := hrg0.1 1826 13 30 _ .int rfl rfl
          have g87 : -2147483648 ≤ (H.1 1826 32) ∧ (H.1 1826 32) ≤ 2147483647 := hrg0.1 1826 13 32 _ .int rfl rfl
          have g88 : -2147483648 ≤ (H.1 1826 29) ∧ (H.1 1826 29) ≤ 2147483647 := hrg0.1 1826 13 29 _ .int rfl rfl
          have g89 : -2147483648 ≤ (H.1 1826 1) ∧ (H.1 1826 1) ≤ 2147483647 := hrg0.1 1826 13 1 _ .int rfl rfl
          have g90 : -2147483648 ≤ (H.1 1826 39) ∧ (H.1 1826 39) ≤ 2147483647 := hrg0.1 1826 13 39 _ .int rfl rfl
          exact ⟨⟨t, rfl, by omega, by omega, (Or.inr ⟨(by omega : (5 : Int) ≠ 0), (BD_mk hR (fr_o (fr_o (fr_o (fr_rf [35, 36, 40] [] H) (by decide)) (by decide)) (by decide)) (by decide) (by decide) (by decide : (5 : Int) ≠ 0) rfl rfl (rch_st hq (by show stTerm Y (me e t) (H.1 1826 41) (1 - h) (SK e H ++ K) X = _; unfold stTerm stApp stVar miss; (repeat (first | rw [if_pos (by omega)] | rw [if_neg (by omega)])); try (first | rfl | (exfalso; omega)))))⟩)⟩, (fr_o (fr_o (fr_o (fr_rf _ _ _) (by decide)) (by decide)) (by decide)), (by omega : (H.1 1826 30) ≤ (H.1 1826 30) ∧ (H.1 1826 30) ≤ (H.1 1826 29)), (by omega : 0 ≤ (5 : Int) ∧ (5 : Int) ≤ 5), (by omega : 0 ≤ (H.1 1826 32) ∧ (H.1 1826 32) ≤ 1000), (by omega : (5 : Int) = 0 → (H.1 1826 31) ≠ 0 ∧ ((H.1 1826 31) = 0 ∨ (H.1 1826 30) < (H.1 1826 30))), (by omega : ((H.1 1826 44) ≠ 2 → (H.1 1826 39) = (H.1 1826 39)) ∧ (H.1 1826 39) ≤ (H.1 1826 39)), (fun (q : (5 : Int) = 0) => absurd q (by omega))⟩
        · refine h_cv (i := 344) (j := 168) (b := 1826) (M' := mt_168) (xs := []) (rest := []) rfl rfl rfl rfl rfl rfl (Nat.le_of_ble_eq_true rfl) (Nat.le_of_ble_eq_true rfl) (by omega) (m_countA (by omega) (by omega : (H.1 1826 35) = 0) (by omega : 0 ≤ (H.1 1826 40) ∧ (H.1 1826 40) ≤ 1000) (by omega : (H.1 1826 40) ≠ 40)) ?_
          rintro _ _ ⟨rfl, rfl⟩
          refine h_run 0 (pc' := 65) (l' := [(0, .inr (.inr 1826)), (1, .inl t), (2, .inl h)]) (st' := []) rfl ?_
          refine h_run 2 (pc' := 67) (l' := [(0, .inr (.inr 1826)), (1, .inl t), (2, .inl h)]) (st' := [.inl 0, .inr (.inr 1826)]) rfl ?_
          have g91 : -2147483648 ≤ (H.1 1826 43) ∧ (H.1 1826 43) ≤ 2147483647 := hrg0.1 1826 13 43 _ .int rfl rfl
          refine h_cv (i := 350) (j := 169) (b := 1826) (M' := mt_169) (xs := [.inl 0]) (rest := []) rfl rfl rfl rfl rfl rfl (Nat.le_of_ble_eq_true rfl) (Nat.le_of_ble_eq_true rfl) (by omega) (m_put1 (by omega) (by omega : (H.1 1826 35) = 0) (by omega : 0 ≤ (H.1 1826 43) ∧ (H.1 1826 43) ≤ 47) (by omega)) ?_
          rintro _ _ ⟨rfl, rfl⟩
          refine h_run 0 (pc' := 70) (l' := [(0, .inr (.inr 1826)), (1, .inl t), (2, .inl h)]) (st' := []) rfl ?_
          refine h_run 1 (pc' := 71) (l' := [(0, .inr (.inr 1826)), (1, .inl t), (2, .inl h)]) (st' := [.inr (.inr 1826)]) rfl ?_
          refine h_cv (i := 293) (j := 158) (b := 1826) (M' := mt_158) (xs := []) (rest := []) rfl rfl rfl rfl rfl rfl (Nat.le_of_ble_eq_true rfl) (Nat.le_of_ble_eq_true rfl) (by omega) (m_good1 (by omega) (by omega : (H.1 1826 35) = 0)) ?_
          rintro _ _ ⟨rfl, rfl⟩
          refine h_run 0 (pc' := 74) (l' := [(0, .inr (.inr 1826)), (1, .inl t), (2, .inl h)]) (st' := [.inl 1]) rfl ?_
          refine h_zeq (off := 7) (t := 81) rfl rfl (by decide) (fun c => absurd c (by decide)) (fun _ => ?_)
          have hq9 : rch Y c0 (SK e H ++ K, xput X 0) := (rch_st hq (by show stTerm Y (me e t) (H.1 1826 41) (1 - h) (SK e H ++ K) X = _; unfold stTerm stApp stVar miss; (repeat (first | rw [if_pos (by omega)] | rw [if_neg (by omega)])); try (first | rfl | (exfalso; omega))))
          refine h_run 1 (pc' := 78) (l' := [(0, .inr (.inr 1826)), (1, .inl t), (2, .inl h)]) (st' := [.inr (.inr 1826)]) rfl ?_
          have g92 : -2147483648 ≤ (H.1 1826 30) ∧ (H.1 1826 30) ≤ 2147483647 := hrg0.1 1826 13 30 _ .int rfl rfl
          have g93 : -2147483648 ≤ (H.1 1826 29) ∧ (H.1 1826 29) ≤ 2147483647 := hrg0.1 1826 13 29 _ .int rfl rfl
          have g94 : -2147483648 ≤ (H.1 1826 32) ∧ (H.1 1826 32) ≤ 2147483647 := hrg0.1 1826 13 32 _ .int rfl rfl
          refine h_cv (i := 297) (j := 165) (b := 1826) (M' := mt_165) (xs := []) (rest := []) rfl rfl rfl rfl rfl rfl (Nat.le_of_ble_eq_true rfl) (Nat.le_of_ble_eq_true rfl) (by omega) (n_nx (by omega) (by omega : 0 ≤ (H.1 1826 30) ∧ (H.1 1826 30) ≤ (H.1 1826 29) ∧ (H.1 1826 29) ≤ 1000) (by omega : 0 ≤ (H.1 1826 35) ∧ (H.1 1826 35) ≤ 5) (by omega : 0 ≤ (H.1 1826 32) ∧ (H.1 1826 32) ≤ 1000) (by omega : (H.1 1826 35) = 0) (X := (xput X 0)) (RN_mk hR (fr_o (fr_a (fr_o (fr_rf [40, 43] [1851] H) (by decide)) (by decide)) (by decide)) (by decide) (by decide) (xpt_s _ _).1 (TA_sT (TA_fr hR.2.2.2.2 (fr_o (fr_a (fr_o (fr_rf [40, 43] [1851] H) (by decide)) (by decide)) (by decide)) (by decide) (by decide)) (sT_put X _))) hq9 (SK_lk hK)) ?_
          rintro _ H95 ⟨rfl, hx95n, hx95f, hx95a, hx95b, hx95c, -, hx95e, hx95g⟩
          refine h_rng (fun hrg96 => ?_)
          have hf97 : fr [30, 31, 32, 33, 35, 36, 39, 40, 41, 43, 47] [1849, 1850, 1851, 1852, 1853, 1854] H H95 := fr_t (fr_o (fr_a (fr_o (fr_rf _ _ _) (by decide)) (by decide)) (by decide)) hx95f (by decide) (by decide)
          replace hx95a : (H.1 1826 30) ≤ (H95.1 1826 30) := hx95a
          replace hx95b : (H95.1 1826 30) ≤ (H.1 1826 29) := hx95b
          replace hx95g : (H95.1 1826 35) = 0 → ((H95.1 1826 31) = 0 ∨ (H.1 1826 30) < (H95.1 1826 30)) := hx95g
          refine h_run 0 (pc' := 81) (l' := [(0, .inr (.inr 1826)), (1, .inl t), (2, .inl h)]) (st' := []) rfl ?_
          refine h_run 1 (pc' := 82) (l' := [(0, .inr (.inr 1826)), (1, .inl t), (2, .inl h)]) (st' := [.inl t]) rfl ?_
          refine h_reti (x := t) rfl rfl ?_
          have g98 : -2147483648 ≤ (H95.1 1826 30) ∧ (H95.1 1826 30) ≤ 2147483647 := hrg96.1 1826 13 30 _ .int rfl rfl
          have g99 : -2147483648 ≤ (H95.1 1826 35) ∧ (H95.1 1826 35) ≤ 2147483647 := hrg96.1 1826 13 35 _ .int rfl rfl
          have g100 : -2147483648 ≤ (H95.1 1826 32) ∧ (H95.1 1826 32) ≤ 2147483647 := hrg96.1 1826 13 32 _ .int rfl rfl
          have g101 : -2147483648 ≤ (H95.1 1826 29) ∧ (H95.1 1826 29) ≤ 2147483647 := hrg96.1 1826 13 29 _ .int rfl rfl
          have e102 : (H95.1 1826 29) = (H.1 1826 29) := hx95f.2.2 29 (by decide)
          have g103 : -2147483648 ≤ (H95.1 1826 31) ∧ (H95.1 1826 31) ≤ 2147483647 := hrg96.1 1826 13 31 _ .int rfl rfl
          have g104 : -2147483648 ≤ (H95.1 1826 1) ∧ (H95.1 1826 1) ≤ 2147483647 := hrg96.1 1826 13 1 _ .int rfl rfl
          have e105 : (H95.1 1826 1) = (H.1 1826 1) := hx95f.2.2 1 (by decide)
          have g106 : -2147483648 ≤ (H95.1 1826 39) ∧ (H95.1 1826 39) ≤ 2147483647 := hrg96.1 1826 13 39 _ .int rfl rfl
          have e107 : (H95.1 1826 39) = (H.1 1826 39) := hx95f.2.2 39 (by decide)
          have g108 : -2147483648 ≤ (H95.1 1826 44) ∧ (H95.1 1826 44) ≤ 2147483647 := hrg96.1 1826 13 44 _ .int rfl rfl
          have e109 : (H95.1 1826 44) = (H.1 1826 44) := hx95f.2.2 44 (by decide)
          exact ⟨⟨t, rfl, by omega, by omega, (GB_i hx95n (fun q => ⟨_, (by rw [SK_same (H := H) (hx95f.2.2 47 (by decide)) (hx95f.2.1 1852 (by decide) (by decide)) (hx95f.2.1 1853 (by decide) (by decide)) (hx95f.2.1 1854 (by decide) (by decide))]; exact hq9), ⟨q, VR_put hU.2.1 (hx95f.2.2 40 (by decide)) (hx95f.2.2 44 (by decide)) (hx95f.2.2 39 (by decide)) (hx95f.2.1 1849 (by decide) (by decide)) (hx95f.2.1 1850 (by decide) (by decide)), B0_same hU.2.2.1 (by have q8 : (H95.1 1826 40) = ((H.1 1826 40) + 1) := (hx95f.2.2 40 (by decide)); omega) (hx95f.2.2 44 (by decide)) (hx95f.2.2 47 (by decide)) (hx95f.2.1 1852 (by decide) (by decide)) (hx95f.2.1 1854 (by decide) (by decide)), RD_put hU.2.2.2 (by omega) rfl rfl (hx95f.2.2 43 (by decide)) (hx95f.2.1 1851 (by decide) (by decide))⟩, (FH_leaf (sW_rf X) rfl rfl rfl (by omega) (by omega))⟩))⟩, hf97, (by omega : (H.1 1826 30) ≤ (H95.1 1826 30) ∧ (H95.1 1826 30) ≤ (H.1 1826 29)), (by omega : 0 ≤ (H95.1 1826 35) ∧ (H95.1 1826 35) ≤ 5), (by omega : 0 ≤ (H95.1 1826 32) ∧ (H95.1 1826 32) ≤ 1000), (by omega : (H95.1 1826 35) = 0 → (H.1 1826 31) ≠ 0 ∧ ((H95.1 1826 31) = 0 ∨ (H.1 1826 30) < (H95.1 1826 30))), (by omega : ((H.1 1826 44) ≠ 2 → (H95.1 1826 39) = (H.1 1826 39)) ∧ (H.1 1826 39) ≤ (H95.1 1826 39)), fun _ => TT_sign (s := 0) (q := 0) hP hTT ⟨⟨(hx95f.2.2 1 (by decide)), (hx95f.2.2 3 (by decide)), (hx95f.2.2 8 (by decide)), (hx95f.2.2 44 (by decide))⟩, (hx95f.2.1 1833 (by decide) (by decide)), (hx95f.2.1 1830 (by decide) (by decide))⟩ (Or.inl rfl) (ma_0 (by omega)) (by omega) (by omega) ⟨(hx95f.2.2 40 (by decide)), (hx95f.2.2 43 (by decide)), (hx95f.2.2 41 (by decide))⟩ (hx95f.2.1 1851 (by decide) (by decide)) (Or.inl ⟨(hx95f.2.2 39 (by decide)), (hx95f.2.1 1850 (by decide) (by decide))⟩) (Or.inl ⟨rfl, (hx95f.2.2 47 (by decide)), (hx95f.2.1 1852 (by decide) (by decide)), (hx95f.2.1 1853 (by decide) (by decide)), (hx95f.2.1 1854 (by decide) (by decide))⟩)⟩
      · refine h_run 2 (pc' := 53) (l' := [(0, .inr (.inr 1826)), (1, .inl t), (2, .inl h)]) (st' := [.inl (-1), .inl t]) rfl ?_
        refine h_ine (off := 8) (t := 61) rfl rfl (by omega) (by decide) (fun c110 => ?_) (fun c110 => ?_)
        · refine h_run 1 (pc' := 62) (l' := [(0, .inr (.inr 1826)), (1, .inl t), (2, .inl h)]) (st' := [.inr (.inr 1826)]) rfl ?_
          have g111 : -2147483648 ≤ (H.1 1826 35) ∧ (H.1 1826 35) ≤ 2147483647 := hrg0.1 1826 13 35 _ .int rfl rfl
          have g112 : -2147483648 ≤ (H.1 1826 40) ∧ (H.1 1826 40) ≤ 2147483647 := hrg0.1 1826 13 40 _ .int rfl rfl
          by_cases b113 : (H.1 1826 40) = 40
          · refine h_cv (i := 344) (j := 168) (b := 1826) (M' := mt_168) (xs := []) (rest := []) rfl rfl rfl rfl rfl rfl (Nat.le_of_ble_eq_true rfl) (Nat.le_of_ble_eq_true rfl) (by omega) (m_countB (by omega) (by omega : (H.1 1826 35) = 0) (by omega : (H.1 1826 40) = 40)) ?_
            rintro _ _ ⟨rfl, rfl⟩
            refine h_run 0 (pc' := 65) (l' := [(0, .inr (.inr 1826)), (1, .inl t), (2, .inl h)]) (st' := []) rfl ?_
            refine h_run 2 (pc' := 67) (l' := [(0, .inr (.inr 1826)), (1, .inl t), (2, .inl h)]) (st' := [.inl 0, .inr (.inr 1826)]) rfl ?_
            refine h_cv (i := 350) (j := 169) (b := 1826) (M' := mt_169) (xs := [.inl 0]) (rest := []) rfl rfl rfl rfl rfl rfl (Nat.le_of_ble_eq_true rfl) (Nat.le_of_ble_eq_true rfl) (by omega) (m_put0 (by omega) (by omega : (5 : Int) ≠ 0)) ?_
            rintro _ _ ⟨rfl, rfl⟩
            refine h_run 0 (pc' := 70) (l' := [(0, .inr (.inr 1826)), (1, .inl t), (2, .inl h)]) (st' := []) rfl ?_
            refine h_run 1 (pc' := 71) (l' := [(0, .inr (.inr 1826)), (1, .inl t), (2, .inl h)]) (st' := [.inr (.inr 1826)]) rfl ?_
            refine h_cv (i := 293) (j := 158) (b := 1826) (M' := mt_158) (xs := []) (rest := []) rfl rfl rfl rfl rfl rfl (Nat.le_of_ble_eq_true rfl) (Nat.le_of_ble_eq_true rfl) (by omega) (m_good0 (by omega) (by omega : (5 : Int) ≠ 0)) ?_
            rintro _ _ ⟨rfl, rfl⟩
            refine h_run 0 (pc' := 74) (l' := [(0, .inr (.inr 1826)), (1, .inl t), (2, .inl h)]) (st' := [.inl 0]) rfl ?_
            refine h_zeq (off := 7) (t := 81) rfl rfl (by decide) (fun _ => ?_) (fun c => absurd c (by decide))
            refine h_run 1 (pc' := 82) (l' := [(0, .inr (.inr 1826)), (1, .inl t), (2, .inl h)]) (st' := [.inl t]) rfl ?_
            refine h_reti (x := t) rfl rfl ?_
            have g114 : -2147483648 ≤ (H.1 1826 30) ∧ (H.1 1826 30) ≤ 2147483647 := hrg0.1 1826 13 30 _ .int rfl rfl
            have g115 : -2147483648 ≤ (H.1 1826 32) ∧ (H.1 1826 32) ≤ 2147483647 := hrg0.1 1826 13 32 _ .int rfl rfl
            have g116 : -2147483648 ≤ (H.1 1826 29) ∧ (H.1 1826 29) ≤ 2147483647 := hrg0.1 1826 13 29 _ .int rfl rfl
            have g117 : -2147483648 ≤ (H.1 1826 1) ∧ (H.1 1826 1) ≤ 2147483647 := hrg0.1 1826 13 1 _ .int rfl rfl
            have g118 : -2147483648 ≤ (H.1 1826 39) ∧ (H.1 1826 39) ≤ 2147483647 := hrg0.1 1826 13 39 _ .int rfl rfl
            exact ⟨⟨t, rfl, by omega, by omega, (Or.inr ⟨(by omega : (5 : Int) ≠ 0), (BD_mk hR (fr_o (fr_o (fr_o (fr_rf [35, 36, 40] [] H) (by decide)) (by decide)) (by decide)) (by decide) (by decide) (by decide : (5 : Int) ≠ 0) rfl rfl (rch_st hq (by show stTerm Y (me e t) (H.1 1826 41) (1 - h) (SK e H ++ K) X = _; unfold stTerm stApp stVar miss; (repeat (first | rw [if_pos (by omega)] | rw [if_neg (by omega)])); try (first | rfl | (exfalso; omega)))))⟩)⟩, (fr_o (fr_o (fr_o (fr_rf _ _ _) (by decide)) (by decide)) (by decide)), (by omega : (H.1 1826 30) ≤ (H.1 1826 30) ∧ (H.1 1826 30) ≤ (H.1 1826 29)), (by omega : 0 ≤ (5 : Int) ∧ (5 : Int) ≤ 5), (by omega : 0 ≤ (H.1 1826 32) ∧ (H.1 1826 32) ≤ 1000), (by omega : (5 : Int) = 0 → (H.1 1826 31) ≠ 0 ∧ ((H.1 1826 31) = 0 ∨ (H.1 1826 30) < (H.1 1826 30))), (by omega : ((H.1 1826 44) ≠ 2 → (H.1 1826 39) = (H.1 1826 39)) ∧ (H.1 1826 39) ≤ (H.1 1826 39)), (fun (q : (5 : Int) = 0) => absurd q (by omega))⟩
          · refine h_cv (i := 344) (j := 168) (b := 1826) (M' := mt_168) (xs := []) (rest := []) rfl rfl rfl rfl rfl rfl (Nat.le_of_ble_eq_true rfl) (Nat.le_of_ble_eq_true rfl) (by omega) (m_countA (by omega) (by omega : (H.1 1826 35) = 0) (by omega : 0 ≤ (H.1 1826 40) ∧ (H.1 1826 40) ≤ 1000) (by omega : (H.1 1826 40) ≠ 40)) ?_
            rintro _ _ ⟨rfl, rfl⟩
            refine h_run 0 (pc' := 65) (l' := [(0, .inr (.inr 1826)), (1, .inl t), (2, .inl h)]) (st' := []) rfl ?_
            refine h_run 2 (pc' := 67) (l' := [(0, .inr (.inr 1826)), (1, .inl t), (2, .inl h)]) (st' := [.inl 0, .inr (.inr 1826)]) rfl ?_
            have g119 : -2147483648 ≤ (H.1 1826 43) ∧ (H.1 1826 43) ≤ 2147483647 := hrg0.1 1826 13 43 _ .int rfl rfl
            refine h_cv (i := 350) (j := 169) (b := 1826) (M' := mt_169) (xs := [.inl 0]) (rest := []) rfl rfl rfl rfl rfl rfl (Nat.le_of_ble_eq_true rfl) (Nat.le_of_ble_eq_true rfl) (by omega) (m_put1 (by omega) (by omega : (H.1 1826 35) = 0) (by omega : 0 ≤ (H.1 1826 43) ∧ (H.1 1826 43) ≤ 47) (by omega)) ?_
            rintro _ _ ⟨rfl, rfl⟩
            refine h_run 0 (pc' := 70) (l' := [(0, .inr (.inr 1826)), (1, .inl t), (2, .inl h)]) (st' := []) rfl ?_
            refine h_run 1 (pc' := 71) (l' := [(0, .inr (.inr 1826)), (1, .inl t), (2, .inl h)]) (st' := [.inr (.inr 1826)]) rfl ?_
            refine h_cv (i := 293) (j := 158) (b := 1826) (M' := mt_158) (xs := []) (rest := []) rfl rfl rfl rfl rfl rfl (Nat.le_of_ble_eq_true rfl) (Nat.le_of_ble_eq_true rfl) (by omega) (m_good1 (by omega) (by omega : (H.1 1826 35) = 0)) ?_
            rintro _ _ ⟨rfl, rfl⟩
            refine h_run 0 (pc' := 74) (l' := [(0, .inr (.inr 1826)), (1, .inl t), (2, .inl h)]) (st' := [.inl 1]) rfl ?_
            refine h_zeq (off := 7) (t := 81) rfl rfl (by decide) (fun c => absurd c (by decide)) (fun _ => ?_)
            have hq9 : rch Y c0 (SK e H ++ K, xput X 0) := (rch_st hq (by show stTerm Y (me e t) (H.1 1826 41) (1 - h) (SK e H ++ K) X = _; unfold stTerm stApp stVar miss; (repeat (first | rw [if_pos (by omega)] | rw [if_neg (by omega)])); try (first | rfl | (exfalso; omega))))
            refine h_run 1 (pc' := 78) (l' := [(0, .inr (.inr 1826)), (1, .inl t), (2, .inl h)]) (st' := [.inr (.inr 1826)]) rfl ?_
            have g120 : -2147483648 ≤ (H.1 1826 30) ∧ (H.1 1826 30) ≤ 2147483647 := hrg0.1 1826 13 30 _ .int rfl rfl
            have g121 : -2147483648 ≤ (H.1 1826 29) ∧ (H.1 1826 29) ≤ 2147483647 := hrg0.1 1826 13 29 _ .int rfl rfl
            have g122 : -2147483648 ≤ (H.1 1826 32) ∧ (H.1 1826 32) ≤ 2147483647 := hrg0.1 1826 13 32 _ .int rfl rfl
            refine h_cv (i := 297) (j := 165) (b := 1826) (M' := mt_165) (xs := []) (rest := []) rfl rfl rfl rfl rfl rfl (Nat.le_of_ble_eq_true rfl) (Nat.le_of_ble_eq_true rfl) (by omega) (n_nx (by omega) (by omega : 0 ≤ (H.1 1826 30) ∧ (H.1 1826 30) ≤ (H.1 1826 29) ∧ (H.1 1826 29) ≤ 1000) (by omega : 0 ≤ (H.1 1826 35) ∧ (H.1 1826 35) ≤ 5) (by omega : 0 ≤ (H.1 1826 32) ∧ (H.1 1826 32) ≤ 1000) (by omega : (H.1 1826 35) = 0) (X := (xput X 0)) (RN_mk hR (fr_o (fr_a (fr_o (fr_rf [40, 43] [1851] H) (by decide)) (by decide)) (by decide)) (by decide) (by decide) (xpt_s _ _).1 (TA_sT (TA_fr hR.2.2.2.2 (fr_o (fr_a (fr_o (fr_rf [40, 43] [1851] H) (by decide)) (by decide)) (by decide)) (by decide) (by decide)) (sT_put X _))) hq9 (SK_lk hK)) ?_
            rintro _ H123 ⟨rfl, hx123n, hx123f, hx123a, hx123b, hx123c, -, hx123e, hx123g⟩
            refine h_rng (fun hrg124 => ?_)
            have hf125 : fr [30, 31, 32, 33, 35, 36, 39, 40, 41, 43, 47] [1849, 1850, 1851, 1852, 1853, 1854] H H123 := fr_t (fr_o (fr_a (fr_o (fr_rf _ _ _) (by decide)) (by decide)) (by decide)) hx123f (by decide) (by decide)
            replace hx123a : (H.1 1826 30) ≤ (H123.1 1826 30) := hx123a
            replace hx123b : (H123.1 1826 30) ≤ (H.1 1826 29) := hx123b
            replace hx123g : (H123.1 1826 35) = 0 → ((H123.1 1826 31) = 0 ∨ (H.1 1826 30) < (H123.1 1826 30)) := hx123g
            refine h_run 0 (pc' := 81) (l' := [(0, .inr (.inr 1826)), (1, .inl t), (2, .inl h)]) (st' := []) rfl ?_
            refine h_run 1 (pc' := 82) (l' := [(0, .inr (.inr 1826)), (1, .inl t), (2, .inl h)]) (st' := [.inl t]) rfl ?_
            refine h_reti (x := t) rfl rfl ?_
            have g126 : -2147483648 ≤ (H123.1 1826 30) ∧ (H123.1 1826 30) ≤ 2147483647 := hrg124.1 1826 13 30 _ .int rfl rfl
            have g127 : -2147483648 ≤ (H123.1 1826 35) ∧ (H123.1 1826 35) ≤ 2147483647 := hrg124.1 1826 13 35 _ .int rfl rfl
            have g128 : -2147483648 ≤ (H123.1 1826 32) ∧ (H123.1 1826 32) ≤ 2147483647 := hrg124.1 1826 13 32 _ .int rfl rfl
            have g129 : -2147483648 ≤ (H123.1 1826 29) ∧ (H123.1 1826 29) ≤ 2147483647 := hrg124.1 1826 13 29 _ .int rfl rfl
            have e130 : (H123.1 1826 29) = (H.1 1826 29) := hx123f.2.2 29 (by decide)
            have g131 : -2147483648 ≤ (H123.1 1826 31) ∧ (H123.1 1826 31) ≤ 2147483647 := hrg124.1 1826 13 31 _ .int rfl rfl
            have g132 : -2147483648 ≤ (H123.1 1826 1) ∧ (H123.1 1826 1) ≤ 2147483647 := hrg124.1 1826 13 1 _ .int rfl rfl
            have e133 : (H123.1 1826 1) = (H.1 1826 1) := hx123f.2.2 1 (by decide)
            have g134 : -2147483648 ≤ (H123.1 1826 39) ∧ (H123.1 1826 39) ≤ 2147483647 := hrg124.1 1826 13 39 _ .int rfl rfl
            have e135 : (H123.1 1826 39) = (H.1 1826 39) := hx123f.2.2 39 (by decide)
            have g136 : -2147483648 ≤ (H123.1 1826 44) ∧ (H123.1 1826 44) ≤ 2147483647 := hrg124.1 1826 13 44 _ .int rfl rfl
            have e137 : (H123.1 1826 44) = (H.1 1826 44) := hx123f.2.2 44 (by decide)
            exact ⟨⟨t, rfl, by omega, by omega, (GB_i hx123n (fun q => ⟨_, (by rw [SK_same (H := H) (hx123f.2.2 47 (by decide)) (hx123f.2.1 1852 (by decide) (by decide)) (hx123f.2.1 1853 (by decide) (by decide)) (hx123f.2.1 1854 (by decide) (by decide))]; exact hq9), ⟨q, VR_put hU.2.1 (hx123f.2.2 40 (by decide)) (hx123f.2.2 44 (by decide)) (hx123f.2.2 39 (by decide)) (hx123f.2.1 1849 (by decide) (by decide)) (hx123f.2.1 1850 (by decide) (by decide)), B0_same hU.2.2.1 (by have q8 : (H123.1 1826 40) = ((H.1 1826 40) + 1) := (hx123f.2.2 40 (by decide)); omega) (hx123f.2.2 44 (by decide)) (hx123f.2.2 47 (by decide)) (hx123f.2.1 1852 (by decide) (by decide)) (hx123f.2.1 1854 (by decide) (by decide)), RD_put hU.2.2.2 (by omega) rfl rfl (hx123f.2.2 43 (by decide)) (hx123f.2.1 1851 (by decide) (by decide))⟩, (FH_leaf (sW_rf X) rfl rfl rfl (by omega) (by omega))⟩))⟩, hf125, (by omega : (H.1 1826 30) ≤ (H123.1 1826 30) ∧ (H123.1 1826 30) ≤ (H.1 1826 29)), (by omega : 0 ≤ (H123.1 1826 35) ∧ (H123.1 1826 35) ≤ 5), (by omega : 0 ≤ (H123.1 1826 32) ∧ (H123.1 1826 32) ≤ 1000), (by omega : (H123.1 1826 35) = 0 → (H.1 1826 31) ≠ 0 ∧ ((H123.1 1826 31) = 0 ∨ (H.1 1826 30) < (H123.1 1826 30))), (by omega : ((H.1 1826 44) ≠ 2 → (H123.1 1826 39) = (H.1 1826 39)) ∧ (H.1 1826 39) ≤ (H123.1 1826 39)), fun _ => TT_sign (s := 0) (q := 0) hP hTT ⟨⟨(hx123f.2.2 1 (by decide)), (hx123f.2.2 3 (by decide)), (hx123f.2.2 8 (by decide)), (hx123f.2.2 44 (by decide))⟩, (hx123f.2.1 1833 (by decide) (by decide)), (hx123f.2.1 1830 (by decide) (by decide))⟩ (Or.inl rfl) (ma_0 (by omega)) (by omega) (by omega) ⟨(hx123f.2.2 40 (by decide)), (hx123f.2.2 43 (by decide)), (hx123f.2.2 41 (by decide))⟩ (hx123f.2.1 1851 (by decide) (by decide)) (Or.inl ⟨(hx123f.2.2 39 (by decide)), (hx123f.2.1 1850 (by decide) (by decide))⟩) (Or.inl ⟨rfl, (hx123f.2.2 47 (by decide)), (hx123f.2.1 1852 (by decide) (by decide)), (hx123f.2.1 1853 (by decide) (by decide)), (hx123f.2.1 1854 (by decide) (by decide))⟩)⟩
        · refine h_run 2 (pc' := 58) (l' := [(0, .inr (.inr 1826)), (1, .inl t), (2, .inl h)]) (st' := [.inl 2, .inr (.inr 1826)]) rfl ?_
          have g138 : -2147483648 ≤ (H.1 1826 35) ∧ (H.1 1826 35) ≤ 2147483647 := hrg0.1 1826 13 35 _ .int rfl rfl
          refine h_cv (i := 278) (j := 159) (b := 1826) (M' := mt_159) (xs := [.inl 2]) (rest := []) rfl rfl rfl rfl rfl rfl (Nat.le_of_ble_eq_true rfl) (Nat.le_of_ble_eq_true rfl) (by omega) (m_bad0 (by omega) (by omega) (by omega : (H.1 1826 35) = 0)) ?_
          rintro _ _ ⟨rfl, rfl⟩
          refine h_run 0 (pc' := 61) (l' := [(0, .inr (.inr 1826)), (1, .inl t), (2, .inl h)]) (st' := []) rfl ?_
          refine h_run 1 (pc' := 62) (l' := [(0, .inr (.inr 1826)), (1, .inl t), (2, .inl h)]) (st' := [.inr (.inr 1826)]) rfl ?_
          have g139 : -2147483648 ≤ (H.1 1826 40) ∧ (H.1 1826 40) ≤ 2147483647 := hrg0.1 1826 13 40 _ .int rfl rfl
          refine h_cv (i := 344) (j := 168) (b := 1826) (M' := mt_168) (xs := []) (rest := []) rfl rfl rfl rfl rfl rfl (Nat.le_of_ble_eq_true rfl) (Nat.le_of_ble_eq_true rfl) (by omega) (m_countC (by omega) (by omega : (2 : Int) ≠ 0) (by omega : 0 ≤ (H.1 1826 40) ∧ (H.1 1826 40) ≤ 1000)) ?_
          rintro _ _ ⟨rfl, rfl⟩
          refine h_run 0 (pc' := 65) (l' := [(0, .inr (.inr 1826)), (1, .inl t), (2, .inl h)]) (st' := []) rfl ?_
          refine h_run 2 (pc' := 67) (l' := [(0, .inr (.inr 1826)), (1, .inl t), (2, .inl h)]) (st' := [.inl 0, .inr (.inr 1826)]) rfl ?_
          refine h_cv (i := 350) (j := 169) (b := 1826) (M' := mt_169) (xs := [.inl 0]) (rest := []) rfl rfl rfl rfl rfl rfl (Nat.le_of_ble_eq_true rfl) (Nat.le_of_ble_eq_true rfl) (by omega) (m_put0 (by omega) (by omega : (2 : Int) ≠ 0)) ?_
          rintro _ _ ⟨rfl, rfl⟩
          refine h_run 0 (pc' := 70) (l' := [(0, .inr (.inr 1826)), (1, .inl t), (2, .inl h)]) (st' := []) rfl ?_
          refine h_run 1 (pc' := 71) (l' := [(0, .inr (.inr 1826)), (1, .inl t), (2, .inl h)]) (st' := [.inr (.inr 1826)]) rfl ?_
          refine h_cv (i := 293) (j := 158) (b := 1826) (M' := mt_158) (xs := []) (rest := []) rfl rfl rfl rfl rfl rfl (Nat.le_of_ble_eq_true rfl) (Nat.le_of_ble_eq_true rfl) (by omega) (m_good0 (by omega) (by omega : (2 : Int) ≠ 0)) ?_
          rintro _ _ ⟨rfl, rfl⟩
          refine h_run 0 (pc' := 74) (l' := [(0, .inr (.inr 1826)), (1, .inl t), (2, .inl h)]) (st' := [.inl 0]) rfl ?_
          refine h_zeq (off := 7) (t := 81) rfl rfl (by decide) (fun _ => ?_) (fun c => absurd c (by decide))
          refine h_run 1 (pc' := 82) (l' := [(0, .inr (.inr 1826)), (1, .inl t), (2, .inl h)]) (st' := [.inl t]) rfl ?_
          refine h_reti (x := t) rfl rfl ?_
          have g140 : -2147483648 ≤ (H.1 1826 30) ∧ (H.1 1826 30) ≤ 2147483647 := hrg0.1 1826 13 30 _ .int rfl rfl
          have g141 : -2147483648 ≤ (H.1 1826 32) ∧ (H.1 1826 32) ≤ 2147483647 := hrg0.1 1826 13 32 _ .int rfl rfl
          have g142 : -2147483648 ≤ (H.1 1826 29) ∧ (H.1 1826 29) ≤ 2147483647 := hrg0.1 1826 13 29 _ .int rfl rfl
          have g143 : -2147483648 ≤ (H.1 1826 1) ∧ (H.1 1826 1) ≤ 2147483647 := hrg0.1 1826 13 1 _ .int rfl rfl
          have g144 : -2147483648 ≤ (H.1 1826 39) ∧ (H.1 1826 39) ≤ 2147483647 := hrg0.1 1826 13 39 _ .int rfl rfl
          exact ⟨⟨t, rfl, by omega, by omega, (Or.inr ⟨(by omega : (2 : Int) ≠ 0), (BD_mk hR (fr_o (fr_o (fr_o (fr_rf [35, 36, 40] [] H) (by decide)) (by decide)) (by decide)) (by decide) (by decide) (by decide : (2 : Int) ≠ 0) rfl rfl (rch_st hq (by show stTerm Y (me e t) (H.1 1826 41) (1 - h) (SK e H ++ K) X = _; unfold stTerm stApp stVar miss; (repeat (first | rw [if_pos (by omega)] | rw [if_neg (by omega)])); try (first | rfl | (exfalso; omega)))))⟩)⟩, (fr_o (fr_o (fr_o (fr_rf _ _ _) (by decide)) (by decide)) (by decide)), (by omega : (H.1 1826 30) ≤ (H.1 1826 30) ∧ (H.1 1826 30) ≤ (H.1 1826 29)), (by omega : 0 ≤ (2 : Int) ∧ (2 : Int) ≤ 5), (by omega : 0 ≤ (H.1 1826 32) ∧ (H.1 1826 32) ≤ 1000), (by omega : (2 : Int) = 0 → (H.1 1826 31) ≠ 0 ∧ ((H.1 1826 31) = 0 ∨ (H.1 1826 30) < (H.1 1826 30))), (by omega : ((H.1 1826 44) ≠ 2 → (H.1 1826 39) = (H.1 1826 39)) ∧ (H.1 1826 39) ≤ (H.1 1826 39)), (fun (q : (2 : Int) = 0) => absurd q (by omega))⟩
  · refine h_run 1 (pc' := 10) (l' := [(0, .inr (.inr 1826)), (1, .inl t), (2, .inl h)]) (st' := [.inr (.inr 1826)]) rfl ?_
    have g145 : -2147483648 ≤ (H.1 1826 35) ∧ (H.1 1826 35) ≤ 2147483647 := hrg0.1 1826 13 35 _ .int rfl rfl
    have g146 : -2147483648 ≤ (H.1 1826 41) ∧ (H.1 1826 41) ≤ 2147483647 := hrg0.1 1826 13 41 _ .int rfl rfl
    by_cases b147 : (H.1 1826 41) = 10
    · refine h_cv (i := 357) (j := 176) (b := 1826) (M' := mt_176) (xs := []) (rest := []) rfl rfl rfl rfl rfl rfl (Nat.le_of_ble_eq_true rfl) (Nat.le_of_ble_eq_true rfl) (by omega) (m_deepB (by omega) (by omega : (H.1 1826 35) = 0) (by omega : (H.1 1826 41) = 10)) ?_
      rintro _ _ ⟨rfl, rfl⟩
      refine h_run 0 (pc' := 13) (l' := [(0, .inr (.inr 1826)), (1, .inl t), (2, .inl h)]) (st' := []) rfl ?_
      refine h_run 1 (pc' := 14) (l' := [(0, .inr (.inr 1826)), (1, .inl t), (2, .inl h)]) (st' := [.inr (.inr 1826)]) rfl ?_
      refine h_cv (i := 293) (j := 158) (b := 1826) (M' := mt_158) (xs := []) (rest := []) rfl rfl rfl rfl rfl rfl (Nat.le_of_ble_eq_true rfl) (Nat.le_of_ble_eq_true rfl) (by omega) (m_good0 (by omega) (by omega : (5 : Int) ≠ 0)) ?_
      rintro _ _ ⟨rfl, rfl⟩
      refine h_run 0 (pc' := 17) (l' := [(0, .inr (.inr 1826)), (1, .inl t), (2, .inl h)]) (st' := [.inl 0]) rfl ?_
      refine h_zeq (off := 15) (t := 32) rfl rfl (by decide) (fun _ => ?_) (fun c => absurd c (by decide))
      refine h_run 1 (pc' := 33) (l' := [(0, .inr (.inr 1826)), (1, .inl t), (2, .inl h)]) (st' := [.inl t]) rfl ?_
      refine h_reti (x := t) rfl rfl ?_
      have g148 : -2147483648 ≤ (H.1 1826 30) ∧ (H.1 1826 30) ≤ 2147483647 := hrg0.1 1826 13 30 _ .int rfl rfl
      have g149 : -2147483648 ≤ (H.1 1826 32) ∧ (H.1 1826 32) ≤ 2147483647 := hrg0.1 1826 13 32 _ .int rfl rfl
      have g150 : -2147483648 ≤ (H.1 1826 29) ∧ (H.1 1826 29) ≤ 2147483647 := hrg0.1 1826 13 29 _ .int rfl rfl
      have g151 : -2147483648 ≤ (H.1 1826 1) ∧ (H.1 1826 1) ≤ 2147483647 := hrg0.1 1826 13 1 _ .int rfl rfl
      have g152 : -2147483648 ≤ (H.1 1826 39) ∧ (H.1 1826 39) ≤ 2147483647 := hrg0.1 1826 13 39 _ .int rfl rfl
      have g153 : -2147483648 ≤ (H.1 1826 44) ∧ (H.1 1826 44) ≤ 2147483647 := hrg0.1 1826 13 44 _ .int rfl rfl
      exact ⟨⟨t, rfl, by omega, by omega, (Or.inr ⟨(by omega : (5 : Int) ≠ 0), (BD_mk hR (fr_o (fr_o (fr_o (fr_rf [35, 36, 41] [] H) (by decide)) (by decide)) (by decide)) (by decide) (by decide) (by decide : (5 : Int) ≠ 0) rfl rfl (rch_st hq (by show stTerm Y (me e t) (H.1 1826 41) (1 - h) (SK e H ++ K) X = _; unfold stTerm stApp stVar miss; (repeat (first | rw [if_pos (by omega)] | rw [if_neg (by omega)])); try (first | rfl | (exfalso; omega)))))⟩)⟩, (fr_o (fr_o (fr_o (fr_rf _ _ _) (by decide)) (by decide)) (by decide)), (by omega : (H.1 1826 30) ≤ (H.1 1826 30) ∧ (H.1 1826 30) ≤ (H.1 1826 29)), (by omega : 0 ≤ (5 : Int) ∧ (5 : Int) ≤ 5), (by omega : 0 ≤ (H.1 1826 32) ∧ (H.1 1826 32) ≤ 1000), (by omega : (5 : Int) = 0 → (H.1 1826 31) ≠ 0 ∧ ((H.1 1826 31) = 0 ∨ (H.1 1826 30) < (H.1 1826 30))), (by omega : ((H.1 1826 44) ≠ 2 → (H.1 1826 39) = (H.1 1826 39)) ∧ (H.1 1826 39) ≤ (H.1 1826 39)), (fun (q : (5 : Int) = 0) => absurd q (by omega))⟩
    · refine h_cv (i := 357) (j := 176) (b := 1826) (M' := mt_176) (xs := []) (rest := []) rfl rfl rfl rfl rfl rfl (Nat.le_of_ble_eq_true rfl) (Nat.le_of_ble_eq_true rfl) (by omega) (m_deepA (by omega) (by omega : (H.1 1826 35) = 0) (by omega : 0 ≤ (H.1 1826 41) ∧ (H.1 1826 41) ≤ 1000) (by omega : (H.1 1826 41) ≠ 10)) ?_
      rintro _ _ ⟨rfl, rfl⟩
      refine h_run 0 (pc' := 13) (l' := [(0, .inr (.inr 1826)), (1, .inl t), (2, .inl h)]) (st' := []) rfl ?_
      refine h_run 1 (pc' := 14) (l' := [(0, .inr (.inr 1826)), (1, .inl t), (2, .inl h)]) (st' := [.inr (.inr 1826)]) rfl ?_
      refine h_cv (i := 293) (j := 158) (b := 1826) (M' := mt_158) (xs := []) (rest := []) rfl rfl rfl rfl rfl rfl (Nat.le_of_ble_eq_true rfl) (Nat.le_of_ble_eq_true rfl) (by omega) (m_good1 (by omega) (by omega : (H.1 1826 35) = 0)) ?_
      rintro _ _ ⟨rfl, rfl⟩
      refine h_run 0 (pc' := 17) (l' := [(0, .inr (.inr 1826)), (1, .inl t), (2, .inl h)]) (st' := [.inl 1]) rfl ?_
      refine h_zeq (off := 15) (t := 32) rfl rfl (by decide) (fun c => absurd c (by decide)) (fun _ => ?_)
      refine h_run 3 (pc' := 25) (l' := [(0, .inr (.inr 1826)), (1, .inl t), (2, .inl h)]) (st' := [.inl t, .inl 5000, .inr (.inr 1826)]) rfl ?_
      have g154 : -2147483648 ≤ (H.1 1826 47) ∧ (H.1 1826 47) ≤ 2147483647 := hrg0.1 1826 13 47 _ .int rfl rfl
      refine h_cv (i := 364) (j := 181) (b := 1826) (M' := mt_181) (xs := [.inl t, .inl 5000]) (rest := []) rfl rfl rfl rfl rfl rfl (Nat.le_of_ble_eq_true rfl) (Nat.le_of_ble_eq_true rfl) (by omega) (m_enter (by omega) (by omega : 0 ≤ (H.1 1826 47) ∧ (H.1 1826 47) ≤ 63) (by omega) (by omega)) ?_
      rintro _ _ ⟨rfl, rfl⟩
      refine h_run 0 (pc' := 28) (l' := [(0, .inr (.inr 1826)), (1, .inl t), (2, .inl h)]) (st' := []) rfl ?_
      have hq9 : rch Y c0 ((2, me e t, (H.1 1826 41) + 1, 0) :: (1, 41, 0, 0) :: (SK e H ++ K), adv X) := (rch_st hq (by show stTerm Y (me e t) (H.1 1826 41) (1 - h) (SK e H ++ K) X = _; unfold stTerm stApp stVar miss; (repeat (first | rw [if_pos (by omega)] | rw [if_neg (by omega)])); try (first | rfl | (exfalso; omega))))
      refine h_run 1 (pc' := 29) (l' := [(0, .inr (.inr 1826)), (1, .inl t), (2, .inl h)]) (st' := [.inr (.inr 1826)]) rfl ?_
      have g155 : -2147483648 ≤ (H.1 1826 30) ∧ (H.1 1826 30) ≤ 2147483647 := hrg0.1 1826 13 30 _ .int rfl rfl
      have g156 : -2147483648 ≤ (H.1 1826 29) ∧ (H.1 1826 29) ≤ 2147483647 := hrg0.1 1826 13 29 _ .int rfl rfl
      have g157 : -2147483648 ≤ (H.1 1826 32) ∧ (H.1 1826 32) ≤ 2147483647 := hrg0.1 1826 13 32 _ .int rfl rfl
      refine h_cv (i := 297) (j := 165) (b := 1826) (M' := mt_165) (xs := []) (rest := []) rfl rfl rfl rfl rfl rfl (Nat.le_of_ble_eq_true rfl) (Nat.le_of_ble_eq_true rfl) (by omega) (n_nx (by omega) (by omega : 0 ≤ (H.1 1826 30) ∧ (H.1 1826 30) ≤ (H.1 1826 29) ∧ (H.1 1826 29) ≤ 1000) (by omega : 0 ≤ (H.1 1826 35) ∧ (H.1 1826 35) ≤ 5) (by omega : 0 ≤ (H.1 1826 32) ∧ (H.1 1826 32) ≤ 1000) (by omega : (H.1 1826 35) = 0) (X := (adv X)) (RN_adv hR (fr_o (fr_a (fr_a (fr_a (fr_o (fr_rf [41, 47] [1852, 1853, 1854] H) (by decide)) (by decide)) (by decide)) (by decide)) (by decide)) (by decide) (by decide)) hq9 (lk_n (by decide))) ?_
      rintro _ H158 ⟨rfl, hx158n, hx158f, hx158a, hx158b, hx158c, -, hx158e, hx158g⟩
      refine h_rng (fun hrg159 => ?_)
      have hf160 : fr [30, 31, 32, 33, 35, 36, 39, 40, 41, 43, 47] [1849, 1850, 1851, 1852, 1853, 1854] H H158 := fr_t (fr_o (fr_a (fr_a (fr_a (fr_o (fr_rf _ _ _) (by decide)) (by decide)) (by decide)) (by decide)) (by decide)) hx158f (by decide) (by decide)
      replace hx158a : (H.1 1826 30) ≤ (H158.1 1826 30) := hx158a
      replace hx158b : (H158.1 1826 30) ≤ (H.1 1826 29) := hx158b
      replace hx158g : (H158.1 1826 35) = 0 → ((H158.1 1826 31) = 0 ∨ (H.1 1826 30) < (H158.1 1826 30)) := hx158g
      refine h_run 0 (pc' := 32) (l' := [(0, .inr (.inr 1826)), (1, .inl t), (2, .inl h)]) (st' := []) rfl ?_
      refine h_run 1 (pc' := 33) (l' := [(0, .inr (.inr 1826)), (1, .inl t), (2, .inl h)]) (st' := [.inl t]) rfl ?_
      refine h_reti (x := t) rfl rfl ?_
      have g161 : -2147483648 ≤ (H158.1 1826 30) ∧ (H158.1 1826 30) ≤ 2147483647 := hrg159.1 1826 13 30 _ .int rfl rfl
      have g162 : -2147483648 ≤ (H158.1 1826 35) ∧ (H158.1 1826 35) ≤ 2147483647 := hrg159.1 1826 13 35 _ .int rfl rfl
      have g163 : -2147483648 ≤ (H158.1 1826 32) ∧ (H158.1 1826 32) ≤ 2147483647 := hrg159.1 1826 13 32 _ .int rfl rfl
      have g164 : -2147483648 ≤ (H158.1 1826 29) ∧ (H158.1 1826 29) ≤ 2147483647 := hrg159.1 1826 13 29 _ .int rfl rfl
      have e165 : (H158.1 1826 29) = (H.1 1826 29) := hx158f.2.2 29 (by decide)
      have g166 : -2147483648 ≤ (H158.1 1826 31) ∧ (H158.1 1826 31) ≤ 2147483647 := hrg159.1 1826 13 31 _ .int rfl rfl
      have g167 : -2147483648 ≤ (H158.1 1826 1) ∧ (H158.1 1826 1) ≤ 2147483647 := hrg159.1 1826 13 1 _ .int rfl rfl
      have e168 : (H158.1 1826 1) = (H.1 1826 1) := hx158f.2.2 1 (by decide)
      have g169 : -2147483648 ≤ (H158.1 1826 39) ∧ (H158.1 1826 39) ≤ 2147483647 := hrg159.1 1826 13 39 _ .int rfl rfl
      have e170 : (H158.1 1826 39) = (H.1 1826 39) := hx158f.2.2 39 (by decide)
      have g171 : -2147483648 ≤ (H158.1 1826 44) ∧ (H158.1 1826 44) ≤ 2147483647 := hrg159.1 1826 13 44 _ .int rfl rfl
      have e172 : (H158.1 1826 44) = (H.1 1826 44) := hx158f.2.2 44 (by decide)
      exact ⟨⟨t, rfl, by omega, by omega, (GB_i hx158n (fun q => ⟨_, (by rw [SK_open (H := H) (t := t) (by omega) (hx158f.2.2 47 (by decide)) (hx158f.2.1 1852 (by decide) (by decide)) (hx158f.2.1 1853 (by decide) (by decide)) (hx158f.2.1 1854 (by decide) (by decide)), hto, ← ta3]; exact hq9), ⟨q, VR_adv hU.2.1 (hx158f.2.2 40 (by decide)) (hx158f.2.2 44 (by decide)) (hx158f.2.2 39 (by decide)) (hx158f.2.1 1849 (by decide) (by decide)) (hx158f.2.1 1850 (by decide) (by decide)), B0_open hU.2.2.1 (hx158f.2.2 40 (by decide)) (hx158f.2.2 44 (by decide)) (by omega) (hx158f.2.2 47 (by decide)) (hx158f.2.1 1852 (by decide) (by decide)) (hx158f.2.1 1854 (by decide) (by decide)) ht0 hty, RD_same hU.2.2.2 (adv_s X).2.1 (adv_s X).2.2.2.2.2 (hx158f.2.2 43 (by decide)) (hx158f.2.1 1851 (by decide) (by decide))⟩, FH_adv (fun q9 => ht0 (by omega))⟩))⟩, hf160, (by omega : (H.1 1826 30) ≤ (H158.1 1826 30) ∧ (H158.1 1826 30) ≤ (H.1 1826 29)), (by omega : 0 ≤ (H158.1 1826 35) ∧ (H158.1 1826 35) ≤ 5), (by omega : 0 ≤ (H158.1 1826 32) ∧ (H158.1 1826 32) ≤ 1000), (by omega : (H158.1 1826 35) = 0 → (H.1 1826 31) ≠ 0 ∧ ((H158.1 1826 31) = 0 ∨ (H.1 1826 30) < (H158.1 1826 30))), (by omega : ((H.1 1826 44) ≠ 2 → (H158.1 1826 39) = (H.1 1826 39)) ∧ (H.1 1826 39) ≤ (H158.1 1826 39)), fun _ => TT_open (t := t) hTT ⟨⟨(hx158f.2.2 1 (by decide)), (hx158f.2.2 3 (by decide)), (hx158f.2.2 8 (by decide)), (hx158f.2.2 44 (by decide))⟩, (hx158f.2.1 1833 (by decide) (by decide)), (hx158f.2.1 1830 (by decide) (by decide))⟩ (by omega) (by omega) ⟨(hx158f.2.2 40 (by decide)), (hx158f.2.2 43 (by decide)), (hx158f.2.2 41 (by decide))⟩ (hx158f.2.1 1851 (by decide) (by decide)) ⟨(hx158f.2.2 39 (by decide)), (hx158f.2.1 1850 (by decide) (by decide))⟩ (hx158f.2.2 47 (by decide)) (hx158f.2.1 1852 (by decide) (by decide)) (hx158f.2.1 1853 (by decide) (by decide)) (hx158f.2.1 1854 (by decide) (by decide))⟩

/-! term -/
set_option maxRecDepth 100000 in
theorem n_term_cut {zC : Nat → Option zsh} {d : Nat} (hd : 7 ≤ d) {H : hp} {t : Int} {Y : yx} {m : Int} {c0 : cf} {K : List tq} {X : rx} {e : Int} (h0 : 0 ≤ (H.1 1826 30) ∧ (H.1 1826 30) ≤ (H.1 1826 29) ∧ (H.1 1826 29) ≤ 1000) (hw : 0 ≤ (H.1 1826 35) ∧ (H.1 1826 35) ≤ 5) (hst : 0 ≤ (H.1 1826 32) ∧ (H.1 1826 32) ≤ 1000) (hP : PWc H) (hso : 1 ≤ (H.1 1826 44) ∧ (H.1 1826 44) ≤ 3) (ht : -1 ≤ t ∧ t < (H.1 1826 1)) (hop : 0 ≤ (H.1 1826 41) ∧ (H.1 1826 41) ≤ 10) (hs0 : (H.1 1826 35) = 0 → (H.1 1826 41) = 0 ∧ (H.1 1826 40) = 0 ∧ (H.1 1826 43) = 0 ∧ (0 ≤ (H.1 1826 39) ∧ (H.1 1826 39) ≤ 39 ∧ ((H.1 1826 44) = 2 → (H.1 1826 39) ≤ 6)) ∧ ((H.1 1826 44) = 2 → ∀ v : Nat, (v : Int) < (H.1 1826 39) → 0 ≤ (H.1 1850) v ∧ (H.1 1850) v < (H.1 1826 1))) (hw0 : (H.1 1826 35) = 0) (hR : RK Y m H X) (hV : VR H X) (hmf : (H.1 1826 8) = m) (he : ((H.1 1826 44) = 2 ∧ e = -2) ∨ ((H.1 1826 44) ≠ 2 ∧ e = -1)) (hq : rch Y c0 ((2, me e t, 0, 0) :: K, X)) (hK : lkK K) (hty : (H.1 1826 44) = 1 → 0 ≤ t) : ∀ w : Nat, (∀ (H1 : hp) (fi : Int) (wt : Int) (hd9 : Int) (dp : Int), (fr [30, 31, 32, 33, 35, 36, 39, 40, 41, 43, 47] [1849, 1850, 1851, 1852, 1853, 1854] H H1) → ((H.1 1826 30) ≤ (H1.1 1826 30) ∧ (H1.1 1826 30) ≤ (H.1 1826 29)) → (0 ≤ (H1.1 1826 35) ∧ (H1.1 1826 35) ≤ 5) → (0 ≤ (H1.1 1826 32) ∧ (H1.1 1826 32) ≤ 1000) → ((H.1 1826 35) ≠ 0 → (H1.1 1826 35) ≠ 0) → (((H.1 1826 44) ≠ 2 → (H1.1 1826 39) = (H.1 1826 39)) ∧ (H.1 1826 39) ≤ (H1.1 1826 39)) → (-1 ≤ fi ∧ fi < (H.1 1826 1)) → (-1 ≤ wt ∧ wt < (H.1 1826 1)) → (0 ≤ hd9 ∧ hd9 ≤ 1) → (0 ≤ dp ∧ dp ≤ 10) → (hid ((H1.1 1826 35) = 0 → TT H1 1)) → (GB Y m c0 H1 (TG Y m c0 K e t X 1 wt hd9 fi H1)) → mv (H1.1 1826 35) (H1.1 1826 31) (H1.1 1826 30) (H.1 1826 29) (H1.1 1826 47) 0 < w → hG (zs zC) d mt_180 21 [(0, .inr (.inr 1826)), (2, .inl fi), (3, .inl 1), (4, .inl wt), (5, .inl hd9), (6, .inl dp)] [] H1 (fun r H2 => (∃ r0 : Int, r = some (.inl r0) ∧ -1 ≤ r0 ∧ r0 < (H.1 1826 1) ∧ GB Y m c0 H2 (∃ X2 : rx, rch Y c0 (K, X2) ∧ RK Y m H2 X2 ∧ VR H2 X2 ∧ FI t X2 r0 ∧ sW X X2 ∧ RD H2 X2)) ∧ fr [30, 31, 32, 33, 35, 36, 39, 40, 41, 43, 47] [1849, 1850, 1851, 1852, 1853, 1854] H H2 ∧ ((H.1 1826 30) ≤ (H2.1 1826 30) ∧ (H2.1 1826 30) ≤ (H.1 1826 29)) ∧ (0 ≤ (H2.1 1826 35) ∧ (H2.1 1826 35) ≤ 5) ∧ ((H.1 1826 35) ≠ 0 → (H2.1 1826 35) ≠ 0) ∧ (0 ≤ (H2.1 1826 32) ∧ (H2.1 1826 32) ≤ 1000) ∧ (((H.1 1826 44) ≠ 2 → (H2.1 1826 39) = (H.1 1826 39)) ∧ (H.1 1826 39) ≤ (H2.1 1826 39)) ∧ hid ((H2.1 1826 35) = 0 → (∃ k : Nat, (H2.1 1826 43) = k ∧ k ≤ 40 ∧ tm (ma (H2.1 1833) (H2.1 1830)) (m_sg (H2.1 1826 3) (H2.1 1826 8) (H2.1 1826 39)) (H2.1 1851) k 0 1) ∧ TT H2 0))) ∧ (∀ (H1 : hp) (fi : Int) (wt : Int) (hd9 : Int) (dp : Int) (b : Nat), (fr [30, 31, 32, 33, 35, 36, 39, 40, 41, 43, 47] [1849, 1850, 1851, 1852, 1853, 1854] H H1) → ((H.1 1826 30) ≤ (H1.1 1826 30) ∧ (H1.1 1826 30) ≤ (H.1 1826 29)) → (0 ≤ (H1.1 1826 35) ∧ (H1.1 1826 35) ≤ 5) → (0 ≤ (H1.1 1826 32) ∧ (H1.1 1826 32) ≤ 1000) → ((H.1 1826 35) ≠ 0 → (H1.1 1826 35) ≠ 0) → (((H.1 1826 44) ≠ 2 → (H1.1 1826 39) = (H.1 1826 39)) ∧ (H.1 1826 39) ≤ (H1.1 1826 39)) → (-1 ≤ fi ∧ fi < (H.1 1826 1)) → (-1 ≤ wt ∧ wt < (H.1 1826 1)) → (0 ≤ hd9 ∧ hd9 ≤ 1) → (0 ≤ dp ∧ dp ≤ 10) → (b ≤ 1) → (hid ((H1.1 1826 35) = 0 → TT H1 (b : Int))) → (GB Y m c0 H1 (TG Y m c0 K e t X b wt hd9 fi H1)) → mv (H1.1 1826 35) (H1.1 1826 31) (H1.1 1826 30) (H.1 1826 29) (H1.1 1826 47) (2 - b) < w → hG (zs zC) d mt_180 56 [(0, .inr (.inr 1826)), (2, .inl fi), (3, .inl (b : Int)), (4, .inl wt), (5, .inl hd9), (6, .inl dp)] [] H1 (fun r H2 => (∃ r0 : Int, r = some (.inl r0) ∧ -1 ≤ r0 ∧ r0 < (H.1 1826 1) ∧ GB Y m c0 H2 (∃ X2 : rx, rch Y c0 (K, X2) ∧ RK Y m H2 X2 ∧ VR H2 X2 ∧ FI t X2 r0 ∧ sW X X2 ∧ RD H2 X2)) ∧ fr [30, 31, 32, 33, 35, 36, 39, 40, 41, 43, 47] [1849, 1850, 1851, 1852, 1853, 1854] H H2 ∧ ((H.1 1826 30) ≤ (H2.1 1826 30) ∧ (H2.1 1826 30) ≤ (H.1 1826 29)) ∧ (0 ≤ (H2.1 1826 35) ∧ (H2.1 1826 35) ≤ 5) ∧ ((H.1 1826 35) ≠ 0 → (H2.1 1826 35) ≠ 0) ∧ (0 ≤ (H2.1 1826 32) ∧ (H2.1 1826 32) ≤ 1000) ∧ (((H.1 1826 44) ≠ 2 → (H2.1 1826 39) = (H.1 1826 39)) ∧ (H.1 1826 39) ≤ (H2.1 1826 39)) ∧ hid ((H2.1 1826 35) = 0 → (∃ k : Nat, (H2.1 1826 43) = k ∧ k ≤ 40 ∧ tm (ma (H2.1 1833) (H2.1 1830)) (m_sg (H2.1 1826 3) (H2.1 1826 8) (H2.1 1826 39)) (H2.1 1851) k 0 1) ∧ TT H2 0))) := by
  intro w
  induction w with
  | zero => exact ⟨fun _ _ _ _ _ _ _ _ _ _ _ _ _ _ _ _ _ h => absurd h (Nat.not_lt_zero _), fun _ _ _ _ _ _ _ _ _ _ _ _ _ _ _ _ _ _ _ h => absurd h (Nat.not_lt_zero _)⟩
  | succ w ih =>
    refine ⟨?_, ?_⟩
    · intro H1 fi wt hd9 dp hf ha hk hst1 hwk hvs hfi hwt hhd hdp hTT hTG hw
      refine h_rng (fun hrg1 => ?_)
      have ety : (H1.1 1826 1) = (H.1 1826 1) := hf.2.2 1 (by decide)
      have eco : (H1.1 1826 3) = (H.1 1826 3) := hf.2.2 3 (by decide)
      have efu : (H1.1 1826 8) = (H.1 1826 8) := hf.2.2 8 (by decide)
      have eso : (H1.1 1826 44) = (H.1 1826 44) := hf.2.2 44 (by decide)
      have hP1 := PWc_fr hP hf (by decide) (by decide)
      obtain ⟨⟨-, hc16, hf16, -, -⟩, -⟩ := (id hP : PW H (H.1 1826 1) (H.1 1826 3) (H.1 1826 8) (H.1 1826 13) (H.1 1826 19))
      refine h_run 1 (pc' := 22) (l' := [(0, .inr (.inr 1826)), (2, .inl fi), (3, .inl 1), (4, .inl wt), (5, .inl hd9), (6, .inl dp)]) (st' := [.inr (.inr 1826)]) rfl ?_
      have g2 : -2147483648 ≤ (H1.1 1826 35) ∧ (H1.1 1826 35) ≤ 2147483647 := hrg1.1 1826 13 35 _ .int rfl rfl
      refine h_cv (i := 293) (j := 158) (b := 1826) (M' := mt_158) (xs := []) (rest := []) rfl rfl rfl rfl rfl rfl (Nat.le_of_ble_eq_true rfl) (Nat.le_of_ble_eq_true rfl) (by omega) (m_good (by omega)) ?_
      rintro _ _ ⟨⟨rfl, b3⟩ | ⟨rfl, b3⟩, rfl⟩
      · have b3x : (H1.1 1826 35) = 0 := b3
        refine h_run 0 (pc' := 25) (l' := [(0, .inr (.inr 1826)), (2, .inl fi), (3, .inl 1), (4, .inl wt), (5, .inl hd9), (6, .inl dp)]) (st' := [.inl 1]) rfl ?_
        refine h_zeq (off := 227) (t := 252) rfl rfl (by decide) (fun c => absurd c (by decide)) (fun _ => ?_)
        refine h_run 1 (pc' := 29) (l' := [(0, .inr (.inr 1826)), (2, .inl fi), (3, .inl 1), (4, .inl wt), (5, .inl hd9), (6, .inl dp)]) (st' := [.inl 1]) rfl ?_
        refine h_zeq (off := 25) (t := 54) rfl rfl (by decide) (fun c => absurd c (by decide)) (fun _ => ?_)
        clear hwk
        have hT1 : TT H1 1 := hTT (by omega)
        obtain ⟨n, m9, k9, ⟨ta1, ta2, ta3, ta4⟩, ⟨tb1, tb2, tb3⟩, -, tS, -, -⟩ := id hT1
        have tcb := cb_nn (ou := (H1.1 1852)) (n := n)
        obtain ⟨X1, hq1, hU1, hFI, hn1, hy1, hsT⟩ := TG_g1 (GB_g hTG (by omega))
        refine h_run 3 (pc' := 37) (l' := [(0, .inr (.inr 1826)), (2, .inl fi), (3, .inl 1), (4, .inl wt), (5, .inl hd9), (6, .inl dp)]) (st' := [.inl hd9, .inl wt, .inr (.inr 1826)]) rfl ?_
        have g4 : -2147483648 ≤ (H1.1 1826 30) ∧ (H1.1 1826 30) ≤ 2147483647 := hrg1.1 1826 13 30 _ .int rfl rfl
        have g5 : -2147483648 ≤ (H1.1 1826 29) ∧ (H1.1 1826 29) ≤ 2147483647 := hrg1.1 1826 13 29 _ .int rfl rfl
        have e6 : (H1.1 1826 29) = (H.1 1826 29) := hf.2.2 29 (by decide)
        have g7 : -2147483648 ≤ (H1.1 1826 44) ∧ (H1.1 1826 44) ≤ 2147483647 := hrg1.1 1826 13 44 _ .int rfl rfl
        have e8 : (H1.1 1826 44) = (H.1 1826 44) := hf.2.2 44 (by decide)
        have g9 : -2147483648 ≤ (H1.1 1826 1) ∧ (H1.1 1826 1) ≤ 2147483647 := hrg1.1 1826 13 1 _ .int rfl rfl
        have e10 : (H1.1 1826 1) = (H.1 1826 1) := hf.2.2 1 (by decide)
        have g11 : -2147483648 ≤ (H1.1 1826 8) ∧ (H1.1 1826 8) ≤ 2147483647 := hrg1.1 1826 13 8 _ .int rfl rfl
        have e12 : (H1.1 1826 8) = (H.1 1826 8) := hf.2.2 8 (by decide)
        have g13 : -2147483648 ≤ (H1.1 1826 31) ∧ (H1.1 1826 31) ≤ 2147483647 := hrg1.1 1826 13 31 _ .int rfl rfl
        have g15 : -2147483648 ≤ (H1.1 1826 39) ∧ (H1.1 1826 39) ≤ 2147483647 := hrg1.1 1826 13 39 _ .int rfl rfl
        have g16 : -2147483648 ≤ (H1.1 1826 32) ∧ (H1.1 1826 32) ≤ 2147483647 := hrg1.1 1826 13 32 _ .int rfl rfl
        refine h_cv (i := 360) (j := 182) (b := 1826) (M' := mt_182) (xs := [.inl hd9, .inl wt]) (rest := []) rfl rfl rfl rfl rfl rfl (Nat.le_of_ble_eq_true rfl) (Nat.le_of_ble_eq_true rfl) (by omega) (n_head (by omega) (by omega : 0 ≤ (H1.1 1826 30) ∧ (H1.1 1826 30) ≤ (H1.1 1826 29) ∧ (H1.1 1826 29) ≤ 1000) (by omega : 0 ≤ (H1.1 1826 35) ∧ (H1.1 1826 35) ≤ 5) (by omega : 0 ≤ (H1.1 1826 32) ∧ (H1.1 1826 32) ≤ 1000) (by omega : (H1.1 1826 35) = 0) hP1 hT1 (by omega : 1 ≤ (H1.1 1826 44) ∧ (H1.1 1826 44) ≤ 3) (by omega) (by omega) hU1 (by omega : (H1.1 1826 8) = m) (by omega : ((H1.1 1826 44) = 2 ∧ e = -2) ∨ ((H1.1 1826 44) ≠ 2 ∧ e = -1)) hq1 hK hn1 hy1) ?_
        rintro _ H14 ⟨⟨hx14r, rfl, hx14x, hx14y, hx14n⟩, hx14f, hx14a, hx14c, hx14e, hx14g, hx14v, hx14p⟩
        refine h_rng (fun hrg17 => ?_)
        have hf18 : fr [30, 31, 32, 33, 35, 36, 39, 40, 41, 43, 47] [1849, 1850, 1851, 1852, 1853, 1854] H H14 := fr_t hf hx14f (by decide) (by decide)
        replace hx14y : hx14r < (H1.1 1826 1) := hx14y
        replace hx14a : (H1.1 1826 30) ≤ (H14.1 1826 30) ∧ (H14.1 1826 30) ≤ (H1.1 1826 29) := hx14a
        replace hx14g : (H14.1 1826 35) = 0 → (H1.1 1826 31) ≠ 0 ∧ ((H14.1 1826 31) = 0 ∨ (H1.1 1826 30) < (H14.1 1826 30)) := hx14g
        have hx14o : (H14.1 1826 35) = 0 → 0 ≤ (H14.1 1826 47) ∧ (H14.1 1826 47) ≤ 60 := fun q => TT_ou (hx14p q)
        replace hx14v : ((H1.1 1826 44) ≠ 2 → (H14.1 1826 39) = (H1.1 1826 39)) ∧ (H1.1 1826 39) ≤ (H14.1 1826 39) := hx14v
        refine h_run 0 (pc' := 40) (l' := [(0, .inr (.inr 1826)), (2, .inl fi), (3, .inl 1), (4, .inl wt), (5, .inl hd9), (6, .inl dp)]) (st' := [.inl hx14r]) rfl ?_
        refine h_run 3 (pc' := 44) (l' := [(0, .inr (.inr 1826)), (2, .inl fi), (3, .inl 1), (4, .inl wt), (5, .inl hd9), (6, .inl dp), (7, .inl hx14r)]) (st' := [.inl (-1), .inl fi]) rfl ?_
        refine h_ine (off := 8) (t := 52) rfl rfl (by omega) (by decide) (fun c19 => ?_) (fun c19 => ?_)
        · refine h_run 4 (pc' := 56) (l' := [(0, .inr (.inr 1826)), (2, .inl fi), (3, .inl 0), (4, .inl wt), (5, .inl hd9), (6, .inl dp), (7, .inl hx14r)]) (st' := []) rfl ?_
          have g20 : -2147483648 ≤ (H14.1 1826 30) ∧ (H14.1 1826 30) ≤ 2147483647 := hrg17.1 1826 13 30 _ .int rfl rfl
          have g21 : -2147483648 ≤ (H14.1 1826 35) ∧ (H14.1 1826 35) ≤ 2147483647 := hrg17.1 1826 13 35 _ .int rfl rfl
          have g22 : -2147483648 ≤ (H14.1 1826 32) ∧ (H14.1 1826 32) ≤ 2147483647 := hrg17.1 1826 13 32 _ .int rfl rfl
          have g23 : -2147483648 ≤ (H14.1 1826 31) ∧ (H14.1 1826 31) ≤ 2147483647 := hrg17.1 1826 13 31 _ .int rfl rfl
          have g24 : -2147483648 ≤ (H14.1 1826 29) ∧ (H14.1 1826 29) ≤ 2147483647 := hrg17.1 1826 13 29 _ .int rfl rfl
          have e25 : (H14.1 1826 29) = (H1.1 1826 29) := hx14f.2.2 29 (by decide)
          have g26 : -2147483648 ≤ (H14.1 1826 47) ∧ (H14.1 1826 47) ≤ 2147483647 := hrg17.1 1826 13 47 _ .int rfl rfl
          have g27 : -2147483648 ≤ (H14.1 1826 39) ∧ (H14.1 1826 39) ≤ 2147483647 := hrg17.1 1826 13 39 _ .int rfl rfl
          have g28 : -2147483648 ≤ (H14.1 1826 44) ∧ (H14.1 1826 44) ≤ 2147483647 := hrg17.1 1826 13 44 _ .int rfl rfl
          have e29 : (H14.1 1826 44) = (H1.1 1826 44) := hx14f.2.2 44 (by decide)
          have g30 : -2147483648 ≤ (H14.1 1826 8) ∧ (H14.1 1826 8) ≤ 2147483647 := hrg17.1 1826 13 8 _ .int rfl rfl
          have e31 : (H14.1 1826 8) = (H1.1 1826 8) := hx14f.2.2 8 (by decide)
          have g32 : -2147483648 ≤ (H14.1 1826 41) ∧ (H14.1 1826 41) ≤ 2147483647 := hrg17.1 1826 13 41 _ .int rfl rfl
          refine h_loc [0, 2, 3, 4, 5, 6] rfl ?_
          exact ih.2 _ fi wt hd9 dp 0 hf18 (by omega : (H.1 1826 30) ≤ (H14.1 1826 30) ∧ (H14.1 1826 30) ≤ (H.1 1826 29)) (by omega : 0 ≤ (H14.1 1826 35) ∧ (H14.1 1826 35) ≤ 5) (by omega : 0 ≤ (H14.1 1826 32) ∧ (H14.1 1826 32) ≤ 1000) (by omega : (H.1 1826 35) ≠ 0 → (H14.1 1826 35) ≠ 0) (by omega : ((H.1 1826 44) ≠ 2 → (H14.1 1826 39) = (H.1 1826 39)) ∧ (H.1 1826 39) ≤ (H14.1 1826 39)) (by omega : -1 ≤ fi ∧ fi < (H.1 1826 1)) (by omega : -1 ≤ wt ∧ wt < (H.1 1826 1)) (by omega : 0 ≤ hd9 ∧ hd9 ≤ 1) (by omega : 0 ≤ dp ∧ dp ≤ 10) (by omega) hx14p (GB_i hx14n (fun q => q.elim (fun X2 g => TG_0 g.1 g.2.1 (by have q9 := g.2.2.2 _ hFI; rw [if_neg (by omega)] at q9; exact q9) (sW_tr hsT g.2.2.1)))) (mv_tok (b := 0) hw (Or.inl rfl) (by omega) (by omega : (H14.1 1826 35) ≠ 0 ∨ ((H14.1 1826 47) ≤ 100 ∧ (H1.1 1826 30) ≤ (H14.1 1826 30) ∧ (H14.1 1826 30) ≤ (H.1 1826 29) ∧ (((H14.1 1826 31) = 0 ∧ (H1.1 1826 31) ≠ 0) ∨ (H1.1 1826 30) < (H14.1 1826 30)))))
        · refine h_run 5 (pc' := 56) (l' := [(0, .inr (.inr 1826)), (2, .inl hx14r), (3, .inl 0), (4, .inl wt), (5, .inl hd9), (6, .inl dp), (7, .inl hx14r)]) (st' := []) rfl ?_
          have g33 : -2147483648 ≤ (H14.1 1826 30) ∧ (H14.1 1826 30) ≤ 2147483647 := hrg17.1 1826 13 30 _ .int rfl rfl
          have g34 : -2147483648 ≤ (H14.1 1826 35) ∧ (H14.1 1826 35) ≤ 2147483647 := hrg17.1 1826 13 35 _ .int rfl rfl
          have g35 : -2147483648 ≤ (H14.1 1826 32) ∧ (H14.1 1826 32) ≤ 2147483647 := hrg17.1 1826 13 32 _ .int rfl rfl
          have g36 : -2147483648 ≤ (H14.1 1826 31) ∧ (H14.1 1826 31) ≤ 2147483647 := hrg17.1 1826 13 31 _ .int rfl rfl
          have g37 : -2147483648 ≤ (H14.1 1826 29) ∧ (H14.1 1826 29) ≤ 2147483647 := hrg17.1 1826 13 29 _ .int rfl rfl
          have e38 : (H14.1 1826 29) = (H1.1 1826 29) := hx14f.2.2 29 (by decide)
          have g39 : -2147483648 ≤ (H14.1 1826 47) ∧ (H14.1 1826 47) ≤ 2147483647 := hrg17.1 1826 13 47 _ .int rfl rfl
          have g40 : -2147483648 ≤ (H14.1 1826 39) ∧ (H14.1 1826 39) ≤ 2147483647 := hrg17.1 1826 13 39 _ .int rfl rfl
          have g41 : -2147483648 ≤ (H14.1 1826 44) ∧ (H14.1 1826 44) ≤ 2147483647 := hrg17.1 1826 13 44 _ .int rfl rfl
          have e42 : (H14.1 1826 44) = (H1.1 1826 44) := hx14f.2.2 44 (by decide)
          have g43 : -2147483648 ≤ (H14.1 1826 8) ∧ (H14.1 1826 8) ≤ 2147483647 := hrg17.1 1826 13 8 _ .int rfl rfl
          have e44 : (H14.1 1826 8) = (H1.1 1826 8) := hx14f.2.2 8 (by decide)
          have g45 : -2147483648 ≤ (H14.1 1826 41) ∧ (H14.1 1826 41) ≤ 2147483647 := hrg17.1 1826 13 41 _ .int rfl rfl
          refine h_loc [0, 2, 3, 4, 5, 6] rfl ?_
          exact ih.2 _ hx14r wt hd9 dp 0 hf18 (by omega : (H.1 1826 30) ≤ (H14.1 1826 30) ∧ (H14.1 1826 30) ≤ (H.1 1826 29)) (by omega : 0 ≤ (H14.1 1826 35) ∧ (H14.1 1826 35) ≤ 5) (by omega : 0 ≤ (H14.1 1826 32) ∧ (H14.1 1826 32) ≤ 1000) (by omega : (H.1 1826 35) ≠ 0 → (H14.1 1826 35) ≠ 0) (by omega : ((H.1 1826 44) ≠ 2 → (H14.1 1826 39) = (H.1 1826 39)) ∧ (H.1 1826 39) ≤ (H14.1 1826 39)) (by omega : -1 ≤ hx14r ∧ hx14r < (H.1 1826 1)) (by omega : -1 ≤ wt ∧ wt < (H.1 1826 1)) (by omega : 0 ≤ hd9 ∧ hd9 ≤ 1) (by omega : 0 ≤ dp ∧ dp ≤ 10) (by omega) hx14p (GB_i hx14n (fun q => q.elim (fun X2 g => TG_0 g.1 g.2.1 (by have q9 := g.2.2.2 _ hFI; rw [if_pos (by omega)] at q9; exact q9) (sW_tr hsT g.2.2.1)))) (mv_tok (b := 0) hw (Or.inl rfl) (by omega) (by omega : (H14.1 1826 35) ≠ 0 ∨ ((H14.1 1826 47) ≤ 100 ∧ (H1.1 1826 30) ≤ (H14.1 1826 30) ∧ (H14.1 1826 30) ≤ (H.1 1826 29) ∧ (((H14.1 1826 31) = 0 ∧ (H1.1 1826 31) ≠ 0) ∨ (H1.1 1826 30) < (H14.1 1826 30)))))
      · have b3x : (H1.1 1826 35) ≠ 0 := b3
        refine h_run 0 (pc' := 25) (l' := [(0, .inr (.inr 1826)), (2, .inl fi), (3, .inl 1), (4, .inl wt), (5, .inl hd9), (6, .inl dp)]) (st' := [.inl 0]) rfl ?_
        refine h_zeq (off := 227) (t := 252) rfl rfl (by decide) (fun _ => ?_) (fun c => absurd c (by decide))
        refine h_run 2 (pc' := 255) (l' := [(0, .inr (.inr 1826)), (2, .inl fi), (3, .inl 1), (4, .inl wt), (5, .inl hd9), (6, .inl dp)]) (st' := [.inl dp, .inr (.inr 1826)]) rfl ?_
        refine h_puti (i := 335) (ci := 13) (k := 41) (a := 1826) (x := dp) rfl rfl rfl rfl rfl rfl (by decide) (by omega) ?_
        refine h_run 1 (pc' := 259) (l' := [(0, .inr (.inr 1826)), (2, .inl fi), (3, .inl 1), (4, .inl wt), (5, .inl hd9), (6, .inl dp)]) (st' := [.inl fi]) rfl ?_
        refine h_reti (x := fi) rfl rfl ?_
        have g46 : -2147483648 ≤ (H1.1 1826 30) ∧ (H1.1 1826 30) ≤ 2147483647 := hrg1.1 1826 13 30 _ .int rfl rfl
        have g47 : -2147483648 ≤ (H1.1 1826 32) ∧ (H1.1 1826 32) ≤ 2147483647 := hrg1.1 1826 13 32 _ .int rfl rfl
        have g48 : -2147483648 ≤ (H1.1 1826 29) ∧ (H1.1 1826 29) ≤ 2147483647 := hrg1.1 1826 13 29 _ .int rfl rfl
        have e49 : (H1.1 1826 29) = (H.1 1826 29) := hf.2.2 29 (by decide)
        have g50 : -2147483648 ≤ (H1.1 1826 1) ∧ (H1.1 1826 1) ≤ 2147483647 := hrg1.1 1826 13 1 _ .int rfl rfl
        have e51 : (H1.1 1826 1) = (H.1 1826 1) := hf.2.2 1 (by decide)
        have g52 : -2147483648 ≤ (H1.1 1826 39) ∧ (H1.1 1826 39) ≤ 2147483647 := hrg1.1 1826 13 39 _ .int rfl rfl
        have g53 : -2147483648 ≤ (H1.1 1826 44) ∧ (H1.1 1826 44) ≤ 2147483647 := hrg1.1 1826 13 44 _ .int rfl rfl
        have e54 : (H1.1 1826 44) = (H.1 1826 44) := hf.2.2 44 (by decide)
        exact ⟨⟨fi, rfl, by omega, by omega, (Or.inr ⟨(by omega : (H1.1 1826 35) ≠ 0), BD_fr (GB_b hTG (by omega)) (fr_o (fr_rf [41] [] H1) (by decide)) (by decide) (by decide)⟩)⟩, (fr_o hf (by decide)), (by omega : (H.1 1826 30) ≤ (H1.1 1826 30) ∧ (H1.1 1826 30) ≤ (H.1 1826 29)), (by omega : 0 ≤ (H1.1 1826 35) ∧ (H1.1 1826 35) ≤ 5), (by omega : (H.1 1826 35) ≠ 0 → (H1.1 1826 35) ≠ 0), (by omega : 0 ≤ (H1.1 1826 32) ∧ (H1.1 1826 32) ≤ 1000), (by omega : ((H.1 1826 44) ≠ 2 → (H1.1 1826 39) = (H.1 1826 39)) ∧ (H.1 1826 39) ≤ (H1.1 1826 39)), (fun (q : (H1.1 1826 35) = 0) => absurd q (by omega))⟩
    · intro H1 fi wt hd9 dp b hf ha hk hst1 hwk hvs hfi hwt hhd hdp hb hTT hTG hw
      refine h_rng (fun hrg55 => ?_)
      have ety : (H1.1 1826 1) = (H.1 1826 1) := hf.2.2 1 (by decide)
      have eco : (H1.1 1826 3) = (H.1 1826 3) := hf.2.2 3 (by decide)
      have efu : (H1.1 1826 8) = (H.1 1826 8) := hf.2.2 8 (by decide)
      have eso : (H1.1 1826 44) = (H.1 1826 44) := hf.2.2 44 (by decide)
      have hP1 := PWc_fr hP hf (by decide) (by decide)
      obtain ⟨⟨-, hc16, hf16, -, -⟩, -⟩ := (id hP : PW H (H.1 1826 1) (H.1 1826 3) (H.1 1826 8) (H.1 1826 13) (H.1 1826 19))
      refine h_run 1 (pc' := 57) (l' := [(0, .inr (.inr 1826)), (2, .inl fi), (3, .inl (b : Int)), (4, .inl wt), (5, .inl hd9), (6, .inl dp)]) (st' := [.inr (.inr 1826)]) rfl ?_
      have g56 : -2147483648 ≤ (H1.1 1826 35) ∧ (H1.1 1826 35) ≤ 2147483647 := hrg55.1 1826 13 35 _ .int rfl rfl
      refine h_cv (i := 293) (j := 158) (b := 1826) (M' := mt_158) (xs := []) (rest := []) rfl rfl rfl rfl rfl rfl (Nat.le_of_ble_eq_true rfl) (Nat.le_of_ble_eq_true rfl) (by omega) (m_good (by omega)) ?_
      rintro _ _ ⟨⟨rfl, b57⟩ | ⟨rfl, b57⟩, rfl⟩
      · have b57x : (H1.1 1826 35) = 0 := b57
        refine h_run 0 (pc' := 60) (l' := [(0, .inr (.inr 1826)), (2, .inl fi), (3, .inl (b : Int)), (4, .inl wt), (5, .inl hd9), (6, .inl dp)]) (st' := [.inl 1]) rfl ?_
        refine h_zeq (off := 186) (t := 246) rfl rfl (by decide) (fun c => absurd c (by decide)) (fun _ => ?_)
        refine h_run 1 (pc' := 64) (l' := [(0, .inr (.inr 1826)), (2, .inl fi), (3, .inl (b : Int)), (4, .inl wt), (5, .inl hd9), (6, .inl dp)]) (st' := [.inl (b : Int)]) rfl ?_
        refine h_zne (off := 182) (t := 246) rfl rfl (by omega) (fun c58 => ?_) (fun c58 => ?_)
        · skip
          refine h_run 1 (pc' := 247) (l' := [(0, .inr (.inr 1826)), (2, .inl fi), (3, .inl (b : Int)), (4, .inl wt), (5, .inl hd9), (6, .inl dp)]) (st' := [.inl (b : Int)]) rfl ?_
          refine h_zne (off := -226) (t := 21) rfl rfl (by omega) (fun c59 => ?_) (fun c59 => ?_)
          · have g60 : -2147483648 ≤ (H1.1 1826 30) ∧ (H1.1 1826 30) ≤ 2147483647 := hrg55.1 1826 13 30 _ .int rfl rfl
            have g61 : -2147483648 ≤ (H1.1 1826 32) ∧ (H1.1 1826 32) ≤ 2147483647 := hrg55.1 1826 13 32 _ .int rfl rfl
            have g62 : -2147483648 ≤ (H1.1 1826 31) ∧ (H1.1 1826 31) ≤ 2147483647 := hrg55.1 1826 13 31 _ .int rfl rfl
            have g63 : -2147483648 ≤ (H1.1 1826 29) ∧ (H1.1 1826 29) ≤ 2147483647 := hrg55.1 1826 13 29 _ .int rfl rfl
            have e64 : (H1.1 1826 29) = (H.1 1826 29) := hf.2.2 29 (by decide)
            have g65 : -2147483648 ≤ (H1.1 1826 47) ∧ (H1.1 1826 47) ≤ 2147483647 := hrg55.1 1826 13 47 _ .int rfl rfl
            have g66 : -2147483648 ≤ (H1.1 1826 39) ∧ (H1.1 1826 39) ≤ 2147483647 := hrg55.1 1826 13 39 _ .int rfl rfl
            have g67 : -2147483648 ≤ (H1.1 1826 44) ∧ (H1.1 1826 44) ≤ 2147483647 := hrg55.1 1826 13 44 _ .int rfl rfl
            have e68 : (H1.1 1826 44) = (H.1 1826 44) := hf.2.2 44 (by decide)
            have g69 : -2147483648 ≤ (H1.1 1826 8) ∧ (H1.1 1826 8) ≤ 2147483647 := hrg55.1 1826 13 8 _ .int rfl rfl
            have e70 : (H1.1 1826 8) = (H.1 1826 8) := hf.2.2 8 (by decide)
            have g71 : -2147483648 ≤ (H1.1 1826 41) ∧ (H1.1 1826 41) ≤ 2147483647 := hrg55.1 1826 13 41 _ .int rfl rfl
            rw [show (b : Int) = 1 by omega]
            exact ih.1 _ fi wt hd9 dp hf (by omega : (H.1 1826 30) ≤ (H1.1 1826 30) ∧ (H1.1 1826 30) ≤ (H.1 1826 29)) (by omega : 0 ≤ (H1.1 1826 35) ∧ (H1.1 1826 35) ≤ 5) (by omega : 0 ≤ (H1.1 1826 32) ∧ (H1.1 1826 32) ≤ 1000) (by omega : (H.1 1826 35) ≠ 0 → (H1.1 1826 35) ≠ 0) (by omega : ((H.1 1826 44) ≠ 2 → (H1.1 1826 39) = (H.1 1826 39)) ∧ (H.1 1826 39) ≤ (H1.1 1826 39)) (by omega : -1 ≤ fi ∧ fi < (H.1 1826 1)) (by omega : -1 ≤ wt ∧ wt < (H.1 1826 1)) (by omega : 0 ≤ hd9 ∧ hd9 ≤ 1) (by omega : 0 ≤ dp ∧ dp ≤ 10) (by have e9 : b = 1 := (by omega); rw [e9] at hTT; exact hTT) (GB_i hTG (fun q9 => by rw [show b = 1 by omega] at q9; exact q9)) (mv_out (by have e9 : b = 1 := (by omega); rw [e9] at hw; exact hw))
          · exfalso
            omega
        · have eb : b = 0 := by omega
          clear hwk
          have hT1 : TT H1 0 := by have q9 : TT H1 (b : Int) := hTT (by omega); rw [eb] at q9; exact q9
          have hw2 : mv (H1.1 1826 35) (H1.1 1826 31) (H1.1 1826 30) (H.1 1826 29) (H1.1 1826 47) 2 < w + 1 := by rw [eb] at hw; exact hw
          obtain ⟨n, m9, k9, ⟨ta1, ta2, ta3, ta4⟩, ⟨tb1, tb2, tb3⟩, -, tS, -, -⟩ := id hT1
          have tcb := cb_nn (ou := (H1.1 1852)) (n := n)
          obtain ⟨X1, hq1, hU1, hFI, hsT⟩ := TG_g0 (GB_g hTG (by omega)) eb
          refine h_run 2 (pc' := 71) (l' := [(0, .inr (.inr 1826)), (2, .inl fi), (3, .inl (b : Int)), (4, .inl wt), (5, .inl hd9), (6, .inl dp)]) (st' := [.inl (H1.1 1826 47)]) rfl ?_
          have g72 : -2147483648 ≤ (H1.1 1826 47) ∧ (H1.1 1826 47) ≤ 2147483647 := hrg55.1 1826 13 47 _ .int rfl rfl
          refine h_zle (off := 175) (t := 246) rfl rfl (by omega) (fun c73 => ?_) (fun c73 => ?_)
          · skip
            refine h_run 1 (pc' := 247) (l' := [(0, .inr (.inr 1826)), (2, .inl fi), (3, .inl (b : Int)), (4, .inl wt), (5, .inl hd9), (6, .inl dp)]) (st' := [.inl (b : Int)]) rfl ?_
            refine h_zne (off := -226) (t := 21) rfl rfl (by omega) (fun c74 => ?_) (fun c74 => ?_)
            · exfalso
              omega
            · refine h_run 1 (pc' := 251) (l' := [(0, .inr (.inr 1826)), (2, .inl fi), (3, .inl (b : Int)), (4, .inl wt), (5, .inl hd9), (6, .inl dp)]) (st' := [.inl fi]) rfl ?_
              refine h_reti (x := fi) rfl rfl ?_
              have g75 : -2147483648 ≤ (H1.1 1826 30) ∧ (H1.1 1826 30) ≤ 2147483647 := hrg55.1 1826 13 30 _ .int rfl rfl
              have g76 : -2147483648 ≤ (H1.1 1826 32) ∧ (H1.1 1826 32) ≤ 2147483647 := hrg55.1 1826 13 32 _ .int rfl rfl
              have g77 : -2147483648 ≤ (H1.1 1826 29) ∧ (H1.1 1826 29) ≤ 2147483647 := hrg55.1 1826 13 29 _ .int rfl rfl
              have e78 : (H1.1 1826 29) = (H.1 1826 29) := hf.2.2 29 (by decide)
              have g79 : -2147483648 ≤ (H1.1 1826 1) ∧ (H1.1 1826 1) ≤ 2147483647 := hrg55.1 1826 13 1 _ .int rfl rfl
              have e80 : (H1.1 1826 1) = (H.1 1826 1) := hf.2.2 1 (by decide)
              have g81 : -2147483648 ≤ (H1.1 1826 39) ∧ (H1.1 1826 39) ≤ 2147483647 := hrg55.1 1826 13 39 _ .int rfl rfl
              have g82 : -2147483648 ≤ (H1.1 1826 44) ∧ (H1.1 1826 44) ≤ 2147483647 := hrg55.1 1826 13 44 _ .int rfl rfl
              have e83 : (H1.1 1826 44) = (H.1 1826 44) := hf.2.2 44 (by decide)
              exact ⟨⟨fi, rfl, by omega, by omega, (Or.inl ⟨(by omega : (H1.1 1826 35) = 0), X1, (by rw [show SK e H1 = [] from (by unfold SK; rw [show ((H1.1 1826 47)).toNat = 0 by omega]; rfl)] at hq1; exact hq1), hU1.1, hU1.2.1, hFI, hsT, hU1.2.2.2⟩)⟩, hf, (by omega : (H.1 1826 30) ≤ (H1.1 1826 30) ∧ (H1.1 1826 30) ≤ (H.1 1826 29)), (by omega : 0 ≤ (H1.1 1826 35) ∧ (H1.1 1826 35) ≤ 5), (by omega : (H.1 1826 35) ≠ 0 → (H1.1 1826 35) ≠ 0), (by omega : 0 ≤ (H1.1 1826 32) ∧ (H1.1 1826 32) ≤ 1000), (by omega : ((H.1 1826 44) ≠ 2 → (H1.1 1826 39) = (H.1 1826 39)) ∧ (H.1 1826 39) ≤ (H1.1 1826 39)), fun _ => ⟨TT_end hT1 (by omega), hT1⟩⟩
          · obtain ⟨to1, to2, to3⟩ := tS ((H1.1 1826 47) - 1).toNat (by omega)
            have hnn : n = ((H1.1 1826 47) - 1).toNat + 1 := by omega
            rw [hnn] at ta3
            refine h_run 4 (pc' := 82) (l' := [(0, .inr (.inr 1826)), (2, .inl fi), (3, .inl (b : Int)), (4, .inl wt), (5, .inl hd9), (6, .inl dp)]) (st' := [.inl (H1.1 1826 47), .inr (.inr 1852)]) rfl ?_
            refine h_run 2 (pc' := 84) (l' := [(0, .inr (.inr 1826)), (2, .inl fi), (3, .inl (b : Int)), (4, .inl wt), (5, .inl hd9), (6, .inl dp)]) (st' := [.inl ((H1.1 1826 47) - 1), .inr (.inr 1852)]) rfl ?_
            refine h_ild (c := 1852) (j := (((H1.1 1826 47) - 1)).toNat) (i := ((H1.1 1826 47) - 1)) rfl rfl (by decide) (by omega) (by omega) ?_
            have g84 : -2147483648 ≤ (H1.1 1852 (((H1.1 1826 47) - 1)).toNat) ∧ (H1.1 1852 (((H1.1 1826 47) - 1)).toNat) ≤ 2147483647 := hrg55.2 1852 (((H1.1 1826 47) - 1)).toNat 64 .int rfl (by omega)
            refine h_run 0 (pc' := 85) (l' := [(0, .inr (.inr 1826)), (2, .inl fi), (3, .inl (b : Int)), (4, .inl wt), (5, .inl hd9), (6, .inl dp)]) (st' := [.inl (H1.1 1852 (((H1.1 1826 47) - 1)).toNat)]) rfl ?_
            refine h_run 3 (pc' := 92) (l' := [(0, .inr (.inr 1826)), (2, .inl fi), (3, .inl (b : Int)), (4, .inl wt), (5, .inl hd9), (6, .inl dp), (7, .inl (H1.1 1852 (((H1.1 1826 47) - 1)).toNat))]) (st' := [.inl 5000, .inl (H1.1 1852 (((H1.1 1826 47) - 1)).toNat)]) rfl ?_
            refine h_ine (off := 79) (t := 171) rfl rfl (by omega) (by decide) (fun c85 => ?_) (fun c85 => ?_)
            · have tar : ar5 (ma (H1.1 1833) (H1.1 1830)) ((H1.1 1852) ((H1.1 1826 47) - 1).toNat) = ma (H1.1 1833) (H1.1 1830) ((H1.1 1852) ((H1.1 1826 47) - 1).toNat) := if_neg (by omega)
              have tsg : (1 ≤ ((H1.1 1852) ((H1.1 1826 47) - 1).toNat) ∧ ((H1.1 1852) ((H1.1 1826 47) - 1).toNat) ≤ (H1.1 1826 3)) ∨ (100 ≤ ((H1.1 1852) ((H1.1 1826 47) - 1).toNat) ∧ ((H1.1 1852) ((H1.1 1826 47) - 1).toNat) < 100 + (H1.1 1826 8)) := by omega
              obtain ⟨tr1, tr2, tr3⟩ := sg_ar hP1 tsg
              have har := ar_H hU1.1 (by omega) tsg (by omega)
              have hcbt : cb (H1.1 1852) ((H1.1 1826 47) - 1).toNat = (H1.1 1826 41) := by rw [ta3]; show _ = cb (H1.1 1852) ((H1.1 1826 47) - 1).toNat + (if ((H1.1 1852) ((H1.1 1826 47) - 1).toNat) = 5000 then 1 else 0); rw [if_neg (by omega)]; omega
              rw [SK_top (e := e) (n := ((H1.1 1826 47) - 1).toNat) (by omega : (H1.1 1826 47) = ((((H1.1 1826 47) - 1).toNat : Nat) : Int) + 1), if_neg (by omega), hcbt] at hq1
              refine h_run 4 (pc' := 179) (l' := [(0, .inr (.inr 1826)), (2, .inl fi), (3, .inl (b : Int)), (4, .inl wt), (5, .inl hd9), (6, .inl dp), (7, .inl (H1.1 1852 (((H1.1 1826 47) - 1)).toNat))]) (st' := [.inl (H1.1 1826 47), .inr (.inr 1853)]) rfl ?_
              refine h_run 2 (pc' := 181) (l' := [(0, .inr (.inr 1826)), (2, .inl fi), (3, .inl (b : Int)), (4, .inl wt), (5, .inl hd9), (6, .inl dp), (7, .inl (H1.1 1852 (((H1.1 1826 47) - 1)).toNat))]) (st' := [.inl ((H1.1 1826 47) - 1), .inr (.inr 1853)]) rfl ?_
              refine h_ild (c := 1853) (j := (((H1.1 1826 47) - 1)).toNat) (i := ((H1.1 1826 47) - 1)) rfl rfl (by decide) (by omega) (by omega) ?_
              have g86 : -2147483648 ≤ (H1.1 1853 (((H1.1 1826 47) - 1)).toNat) ∧ (H1.1 1853 (((H1.1 1826 47) - 1)).toNat) ≤ 2147483647 := hrg55.2 1853 (((H1.1 1826 47) - 1)).toNat 64 .int rfl (by omega)
              refine h_run 0 (pc' := 182) (l' := [(0, .inr (.inr 1826)), (2, .inl fi), (3, .inl (b : Int)), (4, .inl wt), (5, .inl hd9), (6, .inl dp), (7, .inl (H1.1 1852 (((H1.1 1826 47) - 1)).toNat))]) (st' := [.inl (H1.1 1853 (((H1.1 1826 47) - 1)).toNat)]) rfl ?_
              refine h_run 2 (pc' := 185) (l' := [(0, .inr (.inr 1826)), (2, .inl fi), (3, .inl (b : Int)), (4, .inl wt), (5, .inl hd9), (6, .inl dp), (7, .inl (H1.1 1852 (((H1.1 1826 47) - 1)).toNat))]) (st' := [.inl (H1.1 1852 (((H1.1 1826 47) - 1)).toNat), .inr (.inr 1826), .inl (H1.1 1853 (((H1.1 1826 47) - 1)).toNat)]) rfl ?_
              refine h_cv (i := 244) (j := 154) (b := 1826) (M' := mt_154) (xs := [.inl (H1.1 1852 (((H1.1 1826 47) - 1)).toNat)]) (rest := [.inl (H1.1 1853 (((H1.1 1826 47) - 1)).toNat)]) rfl rfl rfl rfl rfl rfl (Nat.le_of_ble_eq_true rfl) (Nat.le_of_ble_eq_true rfl) (by omega) (m_arity (by omega) (by unfold sg0; omega)) ?_
              rintro _ _ ⟨rfl, rfl⟩
              refine h_run 0 (pc' := 188) (l' := [(0, .inr (.inr 1826)), (2, .inl fi), (3, .inl (b : Int)), (4, .inl wt), (5, .inl hd9), (6, .inl dp), (7, .inl (H1.1 1852 (((H1.1 1826 47) - 1)).toNat))]) (st' := [.inl (ma (H1.1 1833) (H1.1 1830) (H1.1 1852 (((H1.1 1826 47) - 1)).toNat)), .inl (H1.1 1853 (((H1.1 1826 47) - 1)).toNat)]) rfl ?_
              refine h_ige (off := 45) (t := 233) rfl rfl (by omega) (by omega) (fun c87 => ?_) (fun c87 => ?_)
              · have hqp : rch Y c0 (sk e (H1.1 1852) (H1.1 1853) (H1.1 1854) ((H1.1 1826 47) - 1).toNat ++ K, X1) := rch_st hq1 (by show (if (H1.1 1853) ((H1.1 1826 47) - 1).toNat < ar X1 ((H1.1 1852) ((H1.1 1826 47) - 1).toNat) then _ else _) = _; rw [if_neg (by omega)]; rfl)
                refine h_run 3 (pc' := 238) (l' := [(0, .inr (.inr 1826)), (2, .inl fi), (3, .inl (b : Int)), (4, .inl wt), (5, .inl hd9), (6, .inl dp), (7, .inl (H1.1 1852 (((H1.1 1826 47) - 1)).toNat))]) (st' := [.inl (H1.1 1826 47), .inr (.inr 1826)]) rfl ?_
                refine h_run 2 (pc' := 240) (l' := [(0, .inr (.inr 1826)), (2, .inl fi), (3, .inl (b : Int)), (4, .inl wt), (5, .inl hd9), (6, .inl dp), (7, .inl (H1.1 1852 (((H1.1 1826 47) - 1)).toNat))]) (st' := [.inl ((H1.1 1826 47) - 1), .inr (.inr 1826)]) rfl ?_
                refine h_puti (i := 328) (ci := 13) (k := 47) (a := 1826) (x := ((H1.1 1826 47) - 1)) rfl rfl rfl rfl rfl rfl (by decide) (by omega) ?_
                refine h_run 1 (pc' := 56) (l' := [(0, .inr (.inr 1826)), (2, .inl fi), (3, .inl (b : Int)), (4, .inl wt), (5, .inl hd9), (6, .inl dp), (7, .inl (H1.1 1852 (((H1.1 1826 47) - 1)).toNat))]) (st' := []) rfl ?_
                have g88 : -2147483648 ≤ (H1.1 1826 30) ∧ (H1.1 1826 30) ≤ 2147483647 := hrg55.1 1826 13 30 _ .int rfl rfl
                have g89 : -2147483648 ≤ (H1.1 1826 32) ∧ (H1.1 1826 32) ≤ 2147483647 := hrg55.1 1826 13 32 _ .int rfl rfl
                have g90 : -2147483648 ≤ (H1.1 1826 31) ∧ (H1.1 1826 31) ≤ 2147483647 := hrg55.1 1826 13 31 _ .int rfl rfl
                have g91 : -2147483648 ≤ (H1.1 1826 29) ∧ (H1.1 1826 29) ≤ 2147483647 := hrg55.1 1826 13 29 _ .int rfl rfl
                have e92 : (H1.1 1826 29) = (H.1 1826 29) := hf.2.2 29 (by decide)
                have g93 : -2147483648 ≤ (H1.1 1826 39) ∧ (H1.1 1826 39) ≤ 2147483647 := hrg55.1 1826 13 39 _ .int rfl rfl
                have g94 : -2147483648 ≤ (H1.1 1826 44) ∧ (H1.1 1826 44) ≤ 2147483647 := hrg55.1 1826 13 44 _ .int rfl rfl
                have e95 : (H1.1 1826 44) = (H.1 1826 44) := hf.2.2 44 (by decide)
                have g96 : -2147483648 ≤ (H1.1 1826 8) ∧ (H1.1 1826 8) ≤ 2147483647 := hrg55.1 1826 13 8 _ .int rfl rfl
                have e97 : (H1.1 1826 8) = (H.1 1826 8) := hf.2.2 8 (by decide)
                have g98 : -2147483648 ≤ (H1.1 1826 41) ∧ (H1.1 1826 41) ≤ 2147483647 := hrg55.1 1826 13 41 _ .int rfl rfl
                refine h_loc [0, 2, 3, 4, 5, 6] rfl ?_
                exact ih.2 _ fi wt hd9 dp b (fr_o hf (by decide)) (by omega : (H.1 1826 30) ≤ (H1.1 1826 30) ∧ (H1.1 1826 30) ≤ (H.1 1826 29)) (by omega : 0 ≤ (H1.1 1826 35) ∧ (H1.1 1826 35) ≤ 5) (by omega : 0 ≤ (H1.1 1826 32) ∧ (H1.1 1826 32) ≤ 1000) (by omega : (H.1 1826 35) ≠ 0 → (H1.1 1826 35) ≠ 0) (by omega : ((H.1 1826 44) ≠ 2 → (H1.1 1826 39) = (H.1 1826 39)) ∧ (H.1 1826 39) ≤ (H1.1 1826 39)) (by omega : -1 ≤ fi ∧ fi < (H.1 1826 1)) (by omega : -1 ≤ wt ∧ wt < (H.1 1826 1)) (by omega : 0 ≤ hd9 ∧ hd9 ≤ 1) (by omega : 0 ≤ dp ∧ dp ≤ 10) (by omega) (by rw [eb]; exact (fun _ => TT_pop (n := ((H1.1 1826 47) - 1).toNat) hT1 ⟨⟨rfl, rfl, rfl, rfl⟩, rfl, rfl⟩ (by omega) (by omega) ⟨rfl, rfl⟩ rfl ⟨rfl, rfl⟩ (by omega : ((H1.1 1826 47) - 1) = ((((H1.1 1826 47) - 1).toNat : Nat) : Int)) (by rw [if_neg (show ¬ (H1.1 1852) ((H1.1 1826 47) - 1).toNat = 5000 by omega)]; exact (by omega : (H1.1 1826 41) = (H1.1 1826 41) - 0)) rfl rfl rfl)) (by rw [eb]; exact (Or.inl ⟨(by omega : (H1.1 1826 35) = 0), TG_0 (X1 := X1) (by rw [SK_pop (H := H1) (K := (zu H1 1826 (up (H1.1 1826) 47 ((H1.1 1826 47) - 1)))) (n := ((H1.1 1826 47) - 1).toNat) (show ((H1.1 1826 47) - 1) = ((((H1.1 1826 47) - 1).toNat : Nat) : Int) by omega) rfl rfl rfl]; exact hqp) (RU_fr hU1.1 hU1.2.1 (fr_o (fr_rf [47] [] H1) (by decide)) (by decide) (by decide) (B0_le hU1.2.2.1 rfl rfl (show ((H1.1 1826 47) - 1) ≤ (H1.1 1826 47) by omega) rfl rfl) hU1.2.2.2) hFI hsT⟩)) (by rw [eb]; exact (mv_pop hw2 (by omega : (H1.1 1826 35) = 0) (by omega : 0 ≤ ((H1.1 1826 47) - 1) ∧ ((H1.1 1826 47) - 1) < (H1.1 1826 47))))
              · have tty := sg_ty hP1 tsg (i := ((H1.1 1853) ((H1.1 1826 47) - 1).toNat)) (by omega) (by omega)
                have hat := aty_H hU1.1 (by omega) tsg (by omega) (i := ((H1.1 1853) ((H1.1 1826 47) - 1).toNat)) (by omega) (by omega)
                have hqa : rch Y c0 ((2, me e (aty H1 ((H1.1 1852) ((H1.1 1826 47) - 1).toNat) ((H1.1 1853) ((H1.1 1826 47) - 1).toNat)), (H1.1 1826 41), 1 - 0) :: ([(3, ((H1.1 1852) ((H1.1 1826 47) - 1).toNat), (H1.1 1853) ((H1.1 1826 47) - 1).toNat + 1, cb (H1.1 1852) ((H1.1 1826 47) - 1).toNat)] ++ sk e (H1.1 1852) (H1.1 1853) (H1.1 1854) ((H1.1 1826 47) - 1).toNat ++ K), X1) := by rw [show me e (aty H1 ((H1.1 1852) ((H1.1 1826 47) - 1).toNat) ((H1.1 1853) ((H1.1 1826 47) - 1).toNat)) = aty9 X1 ((H1.1 1852) ((H1.1 1826 47) - 1).toNat) ((H1.1 1853) ((H1.1 1826 47) - 1).toNat) from (by rw [hat]; unfold me; exact if_neg (by omega)), hcbt]; exact rch_st hq1 (by show (if (H1.1 1853) ((H1.1 1826 47) - 1).toNat < ar X1 ((H1.1 1852) ((H1.1 1826 47) - 1).toNat) then _ else _) = _; rw [if_pos (by omega)]; rfl)
                refine h_run 6 (pc' := 202) (l' := [(0, .inr (.inr 1826)), (2, .inl fi), (3, .inl (b : Int)), (4, .inl wt), (5, .inl hd9), (6, .inl dp), (7, .inl (H1.1 1852 (((H1.1 1826 47) - 1)).toNat))]) (st' := [.inl (H1.1 1826 47), .inr (.inr 1853), .inl (H1.1 1852 (((H1.1 1826 47) - 1)).toNat), .inr (.inr 1826)]) rfl ?_
                refine h_run 2 (pc' := 204) (l' := [(0, .inr (.inr 1826)), (2, .inl fi), (3, .inl (b : Int)), (4, .inl wt), (5, .inl hd9), (6, .inl dp), (7, .inl (H1.1 1852 (((H1.1 1826 47) - 1)).toNat))]) (st' := [.inl ((H1.1 1826 47) - 1), .inr (.inr 1853), .inl (H1.1 1852 (((H1.1 1826 47) - 1)).toNat), .inr (.inr 1826)]) rfl ?_
                refine h_ild (c := 1853) (j := (((H1.1 1826 47) - 1)).toNat) (i := ((H1.1 1826 47) - 1)) rfl rfl (by decide) (by omega) (by omega) ?_
                refine h_run 0 (pc' := 205) (l' := [(0, .inr (.inr 1826)), (2, .inl fi), (3, .inl (b : Int)), (4, .inl wt), (5, .inl hd9), (6, .inl dp), (7, .inl (H1.1 1852 (((H1.1 1826 47) - 1)).toNat))]) (st' := [.inl (H1.1 1853 (((H1.1 1826 47) - 1)).toNat), .inl (H1.1 1852 (((H1.1 1826 47) - 1)).toNat), .inr (.inr 1826)]) rfl ?_
                refine h_cv (i := 331) (j := 175) (b := 1826) (M' := mt_175) (xs := [.inl (H1.1 1853 (((H1.1 1826 47) - 1)).toNat), .inl (H1.1 1852 (((H1.1 1826 47) - 1)).toNat)]) (rest := []) rfl rfl rfl rfl rfl rfl (Nat.le_of_ble_eq_true rfl) (Nat.le_of_ble_eq_true rfl) (by omega) (m_argType (by omega) (by omega)) ?_
                rintro _ _ ⟨rfl, rfl⟩
                refine h_run 0 (pc' := 208) (l' := [(0, .inr (.inr 1826)), (2, .inl fi), (3, .inl (b : Int)), (4, .inl wt), (5, .inl hd9), (6, .inl dp), (7, .inl (H1.1 1852 (((H1.1 1826 47) - 1)).toNat))]) (st' := [.inl (aty H1 (H1.1 1852 (((H1.1 1826 47) - 1)).toNat) (H1.1 1853 (((H1.1 1826 47) - 1)).toNat))]) rfl ?_
                refine h_run 5 (pc' := 218) (l' := [(0, .inr (.inr 1826)), (2, .inl fi), (3, .inl (b : Int)), (4, .inl (aty H1 (H1.1 1852 (((H1.1 1826 47) - 1)).toNat) (H1.1 1853 (((H1.1 1826 47) - 1)).toNat))), (5, .inl hd9), (6, .inl dp), (7, .inl (H1.1 1852 (((H1.1 1826 47) - 1)).toNat))]) (st' := [.inl (H1.1 1826 47), .inr (.inr 1853)]) rfl ?_
                refine h_run 3 (pc' := 221) (l' := [(0, .inr (.inr 1826)), (2, .inl fi), (3, .inl (b : Int)), (4, .inl (aty H1 (H1.1 1852 (((H1.1 1826 47) - 1)).toNat) (H1.1 1853 (((H1.1 1826 47) - 1)).toNat))), (5, .inl hd9), (6, .inl dp), (7, .inl (H1.1 1852 (((H1.1 1826 47) - 1)).toNat))]) (st' := [.inl ((H1.1 1826 47) - 1), .inr (.inr 1853), .inl ((H1.1 1826 47) - 1), .inr (.inr 1853)]) rfl ?_
                refine h_ild (c := 1853) (j := (((H1.1 1826 47) - 1)).toNat) (i := ((H1.1 1826 47) - 1)) rfl rfl (by decide) (by omega) (by omega) ?_
                refine h_run 0 (pc' := 222) (l' := [(0, .inr (.inr 1826)), (2, .inl fi), (3, .inl (b : Int)), (4, .inl (aty H1 (H1.1 1852 (((H1.1 1826 47) - 1)).toNat) (H1.1 1853 (((H1.1 1826 47) - 1)).toNat))), (5, .inl hd9), (6, .inl dp), (7, .inl (H1.1 1852 (((H1.1 1826 47) - 1)).toNat))]) (st' := [.inl (H1.1 1853 (((H1.1 1826 47) - 1)).toNat), .inl ((H1.1 1826 47) - 1), .inr (.inr 1853)]) rfl ?_
                refine h_run 2 (pc' := 224) (l' := [(0, .inr (.inr 1826)), (2, .inl fi), (3, .inl (b : Int)), (4, .inl (aty H1 (H1.1 1852 (((H1.1 1826 47) - 1)).toNat) (H1.1 1853 (((H1.1 1826 47) - 1)).toNat))), (5, .inl hd9), (6, .inl dp), (7, .inl (H1.1 1852 (((H1.1 1826 47) - 1)).toNat))]) (st' := [.inl ((H1.1 1853 (((H1.1 1826 47) - 1)).toNat) + 1), .inl ((H1.1 1826 47) - 1), .inr (.inr 1853)]) rfl ?_
                refine h_ist (c := 1853) (j := (((H1.1 1826 47) - 1)).toNat) (i := ((H1.1 1826 47) - 1)) (x := ((H1.1 1853 (((H1.1 1826 47) - 1)).toNat) + 1)) rfl rfl (by decide) (by decide) (by omega) (by omega) (by omega) ?_
                refine h_run 6 (pc' := 56) (l' := [(0, .inr (.inr 1826)), (2, .inl fi), (3, .inl 1), (4, .inl (aty H1 (H1.1 1852 (((H1.1 1826 47) - 1)).toNat) (H1.1 1853 (((H1.1 1826 47) - 1)).toNat))), (5, .inl 0), (6, .inl dp), (7, .inl (H1.1 1852 (((H1.1 1826 47) - 1)).toNat))]) (st' := []) rfl ?_
                have g99 : -2147483648 ≤ (H1.1 1826 30) ∧ (H1.1 1826 30) ≤ 2147483647 := hrg55.1 1826 13 30 _ .int rfl rfl
                have g100 : -2147483648 ≤ (H1.1 1826 32) ∧ (H1.1 1826 32) ≤ 2147483647 := hrg55.1 1826 13 32 _ .int rfl rfl
                have g101 : -2147483648 ≤ (H1.1 1826 31) ∧ (H1.1 1826 31) ≤ 2147483647 := hrg55.1 1826 13 31 _ .int rfl rfl
                have g102 : -2147483648 ≤ (H1.1 1826 29) ∧ (H1.1 1826 29) ≤ 2147483647 := hrg55.1 1826 13 29 _ .int rfl rfl
                have e103 : (H1.1 1826 29) = (H.1 1826 29) := hf.2.2 29 (by decide)
                have g104 : -2147483648 ≤ (H1.1 1826 39) ∧ (H1.1 1826 39) ≤ 2147483647 := hrg55.1 1826 13 39 _ .int rfl rfl
                have g105 : -2147483648 ≤ (H1.1 1826 44) ∧ (H1.1 1826 44) ≤ 2147483647 := hrg55.1 1826 13 44 _ .int rfl rfl
                have e106 : (H1.1 1826 44) = (H.1 1826 44) := hf.2.2 44 (by decide)
                have g107 : -2147483648 ≤ (H1.1 1826 8) ∧ (H1.1 1826 8) ≤ 2147483647 := hrg55.1 1826 13 8 _ .int rfl rfl
                have e108 : (H1.1 1826 8) = (H.1 1826 8) := hf.2.2 8 (by decide)
                have g109 : -2147483648 ≤ (H1.1 1826 41) ∧ (H1.1 1826 41) ≤ 2147483647 := hrg55.1 1826 13 41 _ .int rfl rfl
                refine h_loc [0, 2, 3, 4, 5, 6] rfl ?_
                exact ih.2 _ fi (aty H1 (H1.1 1852 (((H1.1 1826 47) - 1)).toNat) (H1.1 1853 (((H1.1 1826 47) - 1)).toNat)) (0 : Int) dp 1 (fr_a hf (by decide)) (by omega : (H.1 1826 30) ≤ (H1.1 1826 30) ∧ (H1.1 1826 30) ≤ (H.1 1826 29)) (by omega : 0 ≤ (H1.1 1826 35) ∧ (H1.1 1826 35) ≤ 5) (by omega : 0 ≤ (H1.1 1826 32) ∧ (H1.1 1826 32) ≤ 1000) (by omega : (H.1 1826 35) ≠ 0 → (H1.1 1826 35) ≠ 0) (by omega : ((H.1 1826 44) ≠ 2 → (H1.1 1826 39) = (H.1 1826 39)) ∧ (H.1 1826 39) ≤ (H1.1 1826 39)) (by omega : -1 ≤ fi ∧ fi < (H.1 1826 1)) (by omega : -1 ≤ (aty H1 (H1.1 1852 (((H1.1 1826 47) - 1)).toNat) (H1.1 1853 (((H1.1 1826 47) - 1)).toNat)) ∧ (aty H1 (H1.1 1852 (((H1.1 1826 47) - 1)).toNat) (H1.1 1853 (((H1.1 1826 47) - 1)).toNat)) < (H.1 1826 1)) (by omega : 0 ≤ (0 : Int) ∧ (0 : Int) ≤ 1) (by omega : 0 ≤ dp ∧ dp ≤ 10) (by omega) (fun _ => TT_ask (n := ((H1.1 1826 47) - 1).toNat) hT1 ⟨⟨rfl, rfl, rfl, rfl⟩, rfl, rfl⟩ (by omega) (by omega) ⟨rfl, rfl, rfl⟩ rfl ⟨rfl, rfl⟩ rfl rfl (by first | rfl | (rw [show (H1.1 1853) ((H1.1 1826 47) - 1).toNat = 0 by omega]; rfl)) rfl) (Or.inl ⟨(by omega : (H1.1 1826 35) = 0), TG_1 (X1 := X1) (by rw [SK_ask (H := H1) (K := (zu H1 1853 (up (H1.1 1853) (((H1.1 1826 47) - 1)).toNat ((H1.1 1853 (((H1.1 1826 47) - 1)).toNat) + 1)))) (n := ((H1.1 1826 47) - 1).toNat) (by omega) rfl rfl rfl rfl (by omega), if_neg (by omega)]; exact hqa) (RU_fr hU1.1 hU1.2.1 (fr_a (fr_rf [] [1853] H1) (by decide)) (by decide) (by decide) (B0_le hU1.2.2.1 rfl rfl (Int.le_refl _) rfl rfl) hU1.2.2.2) hFI (fun q9 => absurd (hU1.2.2.1.1 q9 ((H1.1 1826 47) - 1).toNat (by omega)).1 (by omega)) (fun _ => tty.1) hsT⟩) (mv_ask hw2 (by omega : (H1.1 1826 35) = 0))
            · have tar : ar5 (ma (H1.1 1833) (H1.1 1830)) ((H1.1 1852) ((H1.1 1826 47) - 1).toNat) = 1 := if_pos (by omega)
              have tbt := to3 (by omega)
              refine h_run 4 (pc' := 103) (l' := [(0, .inr (.inr 1826)), (2, .inl fi), (3, .inl (b : Int)), (4, .inl wt), (5, .inl hd9), (6, .inl dp), (7, .inl (H1.1 1852 (((H1.1 1826 47) - 1)).toNat))]) (st' := [.inl (H1.1 1826 47), .inr (.inr 1853)]) rfl ?_
              refine h_run 2 (pc' := 105) (l' := [(0, .inr (.inr 1826)), (2, .inl fi), (3, .inl (b : Int)), (4, .inl wt), (5, .inl hd9), (6, .inl dp), (7, .inl (H1.1 1852 (((H1.1 1826 47) - 1)).toNat))]) (st' := [.inl ((H1.1 1826 47) - 1), .inr (.inr 1853)]) rfl ?_
              refine h_ild (c := 1853) (j := (((H1.1 1826 47) - 1)).toNat) (i := ((H1.1 1826 47) - 1)) rfl rfl (by decide) (by omega) (by omega) ?_
              have g110 : -2147483648 ≤ (H1.1 1853 (((H1.1 1826 47) - 1)).toNat) ∧ (H1.1 1853 (((H1.1 1826 47) - 1)).toNat) ≤ 2147483647 := hrg55.2 1853 (((H1.1 1826 47) - 1)).toNat 64 .int rfl (by omega)
              refine h_run 0 (pc' := 106) (l' := [(0, .inr (.inr 1826)), (2, .inl fi), (3, .inl (b : Int)), (4, .inl wt), (5, .inl hd9), (6, .inl dp), (7, .inl (H1.1 1852 (((H1.1 1826 47) - 1)).toNat))]) (st' := [.inl (H1.1 1853 (((H1.1 1826 47) - 1)).toNat)]) rfl ?_
              refine h_zne (off := 36) (t := 142) rfl rfl (by omega) (fun c111 => ?_) (fun c111 => ?_)
              · have hqw : rch Y c0 ((1, 41, 0, 0) :: (sk e (H1.1 1852) (H1.1 1853) (H1.1 1854) ((H1.1 1826 47) - 1).toNat ++ K), X1) := by rw [SK_top (e := e) (n := ((H1.1 1826 47) - 1).toNat) (by omega : (H1.1 1826 47) = ((((H1.1 1826 47) - 1).toNat : Nat) : Int) + 1), if_pos (by omega), if_neg (by omega)] at hq1; exact hq1
                refine h_run 2 (pc' := 145) (l' := [(0, .inr (.inr 1826)), (2, .inl fi), (3, .inl (b : Int)), (4, .inl wt), (5, .inl hd9), (6, .inl dp), (7, .inl (H1.1 1852 (((H1.1 1826 47) - 1)).toNat))]) (st' := [.inl 41, .inr (.inr 1826)]) rfl ?_
                have g112 : -2147483648 ≤ (H1.1 1826 30) ∧ (H1.1 1826 30) ≤ 2147483647 := hrg55.1 1826 13 30 _ .int rfl rfl
                have g113 : -2147483648 ≤ (H1.1 1826 29) ∧ (H1.1 1826 29) ≤ 2147483647 := hrg55.1 1826 13 29 _ .int rfl rfl
                have e114 : (H1.1 1826 29) = (H.1 1826 29) := hf.2.2 29 (by decide)
                have g115 : -2147483648 ≤ (H1.1 1826 31) ∧ (H1.1 1826 31) ≤ 2147483647 := hrg55.1 1826 13 31 _ .int rfl rfl
                have g117 : -2147483648 ≤ (H1.1 1826 32) ∧ (H1.1 1826 32) ≤ 2147483647 := hrg55.1 1826 13 32 _ .int rfl rfl
                refine h_cv (i := 313) (j := 166) (b := 1826) (M' := mt_166) (xs := [.inl 41]) (rest := []) rfl rfl rfl rfl rfl rfl (Nat.le_of_ble_eq_true rfl) (Nat.le_of_ble_eq_true rfl) (by omega) (n_want (by omega) (by omega : 0 ≤ (H1.1 1826 30) ∧ (H1.1 1826 30) ≤ (H1.1 1826 29) ∧ (H1.1 1826 29) ≤ 1000) (by omega : 0 ≤ (H1.1 1826 35) ∧ (H1.1 1826 35) ≤ 5) (by omega : 0 ≤ (H1.1 1826 32) ∧ (H1.1 1826 32) ≤ 1000) (by omega) (by omega : (H1.1 1826 35) = 0) hU1.1 hqw (lk_app hK sk_ok)) ?_
                rintro _ H116 ⟨rfl, hx116n, hx116f, hx116a, hx116b, hx116c, -, hx116e, hx116g⟩
                refine h_rng (fun hrg118 => ?_)
                have hf119 : fr [30, 31, 32, 33, 35, 36, 39, 40, 41, 43, 47] [1849, 1850, 1851, 1852, 1853, 1854] H H116 := fr_t hf hx116f (by decide) (by decide)
                replace hx116a : (H1.1 1826 30) ≤ (H116.1 1826 30) := hx116a
                replace hx116b : (H116.1 1826 30) ≤ (H1.1 1826 29) := hx116b
                replace hx116g : (H116.1 1826 35) = 0 → (H1.1 1826 31) = (41 : Int) ∧ ((H116.1 1826 31) = 0 ∨ (H1.1 1826 30) < (H116.1 1826 30)) := hx116g
                refine h_run 0 (pc' := 148) (l' := [(0, .inr (.inr 1826)), (2, .inl fi), (3, .inl (b : Int)), (4, .inl wt), (5, .inl hd9), (6, .inl dp), (7, .inl (H1.1 1852 (((H1.1 1826 47) - 1)).toNat))]) (st' := []) rfl ?_
                refine h_run 3 (pc' := 153) (l' := [(0, .inr (.inr 1826)), (2, .inl fi), (3, .inl (b : Int)), (4, .inl wt), (5, .inl hd9), (6, .inl dp), (7, .inl (H1.1 1852 (((H1.1 1826 47) - 1)).toNat))]) (st' := [.inl (H116.1 1826 41), .inr (.inr 1826)]) rfl ?_
                have g120 : -2147483648 ≤ (H116.1 1826 41) ∧ (H116.1 1826 41) ≤ 2147483647 := hrg118.1 1826 13 41 _ .int rfl rfl
                have e121 : (H116.1 1826 41) = (H1.1 1826 41) := hx116f.2.2 41 (by decide)
                refine h_run 2 (pc' := 155) (l' := [(0, .inr (.inr 1826)), (2, .inl fi), (3, .inl (b : Int)), (4, .inl wt), (5, .inl hd9), (6, .inl dp), (7, .inl (H1.1 1852 (((H1.1 1826 47) - 1)).toNat))]) (st' := [.inl ((H116.1 1826 41) - 1), .inr (.inr 1826)]) rfl ?_
                refine h_puti (i := 335) (ci := 13) (k := 41) (a := 1826) (x := ((H116.1 1826 41) - 1)) rfl rfl rfl rfl rfl rfl (by decide) (by omega) ?_
                refine h_run 3 (pc' := 163) (l' := [(0, .inr (.inr 1826)), (2, .inl fi), (3, .inl (b : Int)), (4, .inl wt), (5, .inl hd9), (6, .inl dp), (7, .inl (H1.1 1852 (((H1.1 1826 47) - 1)).toNat))]) (st' := [.inl (H116.1 1826 47), .inr (.inr 1826)]) rfl ?_
                have g122 : -2147483648 ≤ (H116.1 1826 47) ∧ (H116.1 1826 47) ≤ 2147483647 := hrg118.1 1826 13 47 _ .int rfl rfl
                have e123 : (H116.1 1826 47) = (H1.1 1826 47) := hx116f.2.2 47 (by decide)
                refine h_run 2 (pc' := 165) (l' := [(0, .inr (.inr 1826)), (2, .inl fi), (3, .inl (b : Int)), (4, .inl wt), (5, .inl hd9), (6, .inl dp), (7, .inl (H1.1 1852 (((H1.1 1826 47) - 1)).toNat))]) (st' := [.inl ((H116.1 1826 47) - 1), .inr (.inr 1826)]) rfl ?_
                refine h_puti (i := 328) (ci := 13) (k := 47) (a := 1826) (x := ((H116.1 1826 47) - 1)) rfl rfl rfl rfl rfl rfl (by decide) (by omega) ?_
                refine h_run 2 (pc' := 56) (l' := [(0, .inr (.inr 1826)), (2, .inl fi), (3, .inl (b : Int)), (4, .inl wt), (5, .inl hd9), (6, .inl dp), (7, .inl (H1.1 1852 (((H1.1 1826 47) - 1)).toNat))]) (st' := []) rfl ?_
                have g124 : -2147483648 ≤ (H116.1 1826 30) ∧ (H116.1 1826 30) ≤ 2147483647 := hrg118.1 1826 13 30 _ .int rfl rfl
                have g125 : -2147483648 ≤ (H116.1 1826 35) ∧ (H116.1 1826 35) ≤ 2147483647 := hrg118.1 1826 13 35 _ .int rfl rfl
                have g126 : -2147483648 ≤ (H116.1 1826 32) ∧ (H116.1 1826 32) ≤ 2147483647 := hrg118.1 1826 13 32 _ .int rfl rfl
                have g127 : -2147483648 ≤ (H116.1 1826 31) ∧ (H116.1 1826 31) ≤ 2147483647 := hrg118.1 1826 13 31 _ .int rfl rfl
                have g128 : -2147483648 ≤ (H116.1 1826 29) ∧ (H116.1 1826 29) ≤ 2147483647 := hrg118.1 1826 13 29 _ .int rfl rfl
                have e129 : (H116.1 1826 29) = (H1.1 1826 29) := hx116f.2.2 29 (by decide)
                have g130 : -2147483648 ≤ (H116.1 1826 39) ∧ (H116.1 1826 39) ≤ 2147483647 := hrg118.1 1826 13 39 _ .int rfl rfl
                have e131 : (H116.1 1826 39) = (H1.1 1826 39) := hx116f.2.2 39 (by decide)
                have g132 : -2147483648 ≤ (H116.1 1826 44) ∧ (H116.1 1826 44) ≤ 2147483647 := hrg118.1 1826 13 44 _ .int rfl rfl
                have e133 : (H116.1 1826 44) = (H1.1 1826 44) := hx116f.2.2 44 (by decide)
                have e134 : (H1.1 1826 44) = (H.1 1826 44) := hf.2.2 44 (by decide)
                have g135 : -2147483648 ≤ (H116.1 1826 8) ∧ (H116.1 1826 8) ≤ 2147483647 := hrg118.1 1826 13 8 _ .int rfl rfl
                have e136 : (H116.1 1826 8) = (H1.1 1826 8) := hx116f.2.2 8 (by decide)
                have e137 : (H1.1 1826 8) = (H.1 1826 8) := hf.2.2 8 (by decide)
                refine h_loc [0, 2, 3, 4, 5, 6] rfl ?_
                exact ih.2 _ fi wt hd9 dp b (fr_o (fr_o hf119 (by decide)) (by decide)) (by omega : (H.1 1826 30) ≤ (H116.1 1826 30) ∧ (H116.1 1826 30) ≤ (H.1 1826 29)) (by omega : 0 ≤ (H116.1 1826 35) ∧ (H116.1 1826 35) ≤ 5) (by omega : 0 ≤ (H116.1 1826 32) ∧ (H116.1 1826 32) ≤ 1000) (by omega : (H.1 1826 35) ≠ 0 → (H116.1 1826 35) ≠ 0) (by omega : ((H.1 1826 44) ≠ 2 → (H116.1 1826 39) = (H.1 1826 39)) ∧ (H.1 1826 39) ≤ (H116.1 1826 39)) (by omega : -1 ≤ fi ∧ fi < (H.1 1826 1)) (by omega : -1 ≤ wt ∧ wt < (H.1 1826 1)) (by omega : 0 ≤ hd9 ∧ hd9 ≤ 1) (by omega : 0 ≤ dp ∧ dp ≤ 10) (by omega) (by rw [eb]; exact (fun _ => TT_pop (n := ((H1.1 1826 47) - 1).toNat) hT1 ⟨⟨(hx116f.2.2 1 (by decide)), (hx116f.2.2 3 (by decide)), (hx116f.2.2 8 (by decide)), (hx116f.2.2 44 (by decide))⟩, (hx116f.2.1 1833 (by decide) (by decide)), (hx116f.2.1 1830 (by decide) (by decide))⟩ (by omega) (by omega) ⟨(hx116f.2.2 40 (by decide)), (hx116f.2.2 43 (by decide))⟩ (hx116f.2.1 1851 (by decide) (by decide)) ⟨(hx116f.2.2 39 (by decide)), (hx116f.2.1 1850 (by decide) (by decide))⟩ (by omega : ((H116.1 1826 47) - 1) = ((((H1.1 1826 47) - 1).toNat : Nat) : Int)) (by rw [if_pos (show (H1.1 1852) ((H1.1 1826 47) - 1).toNat = 5000 by omega)]; exact (by omega : ((H116.1 1826 41) - 1) = (H1.1 1826 41) - 1)) (hx116f.2.1 1852 (by decide) (by decide)) (hx116f.2.1 1853 (by decide) (by decide)) (hx116f.2.1 1854 (by decide) (by decide)))) (by rw [eb]; exact (GB_t hx116n (fr_o (fr_o (fr_rf [41, 47] [] H116) (by decide)) (by decide)) (by decide) (by decide) (fun _ q => q.elim (fun X2 g => by obtain ⟨g1, g2, rfl⟩ := g; exact TG_0 (by rw [SK_pop (H := H1) (K := (zu (zu H116 1826 (up (H116.1 1826) 41 ((H116.1 1826 41) - 1))) 1826 (up ((zu H116 1826 (up (H116.1 1826) 41 ((H116.1 1826 41) - 1))).1 1826) 47 ((H116.1 1826 47) - 1)))) (n := ((H1.1 1826 47) - 1).toNat) (show ((H116.1 1826 47) - 1) = ((((H1.1 1826 47) - 1).toNat : Nat) : Int) by omega) (hx116f.2.1 1852 (by decide) (by decide)) (hx116f.2.1 1853 (by decide) (by decide)) (hx116f.2.1 1854 (by decide) (by decide))]; exact g1) ⟨RK_fr g2 (fr_o (fr_o (fr_rf [41, 47] [] H116) (by decide)) (by decide)) (by decide) (by decide), VR_adv hU1.2.1 (hx116f.2.2 40 (by decide)) (hx116f.2.2 44 (by decide)) (hx116f.2.2 39 (by decide)) (hx116f.2.1 1849 (by decide) (by decide)) (hx116f.2.1 1850 (by decide) (by decide)), B0_le hU1.2.2.1 (hx116f.2.2 40 (by decide)) (hx116f.2.2 44 (by decide)) (show ((H116.1 1826 47) - 1) ≤ (H1.1 1826 47) by omega) (hx116f.2.1 1852 (by decide) (by decide)) (hx116f.2.1 1854 (by decide) (by decide)), RD_same hU1.2.2.2 (adv_s _).2.1 (adv_s _).2.2.2.2.2 (hx116f.2.2 43 (by decide)) (hx116f.2.1 1851 (by decide) (by decide))⟩ (FI_adv hFI) (sW_tr hsT (sW_adv _)))))) (by rw [eb]; exact (mv_tok (b := 2) hw2 (Or.inr rfl) (by omega) (by omega : (H116.1 1826 35) ≠ 0 ∨ (((H116.1 1826 47) - 1) ≤ 100 ∧ (H1.1 1826 30) ≤ (H116.1 1826 30) ∧ (H116.1 1826 30) ≤ (H.1 1826 29) ∧ (((H116.1 1826 31) = 0 ∧ (H1.1 1826 31) ≠ 0) ∨ (H1.1 1826 30) < (H116.1 1826 30))))))
              · have hqa : rch Y c0 ((2, me e ((H1.1 1854) ((H1.1 1826 47) - 1).toNat), (H1.1 1826 41), 1 - 1) :: ([(1, 41, 0, 0)] ++ sk e (H1.1 1852) (H1.1 1853) (H1.1 1854) ((H1.1 1826 47) - 1).toNat ++ K), X1) := by rw [SK_top (e := e) (n := ((H1.1 1826 47) - 1).toNat) (by omega : (H1.1 1826 47) = ((((H1.1 1826 47) - 1).toNat : Nat) : Int) + 1), if_pos (by omega), if_pos (by omega), ← ta3] at hq1; exact hq1
                refine h_run 4 (pc' := 117) (l' := [(0, .inr (.inr 1826)), (2, .inl fi), (3, .inl (b : Int)), (4, .inl wt), (5, .inl hd9), (6, .inl dp), (7, .inl (H1.1 1852 (((H1.1 1826 47) - 1)).toNat))]) (st' := [.inl (H1.1 1826 47), .inr (.inr 1853)]) rfl ?_
                refine h_run 3 (pc' := 120) (l' := [(0, .inr (.inr 1826)), (2, .inl fi), (3, .inl (b : Int)), (4, .inl wt), (5, .inl hd9), (6, .inl dp), (7, .inl (H1.1 1852 (((H1.1 1826 47) - 1)).toNat))]) (st' := [.inl 1, .inl ((H1.1 1826 47) - 1), .inr (.inr 1853)]) rfl ?_
                refine h_ist (c := 1853) (j := (((H1.1 1826 47) - 1)).toNat) (i := ((H1.1 1826 47) - 1)) (x := 1) rfl rfl (by decide) (by decide) (by omega) (by omega) (by decide) ?_
                refine h_run 8 (pc' := 134) (l' := [(0, .inr (.inr 1826)), (2, .inl fi), (3, .inl 1), (4, .inl wt), (5, .inl 1), (6, .inl dp), (7, .inl (H1.1 1852 (((H1.1 1826 47) - 1)).toNat))]) (st' := [.inl (H1.1 1826 47), .inr (.inr 1854)]) rfl ?_
                refine h_run 2 (pc' := 136) (l' := [(0, .inr (.inr 1826)), (2, .inl fi), (3, .inl 1), (4, .inl wt), (5, .inl 1), (6, .inl dp), (7, .inl (H1.1 1852 (((H1.1 1826 47) - 1)).toNat))]) (st' := [.inl ((H1.1 1826 47) - 1), .inr (.inr 1854)]) rfl ?_
                refine h_ild (c := 1854) (j := (((H1.1 1826 47) - 1)).toNat) (i := ((H1.1 1826 47) - 1)) rfl rfl (by decide) (by omega) (by omega) ?_
                have g138 : -2147483648 ≤ (H1.1 1854 (((H1.1 1826 47) - 1)).toNat) ∧ (H1.1 1854 (((H1.1 1826 47) - 1)).toNat) ≤ 2147483647 := hrg55.2 1854 (((H1.1 1826 47) - 1)).toNat 64 .int rfl (by omega)
                refine h_run 0 (pc' := 137) (l' := [(0, .inr (.inr 1826)), (2, .inl fi), (3, .inl 1), (4, .inl wt), (5, .inl 1), (6, .inl dp), (7, .inl (H1.1 1852 (((H1.1 1826 47) - 1)).toNat))]) (st' := [.inl (H1.1 1854 (((H1.1 1826 47) - 1)).toNat)]) rfl ?_
                refine h_run 3 (pc' := 56) (l' := [(0, .inr (.inr 1826)), (2, .inl fi), (3, .inl 1), (4, .inl (H1.1 1854 (((H1.1 1826 47) - 1)).toNat)), (5, .inl 1), (6, .inl dp), (7, .inl (H1.1 1852 (((H1.1 1826 47) - 1)).toNat))]) (st' := []) rfl ?_
                have g139 : -2147483648 ≤ (H1.1 1826 30) ∧ (H1.1 1826 30) ≤ 2147483647 := hrg55.1 1826 13 30 _ .int rfl rfl
                have g140 : -2147483648 ≤ (H1.1 1826 32) ∧ (H1.1 1826 32) ≤ 2147483647 := hrg55.1 1826 13 32 _ .int rfl rfl
                have g141 : -2147483648 ≤ (H1.1 1826 31) ∧ (H1.1 1826 31) ≤ 2147483647 := hrg55.1 1826 13 31 _ .int rfl rfl
                have g142 : -2147483648 ≤ (H1.1 1826 29) ∧ (H1.1 1826 29) ≤ 2147483647 := hrg55.1 1826 13 29 _ .int rfl rfl
                have e143 : (H1.1 1826 29) = (H.1 1826 29) := hf.2.2 29 (by decide)
                have g144 : -2147483648 ≤ (H1.1 1826 39) ∧ (H1.1 1826 39) ≤ 2147483647 := hrg55.1 1826 13 39 _ .int rfl rfl
                have g145 : -2147483648 ≤ (H1.1 1826 44) ∧ (H1.1 1826 44) ≤ 2147483647 := hrg55.1 1826 13 44 _ .int rfl rfl
                have e146 : (H1.1 1826 44) = (H.1 1826 44) := hf.2.2 44 (by decide)
                have g147 : -2147483648 ≤ (H1.1 1826 8) ∧ (H1.1 1826 8) ≤ 2147483647 := hrg55.1 1826 13 8 _ .int rfl rfl
                have e148 : (H1.1 1826 8) = (H.1 1826 8) := hf.2.2 8 (by decide)
                have g149 : -2147483648 ≤ (H1.1 1826 41) ∧ (H1.1 1826 41) ≤ 2147483647 := hrg55.1 1826 13 41 _ .int rfl rfl
                refine h_loc [0, 2, 3, 4, 5, 6] rfl ?_
                exact ih.2 _ fi (H1.1 1854 (((H1.1 1826 47) - 1)).toNat) (1 : Int) dp 1 (fr_a hf (by decide)) (by omega : (H.1 1826 30) ≤ (H1.1 1826 30) ∧ (H1.1 1826 30) ≤ (H.1 1826 29)) (by omega : 0 ≤ (H1.1 1826 35) ∧ (H1.1 1826 35) ≤ 5) (by omega : 0 ≤ (H1.1 1826 32) ∧ (H1.1 1826 32) ≤ 1000) (by omega : (H.1 1826 35) ≠ 0 → (H1.1 1826 35) ≠ 0) (by omega : ((H.1 1826 44) ≠ 2 → (H1.1 1826 39) = (H.1 1826 39)) ∧ (H.1 1826 39) ≤ (H1.1 1826 39)) (by omega : -1 ≤ fi ∧ fi < (H.1 1826 1)) (by omega : -1 ≤ (H1.1 1854 (((H1.1 1826 47) - 1)).toNat) ∧ (H1.1 1854 (((H1.1 1826 47) - 1)).toNat) < (H.1 1826 1)) (by omega : 0 ≤ (1 : Int) ∧ (1 : Int) ≤ 1) (by omega : 0 ≤ dp ∧ dp ≤ 10) (by omega) (fun _ => TT_ask (n := ((H1.1 1826 47) - 1).toNat) hT1 ⟨⟨rfl, rfl, rfl, rfl⟩, rfl, rfl⟩ (by omega) (by omega) ⟨rfl, rfl, rfl⟩ rfl ⟨rfl, rfl⟩ rfl rfl (by first | rfl | (rw [show (H1.1 1853) ((H1.1 1826 47) - 1).toNat = 0 by omega]; rfl)) rfl) (Or.inl ⟨(by omega : (H1.1 1826 35) = 0), TG_1 (X1 := X1) (by rw [SK_ask (H := H1) (K := (zu H1 1853 (up (H1.1 1853) (((H1.1 1826 47) - 1)).toNat 1))) (n := ((H1.1 1826 47) - 1).toNat) (by omega) rfl rfl rfl rfl (by decide), if_pos (by omega)]; exact hqa) (RU_fr hU1.1 hU1.2.1 (fr_a (fr_rf [] [1853] H1) (by decide)) (by decide) (by decide) (B0_le hU1.2.2.1 rfl rfl (Int.le_refl _) rfl rfl) hU1.2.2.2) hFI (fun q9 => (hU1.2.2.1.1 q9 ((H1.1 1826 47) - 1).toNat (by omega)).2) (fun q9 => hU1.2.2.1.2 q9 ((H1.1 1826 47) - 1).toNat (by omega) (by omega)) hsT⟩) (mv_ask hw2 (by omega : (H1.1 1826 35) = 0))
      · have b57x : (H1.1 1826 35) ≠ 0 := b57
        refine h_run 0 (pc' := 60) (l' := [(0, .inr (.inr 1826)), (2, .inl fi), (3, .inl (b : Int)), (4, .inl wt), (5, .inl hd9), (6, .inl dp)]) (st' := [.inl 0]) rfl ?_
        refine h_zeq (off := 186) (t := 246) rfl rfl (by decide) (fun _ => ?_) (fun c => absurd c (by decide))
        skip
        refine h_run 1 (pc' := 247) (l' := [(0, .inr (.inr 1826)), (2, .inl fi), (3, .inl (b : Int)), (4, .inl wt), (5, .inl hd9), (6, .inl dp)]) (st' := [.inl (b : Int)]) rfl ?_
        refine h_zne (off := -226) (t := 21) rfl rfl (by omega) (fun c150 => ?_) (fun c150 => ?_)
        · have g151 : -2147483648 ≤ (H1.1 1826 30) ∧ (H1.1 1826 30) ≤ 2147483647 := hrg55.1 1826 13 30 _ .int rfl rfl
          have g152 : -2147483648 ≤ (H1.1 1826 32) ∧ (H1.1 1826 32) ≤ 2147483647 := hrg55.1 1826 13 32 _ .int rfl rfl
          have g153 : -2147483648 ≤ (H1.1 1826 31) ∧ (H1.1 1826 31) ≤ 2147483647 := hrg55.1 1826 13 31 _ .int rfl rfl
          have g154 : -2147483648 ≤ (H1.1 1826 29) ∧ (H1.1 1826 29) ≤ 2147483647 := hrg55.1 1826 13 29 _ .int rfl rfl
          have e155 : (H1.1 1826 29) = (H.1 1826 29) := hf.2.2 29 (by decide)
          have g156 : -2147483648 ≤ (H1.1 1826 47) ∧ (H1.1 1826 47) ≤ 2147483647 := hrg55.1 1826 13 47 _ .int rfl rfl
          have g157 : -2147483648 ≤ (H1.1 1826 39) ∧ (H1.1 1826 39) ≤ 2147483647 := hrg55.1 1826 13 39 _ .int rfl rfl
          have g158 : -2147483648 ≤ (H1.1 1826 44) ∧ (H1.1 1826 44) ≤ 2147483647 := hrg55.1 1826 13 44 _ .int rfl rfl
          have e159 : (H1.1 1826 44) = (H.1 1826 44) := hf.2.2 44 (by decide)
          have g160 : -2147483648 ≤ (H1.1 1826 8) ∧ (H1.1 1826 8) ≤ 2147483647 := hrg55.1 1826 13 8 _ .int rfl rfl
          have e161 : (H1.1 1826 8) = (H.1 1826 8) := hf.2.2 8 (by decide)
          have g162 : -2147483648 ≤ (H1.1 1826 41) ∧ (H1.1 1826 41) ≤ 2147483647 := hrg55.1 1826 13 41 _ .int rfl rfl
          rw [show (b : Int) = 1 by omega]
          exact ih.1 _ fi wt hd9 dp hf (by omega : (H.1 1826 30) ≤ (H1.1 1826 30) ∧ (H1.1 1826 30) ≤ (H.1 1826 29)) (by omega : 0 ≤ (H1.1 1826 35) ∧ (H1.1 1826 35) ≤ 5) (by omega : 0 ≤ (H1.1 1826 32) ∧ (H1.1 1826 32) ≤ 1000) (by omega : (H.1 1826 35) ≠ 0 → (H1.1 1826 35) ≠ 0) (by omega : ((H.1 1826 44) ≠ 2 → (H1.1 1826 39) = (H.1 1826 39)) ∧ (H.1 1826 39) ≤ (H1.1 1826 39)) (by omega : -1 ≤ fi ∧ fi < (H.1 1826 1)) (by omega : -1 ≤ wt ∧ wt < (H.1 1826 1)) (by omega : 0 ≤ hd9 ∧ hd9 ≤ 1) (by omega : 0 ≤ dp ∧ dp ≤ 10) (fun (q : (H1.1 1826 35) = 0) => absurd q (by omega)) (Or.inr ⟨(by omega : (H1.1 1826 35) ≠ 0), GB_b hTG (by omega)⟩) (mv_out (by have e9 : b = 1 := (by omega); rw [e9] at hw; exact hw))
        · refine h_run 1 (pc' := 251) (l' := [(0, .inr (.inr 1826)), (2, .inl fi), (3, .inl (b : Int)), (4, .inl wt), (5, .inl hd9), (6, .inl dp)]) (st' := [.inl fi]) rfl ?_
          refine h_reti (x := fi) rfl rfl ?_
          have g163 : -2147483648 ≤ (H1.1 1826 30) ∧ (H1.1 1826 30) ≤ 2147483647 := hrg55.1 1826 13 30 _ .int rfl rfl
          have g164 : -2147483648 ≤ (H1.1 1826 32) ∧ (H1.1 1826 32) ≤ 2147483647 := hrg55.1 1826 13 32 _ .int rfl rfl
          have g165 : -2147483648 ≤ (H1.1 1826 29) ∧ (H1.1 1826 29) ≤ 2147483647 := hrg55.1 1826 13 29 _ .int rfl rfl
          have e166 : (H1.1 1826 29) = (H.1 1826 29) := hf.2.2 29 (by decide)
          have g167 : -2147483648 ≤ (H1.1 1826 1) ∧ (H1.1 1826 1) ≤ 2147483647 := hrg55.1 1826 13 1 _ .int rfl rfl
          have e168 : (H1.1 1826 1) = (H.1 1826 1) := hf.2.2 1 (by decide)
          have g169 : -2147483648 ≤ (H1.1 1826 39) ∧ (H1.1 1826 39) ≤ 2147483647 := hrg55.1 1826 13 39 _ .int rfl rfl
          have g170 : -2147483648 ≤ (H1.1 1826 44) ∧ (H1.1 1826 44) ≤ 2147483647 := hrg55.1 1826 13 44 _ .int rfl rfl
          have e171 : (H1.1 1826 44) = (H.1 1826 44) := hf.2.2 44 (by decide)
          exact ⟨⟨fi, rfl, by omega, by omega, (Or.inr ⟨(by omega : (H1.1 1826 35) ≠ 0), GB_b hTG (by omega)⟩)⟩, hf, (by omega : (H.1 1826 30) ≤ (H1.1 1826 30) ∧ (H1.1 1826 30) ≤ (H.1 1826 29)), (by omega : 0 ≤ (H1.1 1826 35) ∧ (H1.1 1826 35) ≤ 5), (by omega : (H.1 1826 35) ≠ 0 → (H1.1 1826 35) ≠ 0), (by omega : 0 ≤ (H1.1 1826 32) ∧ (H1.1 1826 32) ≤ 1000), (by omega : ((H.1 1826 44) ≠ 2 → (H1.1 1826 39) = (H.1 1826 39)) ∧ (H.1 1826 39) ≤ (H1.1 1826 39)), (fun (q : (H1.1 1826 35) = 0) => absurd q (by omega))⟩
set_option maxRecDepth 100000 in
theorem n_term {zC : Nat → Option zsh} {d : Nat} (hd : 7 ≤ d) {H : hp} {t : Int} {Y : yx} {m : Int} {c0 : cf} {K : List tq} {X : rx} {e : Int} (h0 : 0 ≤ (H.1 1826 30) ∧ (H.1 1826 30) ≤ (H.1 1826 29) ∧ (H.1 1826 29) ≤ 1000) (hw : 0 ≤ (H.1 1826 35) ∧ (H.1 1826 35) ≤ 5) (hst : 0 ≤ (H.1 1826 32) ∧ (H.1 1826 32) ≤ 1000) (hP : PWc H) (hso : 1 ≤ (H.1 1826 44) ∧ (H.1 1826 44) ≤ 3) (ht : -1 ≤ t ∧ t < (H.1 1826 1)) (hop : 0 ≤ (H.1 1826 41) ∧ (H.1 1826 41) ≤ 10) (hs0 : (H.1 1826 35) = 0 → (H.1 1826 41) = 0 ∧ (H.1 1826 40) = 0 ∧ (H.1 1826 43) = 0 ∧ (0 ≤ (H.1 1826 39) ∧ (H.1 1826 39) ≤ 39 ∧ ((H.1 1826 44) = 2 → (H.1 1826 39) ≤ 6)) ∧ ((H.1 1826 44) = 2 → ∀ v : Nat, (v : Int) < (H.1 1826 39) → 0 ≤ (H.1 1850) v ∧ (H.1 1850) v < (H.1 1826 1))) (hw0 : (H.1 1826 35) = 0) (hR : RK Y m H X) (hV : VR H X) (hmf : (H.1 1826 8) = m) (he : ((H.1 1826 44) = 2 ∧ e = -2) ∨ ((H.1 1826 44) ≠ 2 ∧ e = -1)) (hq : rch Y c0 ((2, me e t, 0, 0) :: K, X)) (hK : lkK K) (hty : (H.1 1826 44) = 1 → 0 ≤ t) : hG (zs zC) d mt_180 0 (zargs 0 [.inr (.inr 1826), .inl t]) [] H (fun r H2 => (∃ r0 : Int, r = some (.inl r0) ∧ -1 ≤ r0 ∧ r0 < (H.1 1826 1) ∧ GB Y m c0 H2 (∃ X2 : rx, rch Y c0 (K, X2) ∧ RK Y m H2 X2 ∧ VR H2 X2 ∧ FI t X2 r0 ∧ sW X X2 ∧ RD H2 X2)) ∧ fr [30, 31, 32, 33, 35, 36, 39, 40, 41, 43, 47] [1849, 1850, 1851, 1852, 1853, 1854] H H2 ∧ ((H.1 1826 30) ≤ (H2.1 1826 30) ∧ (H2.1 1826 30) ≤ (H.1 1826 29)) ∧ (0 ≤ (H2.1 1826 35) ∧ (H2.1 1826 35) ≤ 5) ∧ ((H.1 1826 35) ≠ 0 → (H2.1 1826 35) ≠ 0) ∧ (0 ≤ (H2.1 1826 32) ∧ (H2.1 1826 32) ≤ 1000) ∧ (((H.1 1826 44) ≠ 2 → (H2.1 1826 39) = (H.1 1826 39)) ∧ (H.1 1826 39) ≤ (H2.1 1826 39)) ∧ hid ((H2.1 1826 35) = 0 → (∃ k : Nat, (H2.1 1826 43) = k ∧ k ≤ 40 ∧ tm (ma (H2.1 1833) (H2.1 1830)) (m_sg (H2.1 1826 3) (H2.1 1826 8) (H2.1 1826 39)) (H2.1 1851) k 0 1) ∧ TT H2 0)) := by
  refine h_rng (fun hrg0 => ?_)
  refine h_run 0 (pc' := 0) (l' := [(0, .inr (.inr 1826)), (1, .inl t)]) (st' := []) rfl ?_
  replace hs0 : hid _ := hs0
  obtain ⟨⟨pb1, -⟩, -⟩ := (id hP : PW H (H.1 1826 1) (H.1 1826 3) (H.1 1826 8) (H.1 1826 13) (H.1 1826 19))
  obtain ⟨hz1, hz2, hz3, -⟩ := hs0 hw0
  have hV1 := hV.1
  refine h_run 4 (pc' := 4) (l' := [(0, .inr (.inr 1826)), (1, .inl t), (2, .inl (-1))]) (st' := [.inl 0, .inr (.inr 1826)]) rfl ?_
  refine h_puti (i := 328) (ci := 13) (k := 47) (a := 1826) (x := 0) rfl rfl rfl rfl rfl rfl (by decide) (by decide) ?_
  refine h_run 8 (pc' := 19) (l' := [(0, .inr (.inr 1826)), (1, .inl t), (2, .inl (-1)), (3, .inl 1), (4, .inl t), (5, .inl 1)]) (st' := [.inl (H.1 1826 41)]) rfl ?_
  have g172 : -2147483648 ≤ (H.1 1826 41) ∧ (H.1 1826 41) ≤ 2147483647 := hrg0.1 1826 13 41 _ .int rfl rfl
  refine h_run 1 (pc' := 21) (l' := [(0, .inr (.inr 1826)), (1, .inl t), (2, .inl (-1)), (3, .inl 1), (4, .inl t), (5, .inl 1), (6, .inl (H.1 1826 41))]) (st' := []) rfl ?_
  have g173 : -2147483648 ≤ (H.1 1826 30) ∧ (H.1 1826 30) ≤ 2147483647 := hrg0.1 1826 13 30 _ .int rfl rfl
  have g174 : -2147483648 ≤ (H.1 1826 35) ∧ (H.1 1826 35) ≤ 2147483647 := hrg0.1 1826 13 35 _ .int rfl rfl
  have g175 : -2147483648 ≤ (H.1 1826 32) ∧ (H.1 1826 32) ≤ 2147483647 := hrg0.1 1826 13 32 _ .int rfl rfl
  have g176 : -2147483648 ≤ (H.1 1826 31) ∧ (H.1 1826 31) ≤ 2147483647 := hrg0.1 1826 13 31 _ .int rfl rfl
  have g177 : -2147483648 ≤ (H.1 1826 29) ∧ (H.1 1826 29) ≤ 2147483647 := hrg0.1 1826 13 29 _ .int rfl rfl
  have g178 : -2147483648 ≤ (H.1 1826 39) ∧ (H.1 1826 39) ≤ 2147483647 := hrg0.1 1826 13 39 _ .int rfl rfl
  have g179 : -2147483648 ≤ (H.1 1826 44) ∧ (H.1 1826 44) ≤ 2147483647 := hrg0.1 1826 13 44 _ .int rfl rfl
  have g180 : -2147483648 ≤ (H.1 1826 8) ∧ (H.1 1826 8) ≤ 2147483647 := hrg0.1 1826 13 8 _ .int rfl rfl
  refine h_loc [0, 2, 3, 4, 5, 6] rfl ?_
  exact (n_term_cut hd h0 hw hst hP hso ht hop hs0 hw0 hR hV hmf he hq hK hty _).1 _ (-1 : Int) t (1 : Int) (H.1 1826 41) (fr_o (fr_rf _ _ _) (by decide)) (by omega : (H.1 1826 30) ≤ (H.1 1826 30) ∧ (H.1 1826 30) ≤ (H.1 1826 29)) (by omega : 0 ≤ (H.1 1826 35) ∧ (H.1 1826 35) ≤ 5) (by omega : 0 ≤ (H.1 1826 32) ∧ (H.1 1826 32) ≤ 1000) (by omega : (H.1 1826 35) ≠ 0 → (H.1 1826 35) ≠ 0) (by omega : ((H.1 1826 44) ≠ 2 → (H.1 1826 39) = (H.1 1826 39)) ∧ (H.1 1826 39) ≤ (H.1 1826 39)) (by omega : -1 ≤ (-1 : Int) ∧ (-1 : Int) < (H.1 1826 1)) (by omega : -1 ≤ t ∧ t < (H.1 1826 1)) (by omega : 0 ≤ (1 : Int) ∧ (1 : Int) ≤ 1) (by omega : 0 ≤ (H.1 1826 41) ∧ (H.1 1826 41) ≤ 10) (fun (q : (H.1 1826 35) = 0) => TT_start ⟨rfl, (hs0 q).1⟩ ⟨(hs0 q).2.1, (hs0 q).2.2.1⟩ (hs0 q).2.2.2.1 (hs0 q).2.2.2.2) (Or.inl ⟨(by omega : (H.1 1826 35) = 0), TG_1 (X1 := X) (by show rch Y c0 ((2, me e t, (H.1 1826 41), 0) :: K, X); rw [hz1]; exact hq) (RU_fr hR hV (fr_o (fr_rf [47] [] H) (by decide)) (by decide) (by decide) ⟨fun _ i hi => absurd (id hi : (i : Int) < 0) (by omega), fun _ i hi => absurd (id hi : (i : Int) < 0) (by omega)⟩ ⟨by omega, fun k hk => absurd hk (by omega)⟩) (fun _ _ => Or.inl ⟨by omega, rfl⟩) (fun _ => rfl) hty (sW_rf X)⟩) (Nat.lt_succ_self _)
