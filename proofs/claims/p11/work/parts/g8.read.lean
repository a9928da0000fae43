/-! the class's reader: variables, as the machine reads them -/
/-- a sign of a constructor or of a function -/
def HS (X : rx) (s : Int) : Prop := (1 ≤ s ∧ s ≤ X 0 4 ∧ s < 100) ∨ (100 ≤ s ∧ s < 100 + X 0 5 ∧ s < 1000)
/-- the tables are the same, and the sides that were kept -/
def sW (X X1 : rx) : Prop := sT X X1 ∧ ∀ c, 14 ≤ c → X1 c = X c
theorem sW_tr {X X1 X2 : rx} (h : sW X X1) (g : sW X1 X2) : sW X X2 := ⟨⟨fun c a b => (g.1.1 c a b).trans (h.1.1 c a b), g.1.2.1.trans h.1.2.1, fun j a b => (g.1.2.2 j a b).trans (h.1.2.2 j a b)⟩, fun c hc => (g.2 c hc).trans (h.2 c hc)⟩
theorem sW_put (X : rx) (s : Int) : sW X (xput X s) := ⟨⟨fun c c1 c2 => xput_r X s (by omega) (by omega), xput_r X s (by decide) (by decide), fun j j1 j2 => xput_0 X s (by omega) (by omega)⟩, fun c hc => xput_r X s (by omega) (by omega)⟩
theorem sW_var (X : rx) (x ty : Int) : sW X (xvar X x ty) := ⟨⟨fun c c1 c2 => xvar_r X x ty (by omega) (by omega) (by omega), xvar_r X x ty (by decide) (by decide) (by decide), fun j j1 j2 => xvar_0 X x ty (by omega)⟩, fun c hc => xvar_r X x ty (by omega) (by omega) (by omega)⟩
theorem sW_adv (X : rx) : sW X (adv X) := ⟨⟨fun c c1 c2 => xu_ne _ _ _ (by omega), xu_ne _ _ _ (by decide), fun j j1 j2 => xu_0 _ _ (fun q => by omega)⟩, fun c hc => xu_ne _ _ _ (by omega)⟩
/-- a term of the type a was read behind what there was -/
def PW9 (a : Int) (X X1 : rx) : Prop := X1 0 8 = X 0 8 ∧ (0 ≤ X 0 2 ∧ X 0 2 < X1 0 2) ∧ (∀ k : Nat, (k : Int) < X 0 2 → X1 13 k = X 13 k) ∧ sW X X1 ∧ (a = -2 → HS X (X1 13 (X 0 2).toNat))
theorem PW9_put {a s : Int} {X : rx} (h0 : 0 ≤ X 0 2) (h : a = -2 → HS X s) : PW9 a X (xput X s) := by
  obtain ⟨x1, x2, x3⟩ := xput_s X s
  refine ⟨xput_0 X s (by decide) (by decide), ⟨h0, by omega⟩, fun k hk => ?_, sW_put X s, fun e => ?_⟩
  · rw [x3, up_ne _ _ (by omega)]
  · rw [x3, up_eq]
    exact h e
theorem PW9_putv {a s x ty : Int} {X : rx} (h0 : 0 ≤ X 0 2) (h : a ≠ -2) : PW9 a X (xput (xvar X x ty) s) := by
  obtain ⟨x1, x2, x3⟩ := xput_s (xvar X x ty) s
  have e2 : xvar X x ty 0 2 = X 0 2 := xvar_0 X x ty (by decide)
  refine ⟨(xput_0 _ s (by decide) (by decide)).trans (xvar_0 X x ty (by decide)), ⟨h0, by omega⟩, fun k hk => ?_, sW_tr (sW_var X x ty) (sW_put _ s), fun e => absurd e h⟩
  rw [x3, e2, up_ne _ _ (by omega), xvar_r X x ty (by decide) (by decide) (by decide)]
theorem PW9_adv {a : Int} {X X1 : rx} (h : PW9 a (adv X) X1) : PW9 a X X1 := by
  have er : adv X 13 = X 13 := xu_ne _ _ _ (by decide)
  have e0 : ∀ j, j ≠ 0 → adv X 0 j = X 0 j := fun j hj => xu_0 _ _ (fun q => hj q.2)
  obtain ⟨h1, h2, h3, h4, h5⟩ := h
  rw [e0 8 (by decide)] at h1
  rw [e0 2 (by decide)] at h2 h3 h5
  rw [er] at h3
  refine ⟨h1, h2, h3, sW_tr (sW_adv X) h4, fun e => ?_⟩
  have q := h5 e
  unfold HS at q ⊢
  rw [e0 4 (by decide), e0 5 (by decide)] at q
  exact q
theorem PW9_take {a : Int} {X X1 : rx} (h : PW9 a X X1) : PW9 a X (adv X1) := by
  have er : adv X1 13 = X1 13 := xu_ne _ _ _ (by decide)
  have e0 : ∀ j, j ≠ 0 → adv X1 0 j = X1 0 j := fun j hj => xu_0 _ _ (fun q => hj q.2)
  obtain ⟨h1, h2, h3, h4, h5⟩ := h
  exact ⟨(e0 8 (by decide)).trans h1, by rw [e0 2 (by decide)]; exact h2, by rw [er]; exact h3, sW_tr h4 (sW_adv X1), by rw [er]; exact h5⟩
theorem PW9_tr {a b : Int} {X X1 X2 : rx} (h : PW9 a X X1) (g : PW9 b X1 X2) : PW9 a X X2 := by
  obtain ⟨h1, h2, h3, h4, h5⟩ := h
  obtain ⟨g1, g2, g3, g4, g5⟩ := g
  refine ⟨g1.trans h1, ⟨h2.1, by omega⟩, fun k hk => (g3 k (by omega)).trans (h3 k hk), sW_tr h4 g4, fun e => ?_⟩
  rw [g3 _ (by omega)]
  exact h5 e
def nX (H : hp) (p : Nat × Nat) : Prop := (sc p.1 p.2 → p.1 = H.2 361 8 ∨ p.1 = H.2 361 8 + 1 ∨ (p.1 = H.2 361 7 + 5 ∧ H.1 361 6 ≠ 2)) ∧ p ≠ (361, 6)
/-- of equations' sides none changes but the one that is read; of types none but those of the equation that is read -/
def NL (H H1 : hp) : Prop := (H1.2 361 8 = H.2 361 8 ∧ H1.2 361 7 = H.2 361 7 ∧ H1.1 361 6 = H.1 361 6) ∧ ∀ c j, sc c j → c ≠ H.2 361 8 → c ≠ H.2 361 8 + 1 → (c ≠ H.2 361 7 + 5 ∨ H.1 361 6 = 2) → H1.1 c j = H.1 c j
theorem NL_tr {H H1 H2 : hp} (h : NL H H1) (g : NL H1 H2) : NL H H2 := ⟨⟨g.1.1.trans h.1.1, g.1.2.1.trans h.1.2.1, g.1.2.2.trans h.1.2.2⟩, fun c j h1 h2 h3 h4 => (g.2 c j h1 (by rw [h.1.1]; exact h2) (by rw [h.1.1]; exact h3) (by rw [h.1.2.1, h.1.2.2]; exact h4)).trans (h.2 c j h1 h2 h3 h4)⟩
theorem NL_fw {ps : List (Nat × Nat)} {H H1 : hp} (f : fw ps H H1) (hp : ∀ p ∈ ps, nX H p) : NL H H1 := by
  refine ⟨⟨by rw [f.1], by rw [f.1], f.2 361 6 (fun m => (hp _ m).2 rfl)⟩, fun c j h1 h2 h3 h4 => f.2 c j (fun m => ?_)⟩
  rcases (hp _ m).1 h1 with q | q | q
  · exact h2 q
  · exact h3 q
  · exact h4.elim (fun r => r q.1) (fun r => q.2 r)
theorem NL_w {H H1 : hp} {j : Nat} (w : wr 361 j H H1) (hj : j ≠ 6 := by decide) : NL H H1 := ⟨⟨by rw [w.1], by rw [w.1], w.2 361 6 (fun q => hj q.2.symm)⟩, fun c i h1 _ _ _ => w.2 c i (fun q => by have := sc_lt h1; omega)⟩
theorem NL_nm {H H1 : hp} (h : NL H H1) (hq : TQ (H.2 361 8)) (he : ∃ k : Nat, k < 56 ∧ H.2 361 7 = 25 + 6 * k) {l : Nat} (hl : l < 16) : H1.1 (265 + 6 * l) 5 = H.1 (265 + 6 * l) 5 := h.2 _ _ (Or.inl ⟨by omega, by omega, by omega, fun _ => Or.inr (Or.inl rfl)⟩) (by rcases hq with q | ⟨k, hk, q | q⟩ <;> omega) (by rcases hq with q | ⟨k, hk, q | q⟩ <;> omega) (Or.inl (by obtain ⟨k, hk, e⟩ := he; omega))
theorem nX_no {H : hp} {c j : Nat} (h : c < 25 ∨ (361 ≤ c ∧ c ≠ 368 ∧ c ≠ 369)) (h6 : c ≠ 361 ∨ j ≠ 6) : nX H (c, j) := by
  refine ⟨fun q => ?_, fun e => ?_⟩
  · have h1 : 25 ≤ c := sc_ge q
    have h2 : c < 361 ∨ c = 368 ∨ c = 369 := sc_lt q
    exfalso
    omega
  · have e1 : c = 361 := (Prod.mk.inj e).1
    have e2 : j = 6 := (Prod.mk.inj e).2
    omega
theorem nXF45 (H : hp) : ∀ p ∈ [(361, 4), (361, 5)], nX H p := by
  intro p hp
  simp only [List.mem_cons, List.not_mem_nil, or_false] at hp
  rcases hp with rfl | rfl <;> exact nX_no (by omega) (by omega)
theorem nX_put {H : hp} {n : Nat} (hq : TQ (H.2 361 8)) : ∀ p ∈ [((H.2 361 8 + 1), n), (H.2 361 8, 1), (361, 3), (361, 4), (361, 5)], nX H p := by
  intro p hp
  simp only [List.mem_cons, List.not_mem_nil, or_false] at hp
  rcases hp with rfl | rfl | rfl | rfl | rfl
  · refine ⟨fun _ => Or.inr (Or.inl rfl), fun e => ?_⟩
    have e1 : H.2 361 8 + 1 = 361 := (Prod.mk.inj e).1
    rcases hq with q | ⟨k, hk, q | q⟩ <;> omega
  · refine ⟨fun _ => Or.inl rfl, fun e => ?_⟩
    have e1 : (1 : Nat) = 6 := (Prod.mk.inj e).2
    omega
  · exact nX_no (by omega) (by omega)
  · exact nX_no (by omega) (by omega)
  · exact nX_no (by omega) (by omega)
theorem nX_var {Y : yx} {q : Nat} {H : hp} {X : rx} {n : Nat} (h : RT Y q H X) (hm : X 0 8 ≠ 2) : ∀ p ∈ [(362, n), (H.2 361 7 + 5, n), (361, 9)], nX H p := by
  obtain ⟨k, hk, ek⟩ := h.2.1.2.1
  have h6 := h.2.1.1
  intro p hp
  simp only [List.mem_cons, List.not_mem_nil, or_false] at hp
  rcases hp with rfl | rfl | rfl
  · exact nX_no (by omega) (by omega)
  · refine ⟨fun _ => Or.inr (Or.inr ⟨rfl, by rw [h6]; exact hm⟩), fun e => ?_⟩
    have e1 : H.2 361 7 + 5 = 361 := (Prod.mk.inj e).1
    omega
  · exact nX_no (by omega) (by omega)
theorem NE_NL {e : Nat} {H H1 : hp} (h : NL H H1) (h1 : e ≤ H.2 361 8) (h2 : H.2 361 8 + 1 < e + 5) (h3 : H.2 361 7 = e) : NE e H H1 := fun c j a b => h.2 c j a (by omega) (by omega) (Or.inl (by omega))
/-! Reader.readVariable -/
set_option maxRecDepth 100000 in
theorem q_Reader_readVariable {Y : yx} {q : Nat} {c0 : cf} {K : List tq} {X : rx} {b9 c9 : Int} {d : Nat} (hd : 3 ≤ d) {H : hp} (hI : Inv H) {a : Int} (ha : -2147483648 ≤ a ∧ a ≤ 2147483647) (hp0 : -2 ≤ a ∧ a ≤ 100) (hR : RT Y q H X) (hX : rch Y c0 ((2, a, b9, c9) :: K, X)) (h2 : tk Y (xi X) = 2) (hf9 : ffd Y X < 0) : hG (zs zK) d mt_75 0 (zargs 0 [.inr (.inr 361), .inl a]) [] H (fun r9 H9 => ∃ z : Int, r9 = some (.inl z) ∧ ((0 ≤ z ∧ z ≤ 1)) ∧ Inv H9 ∧ fq [(361, 3), (361, 4), (361, 5), (361, 9)] [362] true H H9 ∧ ((OT Y q c0 K (PW9 a X) z H9) ∧ NL H H9)) := by
  obtain ⟨hB, hV, hS⟩ := id hR
  have hpa := RB_pa hB
  have htk := RB_tk hB
  obtain ⟨kE, hkE, hEE⟩ := hV.2.1
  have hmo := hV.1
  have hsz := hS.2.1
  have hnm := RB_tn hB (by omega) (by omega)
  obtain ⟨Q9, hQ9⟩ : ∃ Q9 : Option zv → hp → Prop, Q9 = (fun r9 H9 => ∃ z : Int, r9 = some (.inl z) ∧ ((0 ≤ z ∧ z ≤ 1)) ∧ Inv H9 ∧ fq [(361, 3), (361, 4), (361, 5), (361, 9)] [362] true H H9 ∧ ((OT Y q c0 K (PW9 a X) z H9) ∧ NL H H9)) := ⟨_, rfl⟩
  rw [← hQ9]
  refine k_run 0 (pc' := 0) (l' := [(0, .inr (.inr 361)), (1, .inl a)]) (st' := []) rfl ?_
  refine k_run 2 (pc' := 3) (l' := [(0, .inr (.inr 361)), (1, .inl a)]) (st' := [.inl (-2), .inl a]) rfl ?_
  refine h_ine (off := 9) (t := 12) rfl rfl (by omega) (by decide) (fun c1 => ?_) (fun c1 => ?_)
  · refine k_run 0 (pc' := 12) (l' := [(0, .inr (.inr 361)), (1, .inl a)]) (st' := []) rfl ?_
    refine k_run 2 (pc' := 16) (l' := [(0, .inr (.inr 361)), (1, .inl a)]) (st' := [.inl (H.1 361 6)]) rfl ?_
    have g2 : -2147483648 ≤ (H.1 361 6) ∧ (H.1 361 6) ≤ 2147483647 := kn (x := kx_361) hI rfl 6
    refine k_run 1 (pc' := 17) (l' := [(0, .inr (.inr 361)), (1, .inl a)]) (st' := [.inl 2, .inl (H.1 361 6)]) rfl ?_
    refine h_ine (off := 7) (t := 24) rfl rfl (by omega) (by decide) (fun c3 => ?_) (fun c3 => ?_)
    · refine k_run 0 (pc' := 24) (l' := [(0, .inr (.inr 361)), (1, .inl a)]) (st' := []) rfl ?_
      refine k_run 1 (pc' := 25) (l' := [(0, .inr (.inr 361)), (1, .inl a)]) (st' := [.inr (.inr 361)]) rfl ?_
      have g4 : -2147483648 ≤ (H.1 361 3) ∧ (H.1 361 3) ≤ 2147483647 := kn (x := kx_361) hI rfl 3
      have g5 : 0 ≤ (H.1 2 5) ∧ (H.1 2 5) ≤ 1001 := kn (x := kx_2) hI rfl 5
      refine h_cv (i := 203) (j := 79) (b := 361) (M' := mt_79) (xs := []) (rest := []) rfl rfl rfl rfl (zs_K (x := kx_361) rfl (by decide)) rfl (Nat.le_of_ble_eq_true rfl) (Nat.le_of_ble_eq_true rfl) (by omega) (q_Reader_findVariable (by omega) hI (by omega)) ?_
      rintro _ _ ⟨z12, rfl, g6, hx11, rfl⟩
      refine k_run 0 (pc' := 28) (l' := [(0, .inr (.inr 361)), (1, .inl a)]) (st' := [.inl z12]) rfl ?_
      refine k_run 1 (pc' := 29) (l' := [(0, .inr (.inr 361)), (1, .inl a), (2, .inl z12)]) (st' := []) rfl ?_
      have hv9 : z12 = vfd Y X := by unfold vfd; rw [if_neg (by omega)]; exact hx11.trans (RT_vf hR (by omega) (by omega) (by omega))
      refine k_run 1 (pc' := 30) (l' := [(0, .inr (.inr 361)), (1, .inl a), (2, .inl z12)]) (st' := [.inl z12]) rfl ?_
      refine h_zge (off := 17) (t := 47) rfl rfl (by omega) (fun c13 => ?_) (fun c13 => ?_)
      · refine k_run 0 (pc' := 47) (l' := [(0, .inr (.inr 361)), (1, .inl a), (2, .inl z12)]) (st' := []) rfl ?_
        refine k_run 1 (pc' := 48) (l' := [(0, .inr (.inr 361)), (1, .inl a), (2, .inl z12)]) (st' := [.inl z12]) rfl ?_
        refine h_zlt (off := 22) (t := 70) rfl rfl (by omega) (fun c14 => ?_) (fun c14 => ?_)
        · exfalso
          omega
        · refine k_run 0 (pc' := 51) (l' := [(0, .inr (.inr 361)), (1, .inl a), (2, .inl z12)]) (st' := []) rfl ?_
          refine k_run 1 (pc' := 52) (l' := [(0, .inr (.inr 361)), (1, .inl a), (2, .inl z12)]) (st' := [.inr (.inr 361)]) rfl ?_
          refine k_getr (a := 361) (x := kx_361) rfl rfl rfl (by decide) rfl rfl rfl hI (fun h15 => ?_)
          obtain ⟨t16, et18⟩ : ∃ t9, t9 = H.2 361 7 := ⟨_, rfl⟩
          rw [← et18] at h15 ⊢
          have k17 : isE t16 := h15
          refine k_run 0 (pc' := 55) (l' := [(0, .inr (.inr 361)), (1, .inl a), (2, .inl z12)]) (st' := [.inr (.inr t16)]) rfl ?_
          refine k_get (a := t16) (x := (kEo t16)) (v := .inr (.inr (t16 + 5))) rfl rfl k17.1 (iE0 k17) rfl rfl rfl ?_
          refine k_run 0 (pc' := 58) (l' := [(0, .inr (.inr 361)), (1, .inl a), (2, .inl z12)]) (st' := [.inr (.inr (t16 + 5))]) rfl ?_
          refine k_run 1 (pc' := 59) (l' := [(0, .inr (.inr 361)), (1, .inl a), (2, .inl z12)]) (st' := [.inl z12, .inr (.inr (t16 + 5))]) rfl ?_
          refine k_ild (c := (t16 + 5)) (j := (z12).toNat) (i := z12) (x := kEt) rfl k17.2.1 (iE5 k17) rfl (by decide) (by omega) (by omega) ?_
          have g19 : -2 ≤ (H.1 (t16 + 5) (z12).toNat) ∧ (H.1 (t16 + 5) (z12).toNat) ≤ 100 := kn hI k17.2.1 (z12).toNat
          refine k_run 0 (pc' := 60) (l' := [(0, .inr (.inr 361)), (1, .inl a), (2, .inl z12)]) (st' := [.inl (H.1 (t16 + 5) (z12).toNat)]) rfl ?_
          have vfd9 : vfd Y X = fnd (X 10) (X 0 1) (tn Y (xi X)) := by unfold vfd; rw [if_neg (by omega)]
          have ht9 : (H.1 (t16 + 5) (z12).toNat) = X 11 (vfd Y X).toNat := by rw [et18, hv9, vfd9]; exact RT_vt hR (by omega) (by rw [← vfd9, ← hv9]; omega)
          refine k_run 1 (pc' := 61) (l' := [(0, .inr (.inr 361)), (1, .inl a), (2, .inl z12)]) (st' := [.inl a, .inl (H.1 (t16 + 5) (z12).toNat)]) rfl ?_
          refine h_ieq (off := 9) (t := 70) rfl rfl (by omega) (by omega) (fun c20 => ?_) (fun c20 => ?_)
          · refine k_run 0 (pc' := 70) (l' := [(0, .inr (.inr 361)), (1, .inl a), (2, .inl z12)]) (st' := []) rfl ?_
            refine k_run 1 (pc' := 71) (l' := [(0, .inr (.inr 361)), (1, .inl a), (2, .inl z12)]) (st' := [.inl z12]) rfl ?_
            refine h_zge (off := 18) (t := 89) rfl rfl (by omega) (fun c21 => ?_) (fun c21 => ?_)
            · refine k_run 0 (pc' := 89) (l' := [(0, .inr (.inr 361)), (1, .inl a), (2, .inl z12)]) (st' := []) rfl ?_
              refine k_run 3 (pc' := 92) (l' := [(0, .inr (.inr 361)), (1, .inl a), (2, .inl z12)]) (st' := [.inl z12, .inl 3, .inr (.inr 361)]) rfl ?_
              refine h_zge (off := 11) (t := 103) rfl rfl (by omega) (fun c22 => ?_) (fun c22 => ?_)
              · refine k_run 0 (pc' := 103) (l' := [(0, .inr (.inr 361)), (1, .inl a), (2, .inl z12)]) (st' := [.inl 3, .inr (.inr 361)]) rfl ?_
                refine k_run 1 (pc' := 104) (l' := [(0, .inr (.inr 361)), (1, .inl a), (2, .inl z12)]) (st' := [.inl z12, .inl 3, .inr (.inr 361)]) rfl ?_
                refine k_run 1 (pc' := 105) (l' := [(0, .inr (.inr 361)), (1, .inl a), (2, .inl z12)]) (st' := [.inl 0, .inl z12, .inl 3, .inr (.inr 361)]) rfl ?_
                refine h_cs (i := 153) (j := 48) (M' := mt_48) (xs := [.inl 0, .inl z12, .inl 3]) (rest := [.inr (.inr 361)]) rfl rfl rfl rfl rfl (Nat.le_of_ble_eq_true rfl) (Nat.le_of_ble_eq_true rfl) (by omega) (q_Term_codeOf (by omega)  (by decide) (by omega) (by decide)) ?_
                rintro _ _ ⟨z29, rfl, g23, hx28, rfl⟩
                refine k_run 0 (pc' := 108) (l' := [(0, .inr (.inr 361)), (1, .inl a), (2, .inl z12)]) (st' := [.inl z29, .inr (.inr 361)]) rfl ?_
                refine h_cv (i := 157) (j := 77) (b := 361) (M' := mt_77) (xs := [.inl z29]) (rest := []) rfl rfl rfl rfl (zs_K (x := kx_361) rfl (by decide)) rfl (Nat.le_of_ble_eq_true rfl) (Nat.le_of_ble_eq_true rfl) (by omega) (q_Reader_addName (by omega) hI (by omega) (by omega) (RT_TQ hR)) ?_
                rintro _ H31 ⟨z36, rfl, g30, hI32, hq33, hp34, hx35⟩
                have hf37 : fq [(361, 3), (361, 4), (361, 5), (361, 9)] [362] true H H31 := fq_t (fq_rf _ _ _ _) hq33 rfl rfl rfl
                refine k_run 0 (pc' := 111) (l' := [(0, .inr (.inr 361)), (1, .inl a), (2, .inl z12)]) (st' := [.inl z36]) rfl ?_
                refine h_retz (x := z36) rfl rfl (by omega) ?_
                rw [hQ9]
                exact ⟨_, rfl, (by omega), hI32, hf37, (by first | (exfalso; omega) | exact ⟨hx35.elim (fun e => Or.inl ⟨e.1, xput X (1000 + vfd Y X), (rch_st hX (by show stTerm Y a b9 c9 K X = _; unfold stTerm stVar; (repeat (first | rw [if_pos (by omega)] | rw [if_neg (by omega)])); try rfl)), RT_put hR hp34 (e.2.2.1.trans (hx28.trans (by rw [hv9]; exact (kcd_v X (by omega)).symm))) e.2.2.2.1 e.2.2.2.2 (by omega) (RB_lt hB (by omega) (by omega)), PW9_put hsz.2.1 (fun q9 => absurd q9 (by omega))⟩) (fun e => Or.inr ⟨e.1, FB_mk hB e.2.2.1 nF45 (rch_st hX (by show stTerm Y a b9 c9 K X = _; unfold stTerm stVar; (repeat (first | rw [if_pos (by omega)] | rw [if_neg (by omega)])); try rfl)) e.2.2.2.1 e.2.2.2.2⟩), NL_fw hp34 (nX_put (by first | exact RT_TQ hR1 | exact RT_TQ hR2 | exact RT_TQ hR3 | exact RT_TQ hR))⟩)⟩
              · exfalso
                omega
            · exfalso
              omega
          · refine k_run 0 (pc' := 64) (l' := [(0, .inr (.inr 361)), (1, .inl a), (2, .inl z12)]) (st' := []) rfl ?_
            refine k_run 2 (pc' := 66) (l' := [(0, .inr (.inr 361)), (1, .inl a), (2, .inl z12)]) (st' := [.inl 4, .inr (.inr 361)]) rfl ?_
            refine h_cv (i := 128) (j := 86) (b := 361) (M' := mt_86) (xs := [.inl 4]) (rest := []) rfl rfl rfl rfl (zs_K (x := kx_361) rfl (by decide)) rfl (Nat.le_of_ble_eq_true rfl) (Nat.le_of_ble_eq_true rfl) (by omega) (q_Reader_fails (by omega) hI (by decide) (by omega)) ?_
            rintro _ H39 ⟨z44, rfl, g38, hI40, hq41, hp42, hx43⟩
            have hf45 : fq [(361, 3), (361, 4), (361, 5), (361, 9)] [362] true H H39 := fq_t (fq_rf _ _ _ _) hq41 rfl rfl rfl
            refine k_run 0 (pc' := 69) (l' := [(0, .inr (.inr 361)), (1, .inl a), (2, .inl z12)]) (st' := [.inl z44]) rfl ?_
            refine h_retz (x := z44) rfl rfl (by omega) ?_
            rw [hQ9]
            exact ⟨_, rfl, (by omega), hI40, hf45, (by first | (exfalso; omega) | exact ⟨(Or.inr ⟨by omega, FB_mk hB hp42 nF45 (rch_st hX (by show stTerm Y a b9 c9 K X = _; unfold stTerm stVar; (repeat (first | rw [if_pos (by omega)] | rw [if_neg (by omega)])); try rfl)) hx43.1 hx43.2⟩), NL_fw hp42 (nXF45 _)⟩)⟩
      · refine k_run 0 (pc' := 33) (l' := [(0, .inr (.inr 361)), (1, .inl a), (2, .inl z12)]) (st' := []) rfl ?_
        refine k_run 3 (pc' := 38) (l' := [(0, .inr (.inr 361)), (1, .inl a), (2, .inl z12)]) (st' := [.inl 1, .inl (H.1 361 6)]) rfl ?_
        refine h_ieq (off := 9) (t := 47) rfl rfl (by omega) (by decide) (fun c46 => ?_) (fun c46 => ?_)
        · refine k_run 0 (pc' := 47) (l' := [(0, .inr (.inr 361)), (1, .inl a), (2, .inl z12)]) (st' := []) rfl ?_
          refine k_run 1 (pc' := 48) (l' := [(0, .inr (.inr 361)), (1, .inl a), (2, .inl z12)]) (st' := [.inl z12]) rfl ?_
          refine h_zlt (off := 22) (t := 70) rfl rfl (by omega) (fun c47 => ?_) (fun c47 => ?_)
          · refine k_run 0 (pc' := 70) (l' := [(0, .inr (.inr 361)), (1, .inl a), (2, .inl z12)]) (st' := []) rfl ?_
            refine k_run 1 (pc' := 71) (l' := [(0, .inr (.inr 361)), (1, .inl a), (2, .inl z12)]) (st' := [.inl z12]) rfl ?_
            refine h_zge (off := 18) (t := 89) rfl rfl (by omega) (fun c48 => ?_) (fun c48 => ?_)
            · exfalso
              omega
            · refine k_run 0 (pc' := 74) (l' := [(0, .inr (.inr 361)), (1, .inl a), (2, .inl z12)]) (st' := []) rfl ?_
              have hnv1 := (hV.2.2 (by omega)).1
              refine k_run 2 (pc' := 78) (l' := [(0, .inr (.inr 361)), (1, .inl a), (2, .inl z12)]) (st' := [.inl (H.1 361 9)]) rfl ?_
              have g49 : 0 ≤ (H.1 361 9) ∧ (H.1 361 9) ≤ 40 := kn (x := kx_361) hI rfl 9
              refine k_run 1 (pc' := 80) (l' := [(0, .inr (.inr 361)), (1, .inl a), (2, .inl z12)]) (st' := [.inl 6, .inl (H.1 361 9)]) rfl ?_
              refine h_ilt (off := 9) (t := 89) rfl rfl (by omega) (by decide) (fun c50 => ?_) (fun c50 => ?_)
              · refine k_run 0 (pc' := 89) (l' := [(0, .inr (.inr 361)), (1, .inl a), (2, .inl z12)]) (st' := []) rfl ?_
                refine k_run 3 (pc' := 92) (l' := [(0, .inr (.inr 361)), (1, .inl a), (2, .inl z12)]) (st' := [.inl z12, .inl 3, .inr (.inr 361)]) rfl ?_
                refine h_zge (off := 11) (t := 103) rfl rfl (by omega) (fun c51 => ?_) (fun c51 => ?_)
                · exfalso
                  omega
                · refine k_run 0 (pc' := 95) (l' := [(0, .inr (.inr 361)), (1, .inl a), (2, .inl z12)]) (st' := [.inl 3, .inr (.inr 361)]) rfl ?_
                  refine k_run 2 (pc' := 97) (l' := [(0, .inr (.inr 361)), (1, .inl a), (2, .inl z12)]) (st' := [.inl a, .inr (.inr 361), .inl 3, .inr (.inr 361)]) rfl ?_
                  refine h_cv (i := 206) (j := 76) (b := 361) (M' := mt_76) (xs := [.inl a]) (rest := [.inl 3, .inr (.inr 361)]) rfl rfl rfl rfl (zs_K (x := kx_361) rfl (by decide)) rfl (Nat.le_of_ble_eq_true rfl) (Nat.le_of_ble_eq_true rfl) (by omega) (q_Reader_tellVariable (by omega) hI (by omega) (by omega) (by omega) (by omega) hV.2.1) ?_
                  rintro _ H53 ⟨z58, rfl, g52, hI54, hq55, hp56, hx57⟩
                  have hf59 : fq [(361, 3), (361, 4), (361, 5), (361, 9)] [362] true H H53 := fq_t (fq_rf _ _ _ _) hq55 rfl rfl rfl
                  refine k_run 0 (pc' := 100) (l' := [(0, .inr (.inr 361)), (1, .inl a), (2, .inl z12)]) (st' := [.inl z58, .inl 3, .inr (.inr 361)]) rfl ?_
                  refine k_run 1 (pc' := 104) (l' := [(0, .inr (.inr 361)), (1, .inl a), (2, .inl z12)]) (st' := [.inl z58, .inl 3, .inr (.inr 361)]) rfl ?_
                  have hR1 : RT Y q H53 (xvar X (tn Y (xi X)) a) := RT_var hR (by omega) hp56 (hx57.2.1.trans hnm) hx57.2.2.1 hx57.2.2.2 (by omega)
                  have hpa1 := RB_pa hR1.1
                  have hsz1 := hR1.2.2.2.1
                  have hx2 : xvar X (tn Y (xi X)) a 0 2 = X 0 2 := xvar_0 _ _ _ (by decide)
                  refine k_run 1 (pc' := 105) (l' := [(0, .inr (.inr 361)), (1, .inl a), (2, .inl z12)]) (st' := [.inl 0, .inl z58, .inl 3, .inr (.inr 361)]) rfl ?_
                  refine h_cs (i := 153) (j := 48) (M' := mt_48) (xs := [.inl 0, .inl z58, .inl 3]) (rest := [.inr (.inr 361)]) rfl rfl rfl rfl rfl (Nat.le_of_ble_eq_true rfl) (Nat.le_of_ble_eq_true rfl) (by omega) (q_Term_codeOf (by omega)  (by decide) (by omega) (by decide)) ?_
                  rintro _ _ ⟨z66, rfl, g60, hx65, rfl⟩
                  refine k_run 0 (pc' := 108) (l' := [(0, .inr (.inr 361)), (1, .inl a), (2, .inl z12)]) (st' := [.inl z66, .inr (.inr 361)]) rfl ?_
                  have g67 : -2147483648 ≤ (H53.1 361 3) ∧ (H53.1 361 3) ≤ 2147483647 := kn (x := kx_361) hI54 rfl 3
                  have e68 : (H53.1 361 3) = (H.1 361 3) := (hq55.1 361 3 rfl (by decide) (by decide)).1
                  have g69 : 0 ≤ (H53.1 2 5) ∧ (H53.1 2 5) ≤ 1001 := kn (x := kx_2) hI54 rfl 5
                  have e70 : (H53.1 2 5) = (H.1 2 5) := (hq55.1 2 5 rfl (by decide) (by decide)).1
                  refine h_cv (i := 157) (j := 77) (b := 361) (M' := mt_77) (xs := [.inl z66]) (rest := []) rfl rfl rfl rfl (zs_K (x := kx_361) rfl (by decide)) rfl (Nat.le_of_ble_eq_true rfl) (Nat.le_of_ble_eq_true rfl) (by omega) (q_Reader_addName (by omega) hI54 (by omega) (by omega) (RT_TQ hR1)) ?_
                  rintro _ H72 ⟨z77, rfl, g71, hI73, hq74, hp75, hx76⟩
                  have hf78 : fq [(361, 3), (361, 4), (361, 5), (361, 9)] [362] true H H72 := fq_t hf59 hq74 rfl rfl rfl
                  refine k_run 0 (pc' := 111) (l' := [(0, .inr (.inr 361)), (1, .inl a), (2, .inl z12)]) (st' := [.inl z77]) rfl ?_
                  refine h_retz (x := z77) rfl rfl (by omega) ?_
                  rw [hQ9]
                  exact ⟨_, rfl, (by omega), hI73, hf78, (by first | (exfalso; omega) | exact ⟨hx76.elim (fun e => Or.inl ⟨e.1, xput (xvar X (tn Y (xi X)) a) (1000 + X 0 1), (rch_st hX (by show stTerm Y a b9 c9 K X = _; unfold stTerm stVar; (repeat (first | rw [if_pos (by omega)] | rw [if_neg (by omega)])); try rfl)), RT_put hR1 hp75 (e.2.2.1.trans (hx65.trans (by rw [hx57.1, (hV.2.2 (by omega)).1.1]; exact (kcd_v _ (by have q9 := (hV.2.2 (by omega)).1; omega)).symm))) e.2.2.2.1 e.2.2.2.2 (by omega) (by rw [xvar_0 _ _ _ (by decide)]; exact RB_lt hB (by omega) (by omega)), PW9_putv hsz.2.1 (by omega)⟩) (fun e => Or.inr ⟨e.1, FB_mk (RB_var hR hp56) e.2.2.1 nF45 (rch_st hX (by show stTerm Y a b9 c9 K X = _; unfold stTerm stVar; (repeat (first | rw [if_pos (by omega)] | rw [if_neg (by omega)])); try rfl)) e.2.2.2.1 e.2.2.2.2⟩), NL_tr (NL_fw hp56 (nX_var hR (by omega))) (NL_fw hp75 (nX_put (by first | exact RT_TQ hR1 | exact RT_TQ hR2 | exact RT_TQ hR3 | exact RT_TQ hR)))⟩)⟩
              · refine k_run 0 (pc' := 83) (l' := [(0, .inr (.inr 361)), (1, .inl a), (2, .inl z12)]) (st' := []) rfl ?_
                refine k_run 2 (pc' := 85) (l' := [(0, .inr (.inr 361)), (1, .inl a), (2, .inl z12)]) (st' := [.inl 5, .inr (.inr 361)]) rfl ?_
                refine h_cv (i := 128) (j := 86) (b := 361) (M' := mt_86) (xs := [.inl 5]) (rest := []) rfl rfl rfl rfl (zs_K (x := kx_361) rfl (by decide)) rfl (Nat.le_of_ble_eq_true rfl) (Nat.le_of_ble_eq_true rfl) (by omega) (q_Reader_fails (by omega) hI (by decide) (by omega)) ?_
                rintro _ H80 ⟨z85, rfl, g79, hI81, hq82, hp83, hx84⟩
                have hf86 : fq [(361, 3), (361, 4), (361, 5), (361, 9)] [362] true H H80 := fq_t (fq_rf _ _ _ _) hq82 rfl rfl rfl
                refine k_run 0 (pc' := 88) (l' := [(0, .inr (.inr 361)), (1, .inl a), (2, .inl z12)]) (st' := [.inl z85]) rfl ?_
                refine h_retz (x := z85) rfl rfl (by omega) ?_
                rw [hQ9]
                exact ⟨_, rfl, (by omega), hI81, hf86, (by first | (exfalso; omega) | exact ⟨(Or.inr ⟨by omega, FB_mk hB hp83 nF45 (rch_st hX (by show stTerm Y a b9 c9 K X = _; unfold stTerm stVar; (repeat (first | rw [if_pos (by omega)] | rw [if_neg (by omega)])); try rfl)) hx84.1 hx84.2⟩), NL_fw hp83 (nXF45 _)⟩)⟩
          · exfalso
            omega
        · refine k_run 0 (pc' := 41) (l' := [(0, .inr (.inr 361)), (1, .inl a), (2, .inl z12)]) (st' := []) rfl ?_
          refine k_run 2 (pc' := 43) (l' := [(0, .inr (.inr 361)), (1, .inl a), (2, .inl z12)]) (st' := [.inl 3, .inr (.inr 361)]) rfl ?_
          refine h_cv (i := 128) (j := 86) (b := 361) (M' := mt_86) (xs := [.inl 3]) (rest := []) rfl rfl rfl rfl (zs_K (x := kx_361) rfl (by decide)) rfl (Nat.le_of_ble_eq_true rfl) (Nat.le_of_ble_eq_true rfl) (by omega) (q_Reader_fails (by omega) hI (by decide) (by omega)) ?_
          rintro _ H88 ⟨z93, rfl, g87, hI89, hq90, hp91, hx92⟩
          have hf94 : fq [(361, 3), (361, 4), (361, 5), (361, 9)] [362] true H H88 := fq_t (fq_rf _ _ _ _) hq90 rfl rfl rfl
          refine k_run 0 (pc' := 46) (l' := [(0, .inr (.inr 361)), (1, .inl a), (2, .inl z12)]) (st' := [.inl z93]) rfl ?_
          refine h_retz (x := z93) rfl rfl (by omega) ?_
          rw [hQ9]
          exact ⟨_, rfl, (by omega), hI89, hf94, (by first | (exfalso; omega) | exact ⟨(Or.inr ⟨by omega, FB_mk hB hp91 nF45 (rch_st hX (by show stTerm Y a b9 c9 K X = _; unfold stTerm stVar; (repeat (first | rw [if_pos (by omega)] | rw [if_neg (by omega)])); try rfl)) hx92.1 hx92.2⟩), NL_fw hp91 (nXF45 _)⟩)⟩
    · refine k_run 0 (pc' := 20) (l' := [(0, .inr (.inr 361)), (1, .inl a)]) (st' := []) rfl ?_
      refine k_run 3 (pc' := 29) (l' := [(0, .inr (.inr 361)), (1, .inl a), (2, .inl (-1))]) (st' := []) rfl ?_
      have hv9 : (-1 : Int) = vfd Y X := by unfold vfd; rw [if_pos (by omega)]
      refine k_run 1 (pc' := 30) (l' := [(0, .inr (.inr 361)), (1, .inl a), (2, .inl (-1))]) (st' := [.inl (-1)]) rfl ?_
      refine h_zge (off := 17) (t := 47) rfl rfl (by decide) (fun c => absurd c (by decide)) (fun _ => ?_)
      refine k_run 0 (pc' := 33) (l' := [(0, .inr (.inr 361)), (1, .inl a), (2, .inl (-1))]) (st' := []) rfl ?_
      refine k_run 3 (pc' := 38) (l' := [(0, .inr (.inr 361)), (1, .inl a), (2, .inl (-1))]) (st' := [.inl 1, .inl (H.1 361 6)]) rfl ?_
      refine h_ieq (off := 9) (t := 47) rfl rfl (by omega) (by decide) (fun c95 => ?_) (fun c95 => ?_)
      · refine k_run 0 (pc' := 47) (l' := [(0, .inr (.inr 361)), (1, .inl a), (2, .inl (-1))]) (st' := []) rfl ?_
        refine k_run 1 (pc' := 48) (l' := [(0, .inr (.inr 361)), (1, .inl a), (2, .inl (-1))]) (st' := [.inl (-1)]) rfl ?_
        refine h_zlt (off := 22) (t := 70) rfl rfl (by decide) (fun _ => ?_) (fun c => absurd c (by decide))
        refine k_run 0 (pc' := 70) (l' := [(0, .inr (.inr 361)), (1, .inl a), (2, .inl (-1))]) (st' := []) rfl ?_
        refine k_run 1 (pc' := 71) (l' := [(0, .inr (.inr 361)), (1, .inl a), (2, .inl (-1))]) (st' := [.inl (-1)]) rfl ?_
        refine h_zge (off := 18) (t := 89) rfl rfl (by decide) (fun c => absurd c (by decide)) (fun _ => ?_)
        refine k_run 0 (pc' := 74) (l' := [(0, .inr (.inr 361)), (1, .inl a), (2, .inl (-1))]) (st' := []) rfl ?_
        have hnv1 := (hV.2.2 (by omega)).1
        refine k_run 2 (pc' := 78) (l' := [(0, .inr (.inr 361)), (1, .inl a), (2, .inl (-1))]) (st' := [.inl (H.1 361 9)]) rfl ?_
        have g96 : 0 ≤ (H.1 361 9) ∧ (H.1 361 9) ≤ 40 := kn (x := kx_361) hI rfl 9
        refine k_run 1 (pc' := 80) (l' := [(0, .inr (.inr 361)), (1, .inl a), (2, .inl (-1))]) (st' := [.inl 6, .inl (H.1 361 9)]) rfl ?_
        refine h_ilt (off := 9) (t := 89) rfl rfl (by omega) (by decide) (fun c97 => ?_) (fun c97 => ?_)
        · refine k_run 0 (pc' := 89) (l' := [(0, .inr (.inr 361)), (1, .inl a), (2, .inl (-1))]) (st' := []) rfl ?_
          refine k_run 3 (pc' := 92) (l' := [(0, .inr (.inr 361)), (1, .inl a), (2, .inl (-1))]) (st' := [.inl (-1), .inl 3, .inr (.inr 361)]) rfl ?_
          refine h_zge (off := 11) (t := 103) rfl rfl (by decide) (fun c => absurd c (by decide)) (fun _ => ?_)
          refine k_run 0 (pc' := 95) (l' := [(0, .inr (.inr 361)), (1, .inl a), (2, .inl (-1))]) (st' := [.inl 3, .inr (.inr 361)]) rfl ?_
          refine k_run 2 (pc' := 97) (l' := [(0, .inr (.inr 361)), (1, .inl a), (2, .inl (-1))]) (st' := [.inl a, .inr (.inr 361), .inl 3, .inr (.inr 361)]) rfl ?_
          have g98 : -2147483648 ≤ (H.1 361 3) ∧ (H.1 361 3) ≤ 2147483647 := kn (x := kx_361) hI rfl 3
          have g99 : 0 ≤ (H.1 2 5) ∧ (H.1 2 5) ≤ 1001 := kn (x := kx_2) hI rfl 5
          refine h_cv (i := 206) (j := 76) (b := 361) (M' := mt_76) (xs := [.inl a]) (rest := [.inl 3, .inr (.inr 361)]) rfl rfl rfl rfl (zs_K (x := kx_361) rfl (by decide)) rfl (Nat.le_of_ble_eq_true rfl) (Nat.le_of_ble_eq_true rfl) (by omega) (q_Reader_tellVariable (by omega) hI (by omega) (by omega) (by omega) (by omega) hV.2.1) ?_
          rintro _ H101 ⟨z106, rfl, g100, hI102, hq103, hp104, hx105⟩
          have hf107 : fq [(361, 3), (361, 4), (361, 5), (361, 9)] [362] true H H101 := fq_t (fq_rf _ _ _ _) hq103 rfl rfl rfl
          refine k_run 0 (pc' := 100) (l' := [(0, .inr (.inr 361)), (1, .inl a), (2, .inl (-1))]) (st' := [.inl z106, .inl 3, .inr (.inr 361)]) rfl ?_
          refine k_run 1 (pc' := 104) (l' := [(0, .inr (.inr 361)), (1, .inl a), (2, .inl (-1))]) (st' := [.inl z106, .inl 3, .inr (.inr 361)]) rfl ?_
          have hR1 : RT Y q H101 (xvar X (tn Y (xi X)) a) := RT_var hR (by omega) hp104 (hx105.2.1.trans hnm) hx105.2.2.1 hx105.2.2.2 (by omega)
          have hpa1 := RB_pa hR1.1
          have hsz1 := hR1.2.2.2.1
          have hx2 : xvar X (tn Y (xi X)) a 0 2 = X 0 2 := xvar_0 _ _ _ (by decide)
          refine k_run 1 (pc' := 105) (l' := [(0, .inr (.inr 361)), (1, .inl a), (2, .inl (-1))]) (st' := [.inl 0, .inl z106, .inl 3, .inr (.inr 361)]) rfl ?_
          refine h_cs (i := 153) (j := 48) (M' := mt_48) (xs := [.inl 0, .inl z106, .inl 3]) (rest := [.inr (.inr 361)]) rfl rfl rfl rfl rfl (Nat.le_of_ble_eq_true rfl) (Nat.le_of_ble_eq_true rfl) (by omega) (q_Term_codeOf (by omega)  (by decide) (by omega) (by decide)) ?_
          rintro _ _ ⟨z114, rfl, g108, hx113, rfl⟩
          refine k_run 0 (pc' := 108) (l' := [(0, .inr (.inr 361)), (1, .inl a), (2, .inl (-1))]) (st' := [.inl z114, .inr (.inr 361)]) rfl ?_
          have g115 : -2147483648 ≤ (H101.1 361 3) ∧ (H101.1 361 3) ≤ 2147483647 := kn (x := kx_361) hI102 rfl 3
          have e116 : (H101.1 361 3) = (H.1 361 3) := (hq103.1 361 3 rfl (by decide) (by decide)).1
          have g117 : 0 ≤ (H101.1 2 5) ∧ (H101.1 2 5) ≤ 1001 := kn (x := kx_2) hI102 rfl 5
          have e118 : (H101.1 2 5) = (H.1 2 5) := (hq103.1 2 5 rfl (by decide) (by decide)).1
          refine h_cv (i := 157) (j := 77) (b := 361) (M' := mt_77) (xs := [.inl z114]) (rest := []) rfl rfl rfl rfl (zs_K (x := kx_361) rfl (by decide)) rfl (Nat.le_of_ble_eq_true rfl) (Nat.le_of_ble_eq_true rfl) (by omega) (q_Reader_addName (by omega) hI102 (by omega) (by omega) (RT_TQ hR1)) ?_
          rintro _ H120 ⟨z125, rfl, g119, hI121, hq122, hp123, hx124⟩
          have hf126 : fq [(361, 3), (361, 4), (361, 5), (361, 9)] [362] true H H120 := fq_t hf107 hq122 rfl rfl rfl
          refine k_run 0 (pc' := 111) (l' := [(0, .inr (.inr 361)), (1, .inl a), (2, .inl (-1))]) (st' := [.inl z125]) rfl ?_
          refine h_retz (x := z125) rfl rfl (by omega) ?_
          rw [hQ9]
          exact ⟨_, rfl, (by omega), hI121, hf126, (by first | (exfalso; omega) | exact ⟨hx124.elim (fun e => Or.inl ⟨e.1, xput (xvar X (tn Y (xi X)) a) (1000 + X 0 1), (rch_st hX (by show stTerm Y a b9 c9 K X = _; unfold stTerm stVar; (repeat (first | rw [if_pos (by omega)] | rw [if_neg (by omega)])); try rfl)), RT_put hR1 hp123 (e.2.2.1.trans (hx113.trans (by rw [hx105.1, (hV.2.2 (by omega)).1.1]; exact (kcd_v _ (by have q9 := (hV.2.2 (by omega)).1; omega)).symm))) e.2.2.2.1 e.2.2.2.2 (by omega) (by rw [xvar_0 _ _ _ (by decide)]; exact RB_lt hB (by omega) (by omega)), PW9_putv hsz.2.1 (by omega)⟩) (fun e => Or.inr ⟨e.1, FB_mk (RB_var hR hp104) e.2.2.1 nF45 (rch_st hX (by show stTerm Y a b9 c9 K X = _; unfold stTerm stVar; (repeat (first | rw [if_pos (by omega)] | rw [if_neg (by omega)])); try rfl)) e.2.2.2.1 e.2.2.2.2⟩), NL_tr (NL_fw hp104 (nX_var hR (by omega))) (NL_fw hp123 (nX_put (by first | exact RT_TQ hR1 | exact RT_TQ hR2 | exact RT_TQ hR3 | exact RT_TQ hR)))⟩)⟩
        · refine k_run 0 (pc' := 83) (l' := [(0, .inr (.inr 361)), (1, .inl a), (2, .inl (-1))]) (st' := []) rfl ?_
          refine k_run 2 (pc' := 85) (l' := [(0, .inr (.inr 361)), (1, .inl a), (2, .inl (-1))]) (st' := [.inl 5, .inr (.inr 361)]) rfl ?_
          have g127 : -2147483648 ≤ (H.1 361 3) ∧ (H.1 361 3) ≤ 2147483647 := kn (x := kx_361) hI rfl 3
          have g128 : 0 ≤ (H.1 2 5) ∧ (H.1 2 5) ≤ 1001 := kn (x := kx_2) hI rfl 5
          refine h_cv (i := 128) (j := 86) (b := 361) (M' := mt_86) (xs := [.inl 5]) (rest := []) rfl rfl rfl rfl (zs_K (x := kx_361) rfl (by decide)) rfl (Nat.le_of_ble_eq_true rfl) (Nat.le_of_ble_eq_true rfl) (by omega) (q_Reader_fails (by omega) hI (by decide) (by omega)) ?_
          rintro _ H130 ⟨z135, rfl, g129, hI131, hq132, hp133, hx134⟩
          have hf136 : fq [(361, 3), (361, 4), (361, 5), (361, 9)] [362] true H H130 := fq_t (fq_rf _ _ _ _) hq132 rfl rfl rfl
          refine k_run 0 (pc' := 88) (l' := [(0, .inr (.inr 361)), (1, .inl a), (2, .inl (-1))]) (st' := [.inl z135]) rfl ?_
          refine h_retz (x := z135) rfl rfl (by omega) ?_
          rw [hQ9]
          exact ⟨_, rfl, (by omega), hI131, hf136, (by first | (exfalso; omega) | exact ⟨(Or.inr ⟨by omega, FB_mk hB hp133 nF45 (rch_st hX (by show stTerm Y a b9 c9 K X = _; unfold stTerm stVar; (repeat (first | rw [if_pos (by omega)] | rw [if_neg (by omega)])); try rfl)) hx134.1 hx134.2⟩), NL_fw hp133 (nXF45 _)⟩)⟩
      · refine k_run 0 (pc' := 41) (l' := [(0, .inr (.inr 361)), (1, .inl a), (2, .inl (-1))]) (st' := []) rfl ?_
        refine k_run 2 (pc' := 43) (l' := [(0, .inr (.inr 361)), (1, .inl a), (2, .inl (-1))]) (st' := [.inl 3, .inr (.inr 361)]) rfl ?_
        have g137 : -2147483648 ≤ (H.1 361 3) ∧ (H.1 361 3) ≤ 2147483647 := kn (x := kx_361) hI rfl 3
        have g138 : 0 ≤ (H.1 2 5) ∧ (H.1 2 5) ≤ 1001 := kn (x := kx_2) hI rfl 5
        refine h_cv (i := 128) (j := 86) (b := 361) (M' := mt_86) (xs := [.inl 3]) (rest := []) rfl rfl rfl rfl (zs_K (x := kx_361) rfl (by decide)) rfl (Nat.le_of_ble_eq_true rfl) (Nat.le_of_ble_eq_true rfl) (by omega) (q_Reader_fails (by omega) hI (by decide) (by omega)) ?_
        rintro _ H140 ⟨z145, rfl, g139, hI141, hq142, hp143, hx144⟩
        have hf146 : fq [(361, 3), (361, 4), (361, 5), (361, 9)] [362] true H H140 := fq_t (fq_rf _ _ _ _) hq142 rfl rfl rfl
        refine k_run 0 (pc' := 46) (l' := [(0, .inr (.inr 361)), (1, .inl a), (2, .inl (-1))]) (st' := [.inl z145]) rfl ?_
        refine h_retz (x := z145) rfl rfl (by omega) ?_
        rw [hQ9]
        exact ⟨_, rfl, (by omega), hI141, hf146, (by first | (exfalso; omega) | exact ⟨(Or.inr ⟨by omega, FB_mk hB hp143 nF45 (rch_st hX (by show stTerm Y a b9 c9 K X = _; unfold stTerm stVar; (repeat (first | rw [if_pos (by omega)] | rw [if_neg (by omega)])); try rfl)) hx144.1 hx144.2⟩), NL_fw hp143 (nXF45 _)⟩)⟩
  · refine k_run 0 (pc' := 6) (l' := [(0, .inr (.inr 361)), (1, .inl a)]) (st' := []) rfl ?_
    refine k_run 2 (pc' := 8) (l' := [(0, .inr (.inr 361)), (1, .inl a)]) (st' := [.inl 2, .inr (.inr 361)]) rfl ?_
    have g147 : -2147483648 ≤ (H.1 361 3) ∧ (H.1 361 3) ≤ 2147483647 := kn (x := kx_361) hI rfl 3
    have g148 : 0 ≤ (H.1 2 5) ∧ (H.1 2 5) ≤ 1001 := kn (x := kx_2) hI rfl 5
    refine h_cv (i := 128) (j := 86) (b := 361) (M' := mt_86) (xs := [.inl 2]) (rest := []) rfl rfl rfl rfl (zs_K (x := kx_361) rfl (by decide)) rfl (Nat.le_of_ble_eq_true rfl) (Nat.le_of_ble_eq_true rfl) (by omega) (q_Reader_fails (by omega) hI (by decide) (by omega)) ?_
    rintro _ H150 ⟨z155, rfl, g149, hI151, hq152, hp153, hx154⟩
    have hf156 : fq [(361, 3), (361, 4), (361, 5), (361, 9)] [362] true H H150 := fq_t (fq_rf _ _ _ _) hq152 rfl rfl rfl
    refine k_run 0 (pc' := 11) (l' := [(0, .inr (.inr 361)), (1, .inl a)]) (st' := [.inl z155]) rfl ?_
    refine h_retz (x := z155) rfl rfl (by omega) ?_
    rw [hQ9]
    exact ⟨_, rfl, (by omega), hI151, hf156, (by first | (exfalso; omega) | exact ⟨(Or.inr ⟨by omega, FB_mk hB hp153 nF45 (rch_st hX (by show stTerm Y a b9 c9 K X = _; unfold stTerm stVar; (repeat (first | rw [if_pos (by omega)] | rw [if_neg (by omega)])); try rfl)) hx154.1 hx154.2⟩), NL_fw hp153 (nXF45 _)⟩)⟩

/-! Reader.readPatternVariable -/
set_option maxRecDepth 100000 in
theorem q_Reader_readPatternVariable {Y : yx} {q : Nat} {c0 : cf} {K : List tq} {X : rx} {b9 c9 s0 : Int} {d : Nat} (hd : 3 ≤ d) {H : hp} (hI : Inv H) {a : Int} (ha : -2147483648 ≤ a ∧ a ≤ 2147483647) (hp0 : -2 ≤ a ∧ a ≤ 100) (hR : RT Y q H X) (hX : rch Y c0 ((4, a, b9, c9) :: K, X)) (h2 : tk Y (xi X) = 2) (hP : PP s0 X) : hG (zs zK) d mt_71 0 (zargs 0 [.inr (.inr 361), .inl a]) [] H (fun r9 H9 => ∃ z : Int, r9 = some (.inl z) ∧ ((0 ≤ z ∧ z ≤ 1)) ∧ Inv H9 ∧ fq [(361, 3), (361, 4), (361, 5), (361, 9)] [362] true H H9 ∧ ((OT Y q c0 K (PP s0) z H9) ∧ NL H H9)) := by
  obtain ⟨hB, hV, hS⟩ := id hR
  have hpa := RB_pa hB
  have htk := RB_tk hB
  obtain ⟨kE, hkE, hEE⟩ := hV.2.1
  have hmo := hV.1
  have hsz := hS.2.1
  have hnm := RB_tn hB (by omega) (by omega)
  have hm9 : X 0 8 = 0 := hP.1
  have hn9 : X 0 1 < X 0 2 := hP.2.1
  have hn8 : 0 ≤ X 0 1 := hP.2.2.1
  have hnv := hV.2.2 (by omega)
  have hnv1 := hnv.1
  obtain ⟨Q9, hQ9⟩ : ∃ Q9 : Option zv → hp → Prop, Q9 = (fun r9 H9 => ∃ z : Int, r9 = some (.inl z) ∧ ((0 ≤ z ∧ z ≤ 1)) ∧ Inv H9 ∧ fq [(361, 3), (361, 4), (361, 5), (361, 9)] [362] true H H9 ∧ ((OT Y q c0 K (PP s0) z H9) ∧ NL H H9)) := ⟨_, rfl⟩
  rw [← hQ9]
  refine k_run 0 (pc' := 0) (l' := [(0, .inr (.inr 361)), (1, .inl a)]) (st' := []) rfl ?_
  refine k_run 4 (pc' := 8) (l' := [(0, .inr (.inr 361)), (1, .inl a)]) (st' := [.inr (.inr 361), .inr (.inr 18)]) rfl ?_
  have g1 : -2147483648 ≤ (H.1 361 3) ∧ (H.1 361 3) ≤ 2147483647 := kn (x := kx_361) hI rfl 3
  have g2 : 0 ≤ (H.1 2 5) ∧ (H.1 2 5) ≤ 1001 := kn (x := kx_2) hI rfl 5
  refine h_cv (i := 120) (j := 84) (b := 361) (M' := mt_84) (xs := []) (rest := [.inr (.inr 18)]) rfl rfl rfl rfl (zs_K (x := kx_361) rfl (by decide)) rfl (Nat.le_of_ble_eq_true rfl) (Nat.le_of_ble_eq_true rfl) (by omega) (q_Reader_name (by omega) hI (by omega)) ?_
  rintro _ _ ⟨z9, rfl, g3, hx8, rfl⟩
  refine k_run 0 (pc' := 11) (l' := [(0, .inr (.inr 361)), (1, .inl a)]) (st' := [.inr (.inl z9), .inr (.inr 18)]) rfl ?_
  have g10 : 0 ≤ (H.1 18 4) ∧ (H.1 18 4) ≤ 16 := kn (x := kx_18) hI rfl 4
  refine h_cv (i := 124) (j := 41) (b := 18) (M' := mt_41) (xs := [.inr (.inl z9)]) (rest := []) rfl rfl rfl rfl (zs_K (x := kx_18) rfl (by decide)) rfl (Nat.le_of_ble_eq_true rfl) (Nat.le_of_ble_eq_true rfl) (by omega) (q_Symbols_find_18 (by omega) hI (by omega)) ?_
  rintro _ _ ⟨z17, rfl, g11, hx16, rfl⟩
  refine k_run 0 (pc' := 14) (l' := [(0, .inr (.inr 361)), (1, .inl a)]) (st' := [.inl z17]) rfl ?_
  have hff : z17 = ffd Y X := by rw [hx16, hx8]; exact RB_ff hB (by omega) (by omega)
  refine h_zlt (off := 9) (t := 23) rfl rfl (by omega) (fun c18 => ?_) (fun c18 => ?_)
  · refine k_run 0 (pc' := 23) (l' := [(0, .inr (.inr 361)), (1, .inl a)]) (st' := []) rfl ?_
    refine k_run 1 (pc' := 24) (l' := [(0, .inr (.inr 361)), (1, .inl a)]) (st' := [.inr (.inr 361)]) rfl ?_
    refine h_cv (i := 203) (j := 79) (b := 361) (M' := mt_79) (xs := []) (rest := []) rfl rfl rfl rfl (zs_K (x := kx_361) rfl (by decide)) rfl (Nat.le_of_ble_eq_true rfl) (Nat.le_of_ble_eq_true rfl) (by omega) (q_Reader_findVariable (by omega) hI (by omega)) ?_
    rintro _ _ ⟨z25, rfl, g19, hx24, rfl⟩
    refine k_run 0 (pc' := 27) (l' := [(0, .inr (.inr 361)), (1, .inl a)]) (st' := [.inl z25]) rfl ?_
    have hvf : z25 = fnd (X 10) (X 0 1) (tn Y (xi X)) := hx24.trans (RT_vf hR (by omega) (by omega) (by omega))
    refine h_zlt (off := 9) (t := 36) rfl rfl (by omega) (fun c26 => ?_) (fun c26 => ?_)
    · refine k_run 0 (pc' := 36) (l' := [(0, .inr (.inr 361)), (1, .inl a)]) (st' := []) rfl ?_
      refine k_run 4 (pc' := 40) (l' := [(0, .inr (.inr 361)), (1, .inl a)]) (st' := [.inl a, .inr (.inr 361), .inl 3, .inr (.inr 361)]) rfl ?_
      have g27 : 0 ≤ (H.1 361 9) ∧ (H.1 361 9) ≤ 40 := kn (x := kx_361) hI rfl 9
      refine h_cv (i := 206) (j := 76) (b := 361) (M' := mt_76) (xs := [.inl a]) (rest := [.inl 3, .inr (.inr 361)]) rfl rfl rfl rfl (zs_K (x := kx_361) rfl (by decide)) rfl (Nat.le_of_ble_eq_true rfl) (Nat.le_of_ble_eq_true rfl) (by omega) (q_Reader_tellVariable (by omega) hI (by omega) (by omega) (by omega) (by omega) hV.2.1) ?_
      rintro _ H29 ⟨z34, rfl, g28, hI30, hq31, hp32, hx33⟩
      have hf35 : fq [(361, 3), (361, 4), (361, 5), (361, 9)] [362] true H H29 := fq_t (fq_rf _ _ _ _) hq31 rfl rfl rfl
      refine k_run 0 (pc' := 43) (l' := [(0, .inr (.inr 361)), (1, .inl a)]) (st' := [.inl z34, .inl 3, .inr (.inr 361)]) rfl ?_
      have hR1 : RT Y q H29 (xvar X (tn Y (xi X)) a) := RT_var hR (by omega) hp32 (hx33.2.1.trans hnm) hx33.2.2.1 hx33.2.2.2 (by omega)
      have hpa1 := RB_pa hR1.1
      have hsz1 := hR1.2.2.2.1
      have hx1 : xvar X (tn Y (xi X)) a 0 1 = X 0 1 + 1 := (xvar_s _ _ _).1
      have hx2 : xvar X (tn Y (xi X)) a 0 2 = X 0 2 := xvar_0 _ _ _ (by decide)
      refine k_run 1 (pc' := 44) (l' := [(0, .inr (.inr 361)), (1, .inl a)]) (st' := [.inl 0, .inl z34, .inl 3, .inr (.inr 361)]) rfl ?_
      refine h_cs (i := 153) (j := 48) (M' := mt_48) (xs := [.inl 0, .inl z34, .inl 3]) (rest := [.inr (.inr 361)]) rfl rfl rfl rfl rfl (Nat.le_of_ble_eq_true rfl) (Nat.le_of_ble_eq_true rfl) (by omega) (q_Term_codeOf (by omega)  (by decide) (by omega) (by decide)) ?_
      rintro _ _ ⟨z42, rfl, g36, hx41, rfl⟩
      refine k_run 0 (pc' := 47) (l' := [(0, .inr (.inr 361)), (1, .inl a)]) (st' := [.inl z42, .inr (.inr 361)]) rfl ?_
      have g43 : -2147483648 ≤ (H29.1 361 3) ∧ (H29.1 361 3) ≤ 2147483647 := kn (x := kx_361) hI30 rfl 3
      have e44 : (H29.1 361 3) = (H.1 361 3) := (hq31.1 361 3 rfl (by decide) (by decide)).1
      have g45 : 0 ≤ (H29.1 2 5) ∧ (H29.1 2 5) ≤ 1001 := kn (x := kx_2) hI30 rfl 5
      have e46 : (H29.1 2 5) = (H.1 2 5) := (hq31.1 2 5 rfl (by decide) (by decide)).1
      refine h_cv (i := 157) (j := 77) (b := 361) (M' := mt_77) (xs := [.inl z42]) (rest := []) rfl rfl rfl rfl (zs_K (x := kx_361) rfl (by decide)) rfl (Nat.le_of_ble_eq_true rfl) (Nat.le_of_ble_eq_true rfl) (by omega) (q_Reader_addName (by omega) hI30 (by omega) (by omega) (RT_TQ hR1)) ?_
      rintro _ H48 ⟨z53, rfl, g47, hI49, hq50, hp51, hx52⟩
      have hf54 : fq [(361, 3), (361, 4), (361, 5), (361, 9)] [362] true H H48 := fq_t hf35 hq50 rfl rfl rfl
      refine k_run 0 (pc' := 50) (l' := [(0, .inr (.inr 361)), (1, .inl a)]) (st' := [.inl z53]) rfl ?_
      refine h_retz (x := z53) rfl rfl (by omega) ?_
      rw [hQ9]
      exact ⟨_, rfl, (by omega), hI49, hf54, (by first | (exfalso; omega) | exact ⟨hx52.elim (fun e => Or.inl ⟨e.1, xput (xvar X (tn Y (xi X)) a) (1000 + X 0 1), (rch_st hX (by show stPat Y a b9 K X = _; unfold stPat; (repeat (first | rw [if_pos (by omega)] | rw [if_neg (by omega)])); try rfl)), RT_put hR1 hp51 (e.2.2.1.trans (hx41.trans (by rw [hx33.1, hnv.1.1]; exact (kcd_v _ (by omega)).symm))) e.2.2.2.1 e.2.2.2.2 (by omega) (by rw [xvar_0 _ _ _ (by decide)]; exact RB_lt hB (by omega) (by omega)), (xput_0 _ _ (by decide) (by decide)).trans ((xvar_0 _ _ _ (by decide)).trans hP.1), (by have q9 := (xput_s (xvar X (tn Y (xi X)) a) (1000 + X 0 1)).1; have q8 := xput_0 (xvar X (tn Y (xi X)) a) (1000 + X 0 1) (j := 1) (by decide) (by decide); have q7 := hP.2.1; omega), (by have q8 := xput_0 (xvar X (tn Y (xi X)) a) (1000 + X 0 1) (j := 1) (by decide) (by decide); omega), (by rw [(xput_s _ _).2.2, up_ne _ _ (by rw [xvar_0 _ _ _ (by decide)]; omega)]; exact hP.2.2.2)⟩) (fun e => Or.inr ⟨e.1, FB_mk (RB_var hR hp32) e.2.2.1 nF45 (rch_st hX (by show stPat Y a b9 K X = _; unfold stPat; (repeat (first | rw [if_pos (by omega)] | rw [if_neg (by omega)])); try rfl)) e.2.2.2.1 e.2.2.2.2⟩), NL_tr (NL_fw hp32 (nX_var hR (by omega))) (NL_fw hp51 (nX_put (by first | exact RT_TQ hR1 | exact RT_TQ hR2 | exact RT_TQ hR3 | exact RT_TQ hR)))⟩)⟩
    · refine k_run 0 (pc' := 30) (l' := [(0, .inr (.inr 361)), (1, .inl a)]) (st' := []) rfl ?_
      refine k_run 2 (pc' := 32) (l' := [(0, .inr (.inr 361)), (1, .inl a)]) (st' := [.inl 3, .inr (.inr 361)]) rfl ?_
      refine h_cv (i := 128) (j := 86) (b := 361) (M' := mt_86) (xs := [.inl 3]) (rest := []) rfl rfl rfl rfl (zs_K (x := kx_361) rfl (by decide)) rfl (Nat.le_of_ble_eq_true rfl) (Nat.le_of_ble_eq_true rfl) (by omega) (q_Reader_fails (by omega) hI (by decide) (by omega)) ?_
      rintro _ H56 ⟨z61, rfl, g55, hI57, hq58, hp59, hx60⟩
      have hf62 : fq [(361, 3), (361, 4), (361, 5), (361, 9)] [362] true H H56 := fq_t (fq_rf _ _ _ _) hq58 rfl rfl rfl
      refine k_run 0 (pc' := 35) (l' := [(0, .inr (.inr 361)), (1, .inl a)]) (st' := [.inl z61]) rfl ?_
      refine h_retz (x := z61) rfl rfl (by omega) ?_
      rw [hQ9]
      exact ⟨_, rfl, (by omega), hI57, hf62, (by first | (exfalso; omega) | exact ⟨(Or.inr ⟨by omega, FB_mk hB hp59 nF45 (rch_st hX (by show stPat Y a b9 K X = _; unfold stPat; (repeat (first | rw [if_pos (by omega)] | rw [if_neg (by omega)])); try rfl)) hx60.1 hx60.2⟩), NL_fw hp59 (nXF45 _)⟩)⟩
  · refine k_run 0 (pc' := 17) (l' := [(0, .inr (.inr 361)), (1, .inl a)]) (st' := []) rfl ?_
    refine k_run 2 (pc' := 19) (l' := [(0, .inr (.inr 361)), (1, .inl a)]) (st' := [.inl 2, .inr (.inr 361)]) rfl ?_
    refine h_cv (i := 128) (j := 86) (b := 361) (M' := mt_86) (xs := [.inl 2]) (rest := []) rfl rfl rfl rfl (zs_K (x := kx_361) rfl (by decide)) rfl (Nat.le_of_ble_eq_true rfl) (Nat.le_of_ble_eq_true rfl) (by omega) (q_Reader_fails (by omega) hI (by decide) (by omega)) ?_
    rintro _ H64 ⟨z69, rfl, g63, hI65, hq66, hp67, hx68⟩
    have hf70 : fq [(361, 3), (361, 4), (361, 5), (361, 9)] [362] true H H64 := fq_t (fq_rf _ _ _ _) hq66 rfl rfl rfl
    refine k_run 0 (pc' := 22) (l' := [(0, .inr (.inr 361)), (1, .inl a)]) (st' := [.inl z69]) rfl ?_
    refine h_retz (x := z69) rfl rfl (by omega) ?_
    rw [hQ9]
    exact ⟨_, rfl, (by omega), hI65, hf70, (by first | (exfalso; omega) | exact ⟨(Or.inr ⟨by omega, FB_mk hB hp67 nF45 (rch_st hX (by show stPat Y a b9 K X = _; unfold stPat; (repeat (first | rw [if_pos (by omega)] | rw [if_neg (by omega)])); try rfl)) hx68.1 hx68.2⟩), NL_fw hp67 (nXF45 _)⟩)⟩
