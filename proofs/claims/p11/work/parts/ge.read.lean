/-! the class's reader: an equation is begun -/
section KY
variable {d : Nat} {M : am_M} {pc : Nat} {l : zl} {st : List zv} {H : hp} {Q : Option zv → hp → Prop}
theorem k_putrx {i ci k a t : Nat} {x : kx} {ds : List zsd} {tys : List FieldType} {ty : FieldType} (hf : am_find pc M.2.2.2.2.2.1 = some (.putfield i, 3)) (hi : am_find i M.2.2.2.2.1.2.1 = some (ci, k)) (hx : kK a = some x) (ha : a < 1826) (h0 : a ≠ 0) (hs : x.1 = .inl (ci, ds)) (hk : ds[k]? = some (.inl ty)) (hv : ∀ g' : Nat → Nat, g' k = t → zval ty (H.1 a) g' k = .ref t) (hty : at_ty[ci]? = some tys) (hok : am_okv (tys.getD k .int) (.ref t) = true) (hI : Inv H) (ht : okr (kref x k) t) (kk : ∀ H1, Inv H1 → wr2 a k H H1 → H1.2 a k = t → hG (zs zK) d M (pc + 3) l st H1 Q) : hG (zs zK) d M pc l (.inr (.inr t) :: .inr (.inr a) :: st) H Q := by
  have e : (zv2 H a (up2 (H.2 a) k t)).2 a k = t := by rw [zv2_if, if_pos rfl, up2_if, if_pos rfl]
  have hs9 : zs zK a = some (.inl (ci, ds)) := by rw [zs_K hx ha, hs]
  refine h_wr (fun S hS => ?_) (kk _ (Inv_r hI hx (wr2_zv H a k t) e ht) (wr2_zv H a k t) e)
  obtain ⟨⟨z, fs, h1, h2, h3⟩, h5⟩ := hS a _ hs9
  have hz : zok (.inl (ci, ds)) (some (z, some (.inr (ci, fs.set k (.ref t))))) ((zv2 H a (up2 (H.2 a) k t)).1 a) ((zv2 H a (up2 (H.2 a) k t)).2 a) := by
    rw [zv2_if, if_pos rfl]
    exact zok_obr h2 h3 h5 hk hv
  obtain ⟨q1, q2⟩ := zR_set hS h0 hs9 hz (zv2_o H _ _)
  exact ⟨_, q1, q2, fun lc Q' g => G_put hf hi h1 hty hok g⟩
end KY
def S9 (t : Nat) (H H9 : hp) : Prop := (∀ c j, ¬ (c = t ∧ j = 1) → H9.1 c j = H.1 c j) ∧ H9.1 t 1 = 0 ∧ (∀ c j, ¬ (c = 361 ∧ j = 8) → H9.2 c j = H.2 c j) ∧ H9.2 361 8 = t
def Q9e (e : Nat) (a : Int) (H H9 : hp) : Prop := (∀ c j, ¬ (c = e + 1 ∧ j = 1) → ¬ (c = 361 ∧ (j = 6 ∨ j = 9)) → H9.1 c j = H.1 c j) ∧ H9.1 (e + 1) 1 = 0 ∧ H9.1 361 6 = a ∧ H9.1 361 9 = 0 ∧ (∀ c j, ¬ (c = 361 ∧ (j = 7 ∨ j = 8)) → H9.2 c j = H.2 c j) ∧ H9.2 361 7 = e ∧ H9.2 361 8 = e + 1

/-! Reader.startTerm -/
set_option maxRecDepth 100000 in
theorem q_Reader_startTerm {d : Nat} (hd : 1 ≤ d) {H : hp} (hI : Inv H) {t n : Nat} (ht : isT t n) : hG (zs zK) d mt_81 0 (zargs 0 [.inr (.inr 361), .inr (.inr t)]) [] H (fun r9 H9 => r9 = none ∧ Inv H9 ∧ fq [(361, 8)] [] false H H9 ∧ (S9 t H H9)) := by
  have htb := ht.2.2.2.2
  obtain ⟨Q9, hQ9⟩ : ∃ Q9 : Option zv → hp → Prop, Q9 = (fun r9 H9 => r9 = none ∧ Inv H9 ∧ fq [(361, 8)] [] false H H9 ∧ (S9 t H H9)) := ⟨_, rfl⟩
  rw [← hQ9]
  refine k_run 0 (pc' := 0) (l' := [(0, .inr (.inr 361)), (1, .inr (.inr t))]) (st' := []) rfl ?_
  refine k_run 2 (pc' := 2) (l' := [(0, .inr (.inr 361)), (1, .inr (.inr t))]) (st' := [.inr (.inr t), .inr (.inr 361)]) rfl ?_
  refine k_putrx (t := t) (a := 361) (x := kx_361) rfl rfl rfl (by decide) (by decide) rfl rfl (fun g9 e9 => congrArg Value.ref e9) rfl rfl hI (show ∃ n, isT t n from ⟨_, ht⟩) (fun H1 hI2 hw3 hv4 => ?_)
  have hf5 : fq [(361, 8)] [] false H H1 := fq_r (fq_rf _ _ _ _) hw3 (fpo (by decide) rfl)
  refine k_run 0 (pc' := 5) (l' := [(0, .inr (.inr 361)), (1, .inr (.inr t))]) (st' := []) rfl ?_
  refine k_run 1 (pc' := 6) (l' := [(0, .inr (.inr 361)), (1, .inr (.inr t))]) (st' := [.inr (.inr 361)]) rfl ?_
  refine k_getr (a := 361) (x := kx_361) rfl rfl rfl (by decide) rfl rfl rfl hI2 (fun h6 => ?_)
  obtain ⟨t7, et9⟩ : ∃ t9, t9 = H1.2 361 8 := ⟨_, rfl⟩
  rw [← et9] at h6 ⊢
  obtain ⟨n10, k8⟩ := (show ∃ n, isT t7 n from h6)
  have k8b := k8.2.2.2.2
  refine k_run 0 (pc' := 9) (l' := [(0, .inr (.inr 361)), (1, .inr (.inr t))]) (st' := [.inr (.inr t7)]) rfl ?_
  refine k_run 1 (pc' := 10) (l' := [(0, .inr (.inr 361)), (1, .inr (.inr t))]) (st' := [.inl 0, .inr (.inr t7)]) rfl ?_
  refine k_puti (z := 0) (a := t7) (x := (kTo t7 n10)) rfl rfl k8.1 (iT0 k8) k8.2.2.1 rfl rfl rfl rfl hI2 (by decide) (show 0 ≤ (0 : Int) ∧ (0 : Int) ≤ n10 by omega) (fun H11 hI12 hw13 hv14 => ?_)
  have hf15 : fq [(361, 8)] [] false H H11 := fq_w hf5 hw13 (fpT k8)
  refine k_run 0 (pc' := 13) (l' := [(0, .inr (.inr 361)), (1, .inr (.inr t))]) (st' := []) rfl ?_
  refine h_ret rfl rfl ?_
  rw [hQ9]
  have ett : t7 = t := et9.trans hv4
  subst ett
  exact ⟨rfl, hI12, hf15, (by first | (exfalso; omega) | exact ⟨fun c j h => (hw13.2 c j h).trans (congrFun (congrFun hw3.1 c) j), hv14, fun c j h => (congrFun (congrFun hw13.1 c) j).trans (hw3.2 c j h), (congrFun (congrFun hw13.1 361) 8).trans hv4⟩)⟩

/-! Reader.startEquation -/
set_option maxRecDepth 100000 in
theorem q_Reader_startEquation {d : Nat} (hd : 2 ≤ d) {H : hp} (hI : Inv H) {e : Nat} {a : Int} (he : isE e) (ha : -2147483648 ≤ a ∧ a ≤ 2147483647) (he9 : ∃ k : Nat, k < 56 ∧ e = 25 + 6 * k) : hG (zs zK) d mt_80 0 (zargs 0 [.inr (.inr 361), .inr (.inr e), .inl a]) [] H (fun r9 H9 => r9 = none ∧ Inv H9 ∧ fq [(361, 6), (361, 7), (361, 8), (361, 9)] [] false H H9 ∧ (Q9e e a H H9)) := by
  obtain ⟨Q9, hQ9⟩ : ∃ Q9 : Option zv → hp → Prop, Q9 = (fun r9 H9 => r9 = none ∧ Inv H9 ∧ fq [(361, 6), (361, 7), (361, 8), (361, 9)] [] false H H9 ∧ (Q9e e a H H9)) := ⟨_, rfl⟩
  rw [← hQ9]
  refine k_run 0 (pc' := 0) (l' := [(0, .inr (.inr 361)), (1, .inr (.inr e)), (2, .inl a)]) (st' := []) rfl ?_
  refine k_run 2 (pc' := 2) (l' := [(0, .inr (.inr 361)), (1, .inr (.inr e)), (2, .inl a)]) (st' := [.inr (.inr e), .inr (.inr 361)]) rfl ?_
  refine k_putrx (t := e) (a := 361) (x := kx_361) rfl rfl rfl (by decide) (by decide) rfl rfl (fun g9 e9 => congrArg Value.ref e9) rfl rfl hI (show isE e from he) (fun H1 hI2 hw3 hv4 => ?_)
  have hf5 : fq [(361, 6), (361, 7), (361, 8), (361, 9)] [] false H H1 := fq_r (fq_rf _ _ _ _) hw3 (fpo (by decide) rfl)
  refine k_run 0 (pc' := 5) (l' := [(0, .inr (.inr 361)), (1, .inr (.inr e)), (2, .inl a)]) (st' := []) rfl ?_
  refine k_run 2 (pc' := 7) (l' := [(0, .inr (.inr 361)), (1, .inr (.inr e)), (2, .inl a)]) (st' := [.inl a, .inr (.inr 361)]) rfl ?_
  refine k_puti (z := a) (a := 361) (x := kx_361) rfl rfl rfl (by decide) (by decide) rfl rfl rfl rfl hI2 (by omega) (show -2147483648 ≤ a ∧ a ≤ 2147483647 by omega) (fun H6 hI7 hw8 hv9 => ?_)
  have hf10 : fq [(361, 6), (361, 7), (361, 8), (361, 9)] [] false H H6 := fq_w hf5 hw8 (fpo (by decide) rfl)
  refine k_run 0 (pc' := 10) (l' := [(0, .inr (.inr 361)), (1, .inr (.inr e)), (2, .inl a)]) (st' := []) rfl ?_
  refine k_run 2 (pc' := 12) (l' := [(0, .inr (.inr 361)), (1, .inr (.inr e)), (2, .inl a)]) (st' := [.inl 0, .inr (.inr 361)]) rfl ?_
  refine k_puti (z := 0) (a := 361) (x := kx_361) rfl rfl rfl (by decide) (by decide) rfl rfl rfl rfl hI7 (by decide) (show 0 ≤ (0 : Int) ∧ (0 : Int) ≤ 40 by omega) (fun H11 hI12 hw13 hv14 => ?_)
  have hf15 : fq [(361, 6), (361, 7), (361, 8), (361, 9)] [] false H H11 := fq_w hf10 hw13 (fpo (by decide) rfl)
  refine k_run 0 (pc' := 15) (l' := [(0, .inr (.inr 361)), (1, .inr (.inr e)), (2, .inl a)]) (st' := []) rfl ?_
  refine k_run 2 (pc' := 17) (l' := [(0, .inr (.inr 361)), (1, .inr (.inr e)), (2, .inl a)]) (st' := [.inr (.inr e), .inr (.inr 361)]) rfl ?_
  refine k_get (a := e) (x := (kEo e)) (v := .inr (.inr (e + 1))) rfl rfl he.1 (iE0 he) rfl rfl rfl ?_
  refine k_run 0 (pc' := 20) (l' := [(0, .inr (.inr 361)), (1, .inr (.inr e)), (2, .inl a)]) (st' := [.inr (.inr (e + 1)), .inr (.inr 361)]) rfl ?_
  refine h_cv (i := 105) (j := 81) (b := 361) (M' := mt_81) (xs := [.inr (.inr (e + 1))]) (rest := []) rfl rfl rfl rfl (zs_K (x := kx_361) rfl (by decide)) rfl (Nat.le_of_ble_eq_true rfl) (Nat.le_of_ble_eq_true rfl) (by omega) (q_Reader_startTerm (by omega) hI12 (iEl he)) ?_
  rintro _ H17 ⟨rfl, hI18, hq19, hx21⟩
  have hf22 : fq [(361, 6), (361, 7), (361, 8), (361, 9)] [] false H H17 := fq_t hf15 hq19 rfl rfl rfl
  refine k_run 0 (pc' := 23) (l' := [(0, .inr (.inr 361)), (1, .inr (.inr e)), (2, .inl a)]) (st' := []) rfl ?_
  refine h_ret rfl rfl ?_
  rw [hQ9]
  obtain ⟨k9, hk9, he⟩ := he9
  exact ⟨rfl, hI18, hf22, (by first | (exfalso; omega) | exact ⟨fun c j h1 h2 => ((hx21.1 c j h1).trans ((hw13.2 c j (fun q => h2 ⟨q.1, Or.inr q.2⟩)).trans ((hw8.2 c j (fun q => h2 ⟨q.1, Or.inl q.2⟩)).trans (congrFun (congrFun hw3.1 c) j)))), hx21.2.1, (hx21.1 361 6 (fun q => by have := q.1; omega)).trans ((hw13.2 361 6 (fun q => absurd q.2 (by decide))).trans hv9), (hx21.1 361 9 (fun q => by have := q.1; omega)).trans hv14, fun c j h => (hx21.2.2.1 c j (fun q => h ⟨q.1, Or.inr q.2⟩)).trans ((congrFun (congrFun hw13.1 c) j).trans ((congrFun (congrFun hw8.1 c) j).trans (hw3.2 c j (fun q => h ⟨q.1, Or.inl q.2⟩)))), (hx21.2.2.1 361 7 (fun q => absurd q.2 (by decide))).trans ((congrFun (congrFun hw13.1 361) 7).trans ((congrFun (congrFun hw8.1 361) 7).trans hv4)), hx21.2.2.2⟩)⟩

theorem KC_cg {Y : yx} {q : Nat} {H H1 : hp} (h : KC Y q H) (g : ∀ c j, c ≤ 6 → H1.1 c j = H.1 c j) : KC Y q H1 := by
  obtain ⟨⟨a1, a2⟩, b, c⟩ := h
  refine ⟨⟨by rw [g _ _ (by decide)]; exact a1, a2⟩, fun i hi => ?_, c⟩
  rw [g _ _ (by decide), g _ _ (by decide), g _ _ (by decide)]
  exact b i hi
theorem TC_cg {H H1 : hp} {X : rx} (h : TC H X) (g : ∀ c j, 7 ≤ c → c ≤ 22 → H1.1 c j = H.1 c j) (g2 : ∀ l : Nat, l < 16 → H1.1 (265 + 6 * l) 5 = H.1 (265 + 6 * l) 5) : TC H1 X := by
  obtain ⟨⟨a1, a2, a3, a4, a5⟩, b1, b2, b3, b4⟩ := h
  refine ⟨⟨by rw [g _ _ (by decide) (by decide)]; exact a1, by rw [g _ _ (by decide) (by decide)]; exact a2, by rw [g _ _ (by decide) (by decide)]; exact a3, by rw [g _ _ (by decide) (by decide)]; exact a4, by rw [g _ _ (by decide) (by decide)]; exact a5⟩, fun k hk => by rw [g _ _ (by decide) (by decide)]; exact b1 k hk, fun k hk => ?_, fun k hk => ?_, fun l h16 hl => ?_⟩
  · obtain ⟨c1, c2, c3, c4⟩ := b2 k hk
    exact ⟨by rw [g _ _ (by decide) (by decide)]; exact c1, by rw [g _ _ (by decide) (by decide)]; exact c2, by rw [g _ _ (by decide) (by decide)]; exact c3, fun a ha => by rw [g _ _ (by decide) (by decide)]; exact c4 a ha⟩
  · obtain ⟨c1, c2, c3, c4⟩ := b3 k hk
    exact ⟨by rw [g _ _ (by decide) (by decide)]; exact c1, by rw [g _ _ (by decide) (by decide)]; exact c2, by rw [g _ _ (by decide) (by decide)]; exact c3, fun a ha => by rw [g _ _ (by decide) (by decide)]; exact c4 a ha⟩
  · rw [g2 l h16]
    exact b4 l h16 hl
theorem ER_cg {H H1 : hp} (h : ER H) (g : ∀ c j, c ≠ 361 → H1.2 c j = H.2 c j) : ER H1 := ⟨fun r hr => (g 23 r (by decide)).trans (h.1 r hr), fun l hl => (g 24 l (by decide)).trans (h.2 l hl)⟩
/-- an equation is begun: its left side is to be read -/
def xst (X : rx) (a : Int) : rx := xu (xu (xu X 0 1 0) 0 2 0) 0 8 a
theorem xst_r (X : rx) (a : Int) {c : Nat} (h : c ≠ 0) : xst X a c = X c := by
  unfold xst
  rw [xu_ne _ _ _ h, xu_ne _ _ _ h, xu_ne _ _ _ h]
theorem xst_0 (X : rx) (a : Int) {j : Nat} (h1 : j ≠ 1) (h2 : j ≠ 2) (h8 : j ≠ 8) : xst X a 0 j = X 0 j := by
  unfold xst
  rw [xu_0 _ _ (fun q => h8 q.2), xu_0 _ _ (fun q => h2 q.2), xu_0 _ _ (fun q => h1 q.2)]
theorem xst_s (X : rx) (a : Int) : xst X a 0 1 = 0 ∧ xst X a 0 2 = 0 ∧ xst X a 0 8 = a := by
  unfold xst
  refine ⟨?_, ?_, xu_1 _ _ _ _⟩
  · rw [xu_0 _ _ (fun q => by cases q.2), xu_0 _ _ (fun q => by cases q.2), xu_1]
  · rw [xu_0 _ _ (fun q => by cases q.2), xu_1]
theorem RT_start {Y : yx} {q : Nat} {H H1 : hp} {X : rx} {e : Nat} {a : Int} (h : RB Y q H X) (he : ∃ k : Nat, k < 56 ∧ e = 25 + 6 * k) (g : Q9e e a H H1) : RT Y q H1 (xst X a) := by
  obtain ⟨k, hk, ek⟩ := he
  obtain ⟨g1, g2, g3, g4, g5, g6, g7⟩ := g
  obtain ⟨x1, x2, x3⟩ := xst_s X a
  have hg : ∀ c j, c ≠ 361 → c ≠ e + 1 → H1.1 c j = H.1 c j := fun c j a b => g1 c j (fun q => b q.1) (fun q => a q.1)
  refine ⟨⟨KC_cg h.1 (fun c j hc => hg c j (by omega) (by omega)), TC_sT (TC_cg h.2.1 (fun c j h1 h2 => hg c j (by omega) (by omega)) (fun l hl => hg _ 5 (by omega) (by omega))) ⟨fun c c1 c2 => xst_r X a (by omega), xst_r X a (by decide), fun j j1 j2 => xst_0 X a (by omega) (by omega) (by omega)⟩, ?_, ER_cg h.2.2.2 (fun c j hc => g5 c j (fun q => hc q.1))⟩, ⟨?_, ⟨k, hk, g6.trans ek⟩, fun _ => ⟨?_, fun v hv => ?_⟩⟩, ?_, ?_, fun j hj => ?_⟩
  · rw [xst_0 X a (by decide) (by decide) (by decide), g1 361 3 (fun q => by have := q.1; omega) (fun q => by have := q.2; omega)]
    exact h.2.2.1
  · rw [g3, x3]
  · rw [g4, x1]
    omega
  · rw [x1] at hv
    exact absurd hv (by omega)
  · rw [g7, ek]
    exact Or.inr ⟨k, hk, Or.inl rfl⟩
  · rw [g7, g2, x2]
    omega
  · rw [x2] at hj
    exact absurd hj (by omega)
/-- the other side -/
theorem RT_side {Y : yx} {q : Nat} {H H1 : hp} {X : rx} {t : Nat} (h : RT Y q H X) (ht : ∃ k : Nat, k < 56 ∧ t = 25 + 6 * k + 3) (g : S9 t H H1) : RT Y q H1 (xu X 0 2 0) := by
  obtain ⟨k, hk, ek⟩ := ht
  obtain ⟨g1, g2, g3, g4⟩ := g
  obtain ⟨hB, ⟨v1, ⟨kE, hkE, hEE⟩, v3⟩, -, -, -⟩ := h
  have hg : ∀ c j, c ≠ t → H1.1 c j = H.1 c j := fun c j a => g1 c j (fun q => a q.1)
  have e7 : H1.2 361 7 = H.2 361 7 := g3 361 7 (fun q => absurd q.2 (by decide))
  have er : ∀ c, c ≠ 0 → xu X 0 2 0 c = X c := fun c a => xu_ne _ _ _ a
  have e0 : ∀ j, j ≠ 2 → xu X 0 2 0 0 j = X 0 j := fun j a => xu_0 _ _ (fun q => a q.2)
  have e2 : xu X 0 2 0 0 2 = 0 := xu_1 _ _ _ _
  refine ⟨⟨KC_cg hB.1 (fun c j hc => hg c j (by omega)), TC_sT (TC_cg hB.2.1 (fun c j h1 h2 => hg c j (by omega)) (fun l hl => hg _ 5 (by omega))) ⟨fun c c1 c2 => er c (by omega), er 12 (by decide), fun j j1 j2 => e0 j (by omega)⟩, ?_, ER_cg hB.2.2.2 (fun c j hc => g3 c j (fun q => hc q.1))⟩, ⟨?_, ⟨kE, hkE, e7.trans hEE⟩, fun hm => ?_⟩, ?_, ?_, fun j hj => ?_⟩
  · rw [e0 0 (by decide), hg 361 3 (by omega)]
    exact hB.2.2.1
  · rw [e0 8 (by decide), hg 361 6 (by omega)]
    exact v1
  · rw [e0 8 (by decide)] at hm
    rw [e0 1 (by decide), er 10 (by decide), er 11 (by decide), e7, hg 361 9 (by omega)]
    obtain ⟨w1, w2⟩ := v3 hm
    refine ⟨w1, fun v hv => ?_⟩
    rw [hg 362 v (by omega), hg _ v (by omega)]
    exact w2 v hv
  · rw [g4, ek]
    exact Or.inr ⟨k, hk, Or.inr rfl⟩
  · rw [g4, g2, e2]
    omega
  · rw [e2] at hj
    exact absurd hj (by omega)
theorem NE_Q {e : Nat} {a : Int} {H H1 : hp} (g : Q9e e a H H1) : NE e H H1 := fun c j h1 h2 => g.1 c j (fun q => h2 (by have := q.1; omega)) (fun q => by have h3 := sc_lt h1; have := q.1; omega)
theorem NE_S {t e : Nat} {H H1 : hp} (g : S9 t H H1) (h : e ≤ t ∧ t < e + 5) : NE e H H1 := fun c j h1 h2 => g.1 c j (fun q => h2 (by have := q.1; omega))
theorem xsd_lt (X : rx) {s k : Nat} (h : k < 100) : xsd X s k = X k := if_pos h
theorem xsd_ne (X : rx) {s k : Nat} (h : k ≠ s) : xsd X s k = X k := by
  unfold xsd
  split
  · rfl
  · rfl
theorem xsd_eq (X : rx) {s : Nat} (h : 100 ≤ s) : xsd X s s 0 = X 0 2 ∧ ∀ j : Nat, j < 900 → xsd X s s (j + 1) = X 13 j := by
  unfold xsd
  rw [if_neg (by omega), if_pos rfl]
  refine ⟨rfl, fun j hj => ?_⟩
  show (if j + 1 = 0 then X 0 2 else if j + 1 < 1000 then X 13 (j + 1 - 1) else if j + 1 = 1000 then X 0 1 else X 11 (j + 1 - 1001)) = X 13 j
  rw [if_neg (by omega), if_pos (by omega), Nat.add_sub_cancel]
/-- a law's variables, kept with its right side -/
theorem xsd_vr (X : rx) {s : Nat} (h : 100 ≤ s) : xsd X s s 1000 = X 0 1 ∧ ∀ v : Nat, xsd X s s (1001 + v) = X 11 v := by
  unfold xsd
  rw [if_neg (by omega), if_pos rfl]
  refine ⟨?_, fun v => ?_⟩
  · show (if (1000 : Nat) = 0 then X 0 2 else if (1000 : Nat) < 1000 then X 13 (1000 - 1) else if (1000 : Nat) = 1000 then X 0 1 else X 11 (1000 - 1001)) = X 0 1
    rw [if_neg (by decide), if_neg (by decide), if_pos rfl]
  · show (if 1001 + v = 0 then X 0 2 else if 1001 + v < 1000 then X 13 (1001 + v - 1) else if 1001 + v = 1000 then X 0 1 else X 11 (1001 + v - 1001)) = X 11 v
    rw [if_neg (by omega), if_neg (by omega), if_neg (by omega), Nat.add_sub_cancel_left]
theorem RB_sd {Y : yx} {q : Nat} {H : hp} {X : rx} (s : Nat) (h : RB Y q H X) : RB Y q H (xsd X s) := h
theorem RT_sd {Y : yx} {q : Nat} {H : hp} {X : rx} (s : Nat) (h : RT Y q H X) : RT Y q H (xsd X s) := h
theorem AB_sd {X : rx} (s : Nat) (h : AB X) : AB (xsd X s) := h
/-- the term t is the side kept in row s -/
def SD (H : hp) (t : Nat) (X : rx) (s : Nat) : Prop := H.1 t 1 = X s 0 ∧ ∀ j : Nat, (j : Int) < X s 0 → H.1 (t + 1) j = kcd X (X s (j + 1))
theorem SD_mk {H : hp} {X : rx} {t s : Nat} (h : RZ H X) (ht : H.2 361 8 = t) (hs : 100 ≤ s) : SD H t (xsd X s) s := by
  obtain ⟨e0, e1⟩ := xsd_eq X hs
  obtain ⟨-, h2, h3⟩ := h
  rw [ht] at h2 h3
  refine ⟨h2.1.trans e0.symm, fun j hj => ?_⟩
  rw [e0] at hj
  rw [e1 j (by have q9 := h2.2.2; omega), kcd_cg (X := X) (xsd_lt X (by decide)) (xsd_lt X (by decide))]
  exact h3 j hj
theorem SD_cg {H H1 : hp} {X X1 : rx} {t s : Nat} (h : SD H t X s) (g : ∀ c j, c = t ∨ c = t + 1 → H1.1 c j = H.1 c j) (hs : X1 s = X s) (h4 : X1 4 = X 4) (h8 : X1 8 = X 8) : SD H1 t X1 s := by
  refine ⟨(g t 1 (Or.inl rfl)).trans (h.1.trans (by rw [hs])), fun j hj => ?_⟩
  rw [hs] at hj
  rw [g _ j (Or.inr rfl), hs, kcd_cg h4 h8]
  exact h.2 j hj
/-- a law's variables and their types -/
def LVS (H : hp) (l : Nat) (X : rx) : Prop := (H.1 (265 + 6 * l) 3 = X (4 * l + 103) 1000 ∧ X (4 * l + 103) 1000 ≤ 40) ∧ ∀ v : Nat, (v : Int) < X (4 * l + 103) 1000 → H.1 (265 + 6 * l + 5) v = X (4 * l + 103) (1001 + v)
theorem LVS_cg {H H1 : hp} {X X1 : rx} {l : Nat} (h : LVS H l X) (g3 : H1.1 (265 + 6 * l) 3 = H.1 (265 + 6 * l) 3) (g5 : ∀ v : Nat, v < 40 → H1.1 (265 + 6 * l + 5) v = H.1 (265 + 6 * l + 5) v) (hs : X1 (4 * l + 103) = X (4 * l + 103)) : LVS H1 l X1 := by
  obtain ⟨⟨h1, h2⟩, h3⟩ := h
  unfold LVS
  rw [hs, g3]
  exact ⟨⟨h1, h2⟩, fun v hv => (g5 v (by omega)).trans (h3 v hv)⟩
/-- a number of an equation is told that reading doesn't see -/
theorem RT_eq {Y : yx} {q : Nat} {H H1 : hp} {X : rx} {e j : Nat} (h : RT Y q H X) (he : ∃ k : Nat, k < 56 ∧ e = 25 + 6 * k) (hj : j ≠ 5) (w : wr e j H H1) : RT Y q H1 X := by
  obtain ⟨k, hk, ek⟩ := he
  obtain ⟨hB, ⟨v1, ⟨kE, hkE, hEE⟩, v3⟩, s1, s2, s3⟩ := h
  have hg : ∀ c i, c ≠ e → H1.1 c i = H.1 c i := fun c i a => w.2 c i (fun q => a q.1)
  have h2 : H1.2 = H.2 := w.1
  have nt : H.2 361 8 ≠ e ∧ H.2 361 8 + 1 ≠ e := by
    rcases s1 with q | ⟨k2, hk2, q | q⟩ <;> omega
  refine ⟨⟨KC_cg hB.1 (fun c i hc => hg c i (by omega)), TC_cg hB.2.1 (fun c i h1 h2 => hg c i (by omega)) (fun l hl => w.2 _ 5 (fun q => hj q.2.symm)), by rw [hg 361 3 (by omega)]; exact hB.2.2.1, ER_cg hB.2.2.2 (fun c i _ => by rw [h2])⟩, ⟨by rw [hg 361 6 (by omega)]; exact v1, by rw [h2]; exact ⟨kE, hkE, hEE⟩, fun hm => ?_⟩, by rw [h2]; exact s1, by rw [h2, hg _ _ nt.1]; exact s2, fun i hi => by rw [h2, hg _ _ nt.2]; exact s3 i hi⟩
  obtain ⟨w1, w2⟩ := v3 hm
  rw [h2, hg 361 9 (by omega)]
  refine ⟨w1, fun v hv => ?_⟩
  rw [hg 362 v (by omega), hg _ v (by omega)]
  exact w2 v hv
theorem AB_cg {Y : yx} {q : Nat} {H H1 : hp} {X X1 : rx} (h : AB X) (hB : RB Y q H X) (hB1 : RB Y q H1 X1) (g : ∀ c j, c = 13 ∨ c = 16 ∨ c = 18 ∨ c = 21 → H1.1 c j = H.1 c j) : AB X1 := by
  obtain ⟨h1, h2⟩ := h
  have a1 := hB.2.1.1
  have a2 := hB1.2.1.1
  have c1 := g 13 4 (by simp)
  have c2 := g 18 4 (by simp)
  refine ⟨fun k hk => ?_, fun k hk => ?_⟩
  · have e1 := (hB1.2.1.2.2.1 k hk).2.2.1
    have e2 := (hB.2.1.2.2.1 k (by omega)).2.2.1
    have e3 := g 16 k (by simp)
    have e4 := h1 k (by omega)
    omega
  · have e1 := (hB1.2.1.2.2.2.1 k hk).2.2.1
    have e2 := (hB.2.1.2.2.2.1 k (by omega)).2.2.1
    have e3 := g 21 k (by simp)
    have e4 := h2 k (by omega)
    omega
