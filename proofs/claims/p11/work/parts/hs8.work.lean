/-! the class works a term out, told exactly -/
theorem fcF_is {g : Nat → Int} {n : Nat} : ∀ {j : Nat}, j ≤ n → fcF g n j < n → 100 ≤ g (fcF g n j) ∧ g (fcF g n j) < 1000
  | 0, _, h => absurd (show n < n from h) (Nat.lt_irrefl _)
  | j + 1, hj, h => by
    by_cases q : 100 ≤ g (n - (j + 1)) ∧ g (n - (j + 1)) < 1000
    · rw [show fcF g n (j + 1) = n - (j + 1) from if_pos q]
      exact q
    · rw [show fcF g n (j + 1) = fcF g n j from if_neg q] at h ⊢
      exact fcF_is (by omega) h
theorem fc_is {l : List Int} (h : fc l < l.length) : 100 ≤ ga l (fc l) ∧ ga l (fc l) < 1000 := fcF_is (Nat.le_refl _) h
theorem mT_mid {ar : Int → Int} {X : rx} {g : Nat → Int} {p r : Nat} : ∀ y : Nat, mT ar (fun x => X (4 * r + 101) (x + 1)) (fun x => bF ar (LL X r) g (p + 1) (kL X r) (X (4 * r + 101) (x + 1) - 1000).toNat) g y = midL ar X g p r y
  | 0 => rfl
  | y + 1 => by
    show mT _ _ _ _ y ++ _ = midL ar X g p r y ++ _
    rw [mT_mid y]
/-- what a call becomes, as a template -/
theorem tpl_of {H : hp} {X : rx} {ar : Int → Int} {cn fn : Int} {g : Nat → Int} {N R p k r : Nat} {how : Int} (hC : CR H X R) (hud : H.1 368 1 = 1 ∧ H.1 369 0 = 0) (hR9 : ∀ r : Nat, r < R → RW9r ar cn fn X r) (har : ∀ s, 1000 ≤ s → ar s = 0) (hk : tm ar (m_sg cn fn 0) g k p 1) (hN : p + k ≤ N ∧ N ≤ 400) (hh : HW ar X g p R how r) (h0 : how = 0 → BV ar (LL X r) g (p + 1) (kL X r) (H.1 367) ∧ H.2 366 4 = 25 + 6 * r + 3 ∧ r < R) (h1 : how = 1 → H.2 366 4 = 368) : ∃ (T : Nat → Int) (bv : Nat → Nat) (kr : Nat), CM H (H.2 366 4) X kr T ∧ (∀ x : Nat, x < kr → m_sg cn fn 40 (T x)) ∧ (∀ x : Nat, x < kr → 1000 ≤ T x → H.1 367 (T x - 1000).toNat = ((bv x : Nat) : Int) ∧ ∃ kb : Nat, tm ar (m_sg cn fn 0) g kb (bv x) 1 ∧ bv x + kb ≤ N) ∧ lT ar T bv g p kr N = mkL ar X g N p how r ∧ (H.2 366 4 < 361 ∨ H.2 366 4 = 368) := by
  rcases hh with ⟨e0, e1, e2, e3⟩ | e0
  · obtain ⟨b1, b2, b3⟩ := h0 e0
    obtain ⟨⟨-, s1, s2⟩, -⟩ := hC.2.2 r b3
    obtain ⟨f, kl, kr, q, ⟨f1, f2⟩, ⟨f3, f4⟩, ⟨f5, f6⟩, f7, f8, f9, f10⟩ := id (hR9 r b3)
    have ek : kL X r = kl := by
      unfold kL
      rw [f3]
      omega
    refine ⟨fun x => X (4 * r + 101) (x + 1), fun x => bF ar (LL X r) g (p + 1) (kL X r) (X (4 * r + 101) (x + 1) - 1000).toNat, kr, ?_, ?_, ?_, ?_, ?_⟩
    · rw [b2]
      exact ⟨s1.trans f5, fun x hx => s2 x (by omega)⟩
    · intro x hx
      have := tm_ok f9 x hx
      rw [Nat.zero_add] at this
      exact this
    · intro x hx hv
      have hv9 : ∃ j, j < kL X r ∧ LL X r j = 1000 + ((X (4 * r + 101) (x + 1) - 1000).toNat : Int) := by
        obtain ⟨j, j1, j2⟩ := f10 x hx hv
        have hv : 1000 ≤ X (4 * r + 101) (x + 1) := hv
        exact ⟨j, by omega, by rw [j2]; omega⟩
      obtain ⟨kb, k1, k2, -⟩ := bF_tm (hR9 r b3) e2 hk (by omega) har e3 hv9
      exact ⟨b1 _ hv9, kb, k1, by show bF ar (LL X r) g (p + 1) (kL X r) (X (4 * r + 101) (x + 1) - 1000).toNat + kb ≤ N; omega⟩
    · unfold lT rT mkL
      rw [if_neg (by omega), mT_mid, f5, Int.toNat_natCast]
    · left
      have := hC.1.2
      omega
  · refine ⟨fun _ => 0, fun _ => 0, 1, ?_, ?_, ?_, ?_, ?_⟩
    · rw [h1 e0]
      refine ⟨hud.1, fun x hx => ?_⟩
      rw [show x = 0 by omega]
      exact hud.2
    · exact fun _ _ => Or.inl rfl
    · intro x _ hv
      exact absurd (show (1000 : Int) ≤ 0 from hv) (by decide)
    · unfold lT rT mkL
      rw [if_pos e0]
      rfl
    · exact Or.inr (h1 e0)
/-- what working out writes -/
def WF (t : Nat) (H H1 : hp) : Prop := (∀ c j, ¬ (c = 366 ∧ j = 4) → H1.2 c j = H.2 c j) ∧ ∀ c j, c ∉ [366, 367, 370, 371] → c ≠ t → c ≠ t + 1 → H1.1 c j = H.1 c j
theorem WF_rf (t : Nat) (H : hp) : WF t H H := ⟨fun _ _ _ => rfl, fun _ _ _ _ _ => rfl⟩
theorem WF_tr {t : Nat} {H H1 H2 : hp} (h : WF t H H1) (g : WF t H1 H2) : WF t H H2 := ⟨fun c j q => (g.1 c j q).trans (h.1 c j q), fun c j q q2 q3 => (g.2 c j q q2 q3).trans (h.2 c j q q2 q3)⟩
theorem WF_PG {t : Nat} {H H1 : hp} (h : PGw H H1) : WF t H H1 := ⟨h.1, fun c j q _ _ => h.2 c j (by simp at q ⊢; omega)⟩
theorem WF_w {t k : Nat} {H H1 : hp} (w : wr 366 k H H1) : WF t H H1 := ⟨fun c j _ => by rw [w.1], fun c j q _ _ => w.2 c j (fun e => q (by rw [e.1]; simp))⟩
theorem WF_n {t : Nat} {H H1 : hp} (h : AF 370 H H1) : WF t H H1 := ⟨fun c j _ => by rw [h.1], fun c j q _ _ => h.2 c j (by simp at q; omega) (by simp at q; omega)⟩
theorem WF_t {t : Nat} {H H1 : hp} (h : AF t H H1) : WF t H H1 := ⟨fun c j _ => by rw [h.1], fun c j _ q2 q3 => h.2 c j q2 q3⟩
theorem CR_WF {t : Nat} {H H1 : hp} {X : rx} {R : Nat} (h : CR H X R) (g : WF t H H1) (ht : 372 ≤ t) : CR H1 X R := by
  obtain ⟨⟨h1, h2⟩, ⟨h3, h4⟩, h5⟩ := h
  have e : ∀ c j, c < 366 → H1.1 c j = H.1 c j := fun c j hc => g.2 c j (by simp; omega) (by omega) (by omega)
  refine ⟨⟨(e 7 5 (by decide)).trans h1, h2⟩, ⟨fun r hr => (g.1 23 r (by omega)).trans (h3 r hr), fun r hr => (g.1 24 r (by omega)).trans (h4 r hr)⟩, fun r hr => ?_⟩
  obtain ⟨⟨⟨a1, a2⟩, b1, b2⟩, c1⟩ := h5 r hr
  exact ⟨⟨⟨(e _ _ (by omega)).trans a1, fun j hj => (e _ _ (by omega)).trans (a2 j hj)⟩, (e _ _ (by omega)).trans b1, fun j hj => (e _ _ (by omega)).trans (b2 j hj)⟩, by rw [e _ _ (by omega)]; exact c1⟩
/-- a term is being worked out -/
def WJ (ar : Int → Int) (X : rx) (cn fn : Int) (t : Nat) (b : Int) (l : List Int) (H H1 : hp) (l1 : List Int) : Prop := CM H1 t X l1.length (ga l1) ∧ (l1.length ≤ 240 ∧ tm ar (m_sg cn fn 0) (ga l1) l1.length 0 1) ∧ evF ar X (b - H1.1 366 6).toNat l1 (H1.1 366 6) = evF ar X b.toNat l 0 ∧ WF t H H1
theorem WJ_PG {ar : Int → Int} {X : rx} {cn fn : Int} {t : Nat} {b : Int} {l l1 : List Int} {H H1 H2 : hp} (h : WJ ar X cn fn t b l H H1 l1) (g : PGw H1 H2) (e : H2.1 366 6 = H1.1 366 6) (ht : 372 ≤ t) : WJ ar X cn fn t b l H H2 l1 := by
  obtain ⟨h1, h2, h3, h4⟩ := h
  refine ⟨⟨(g.2 t 1 (by simp; omega)).trans h1.1, fun x hx => (g.2 (t + 1) x (by simp; omega)).trans (h1.2 x hx)⟩, h2, ?_, WF_tr h4 (WF_PG g)⟩
  rw [e]
  exact h3
/-- a call was matched -/
def WC (ar : Int → Int) (X : rx) (cn fn : Int) (R : Nat) (H1 : hp) (l1 : List Int) (x3 x4 : Int) (w0 r k f : Nat) : Prop := (tm ar (m_sg cn fn 0) (ga l1) k x3.toNat 1 ∧ x3.toNat + k ≤ l1.length ∧ 0 ≤ x3) ∧ (mR ar X (ga l1) x3.toNat = (x4, w0, r) ∧ (x4 = 2 → H1.1 366 5 = (w0 : Int)) ∧ (x4 = 0 → BV ar (LL X r) (ga l1) (x3.toNat + 1) (kL X r) (H1.1 367) ∧ H1.2 366 4 = 25 + 6 * r + 3 ∧ r < R) ∧ (x4 = 1 → H1.2 366 4 = 368)) ∧ fc l1 < l1.length ∧ wtR ar X (ga l1) l1.length (fc l1) = wtR ar X (ga l1) (f + 1) x3.toNat ∧ l1.length - x3.toNat ≤ f + 1

/-! Rewriter.workOut -/
set_option maxRecDepth 100000 in
theorem qb_workOut_cut {X : rx} {ar : Int → Int} {cn fn : Int} {R : Nat} {l : List Int} {d : Nat} (hd : 4 ≤ d) {H : hp} (hI : Inv H) {t n : Nat} {b : Int} (ht : isT t n) (hb : -2147483648 ≤ b ∧ b ≤ 2147483647) (hp0 : 0 ≤ b ∧ b ≤ 2000) (htc : 372 ≤ t) (hn9 : 120 ≤ n) (hM9 : CM H t X l.length (ga l)) (hl9 : l.length ≤ 240 ∧ tm ar (m_sg cn fn 0) (ga l) l.length 0 1) (hK : ∀ s, m_sg cn fn 40 s → KF9 X s ∧ aC (kcd X s) = ar s) (hC9 : CR H X R) (hR9 : ∀ r : Nat, r < R → RW9r ar cn fn X r) (hX0 : X 0 6 = (R : Int)) (hfn : fn ≤ 16 ∧ cn ≤ 16) (har : ∀ s, 1000 ≤ s → ar s = 0) (har0 : ar 0 = 0) (hud : H.1 368 1 = 1 ∧ H.1 369 0 = 0) : ∀ w : Nat, (∀ (H1 : hp), Inv H1 → fq [(366, 4), (366, 5), (366, 6)] [367] false H H1 → ∀ (x3 : Int) , (-2147483648 ≤ x3 ∧ x3 ≤ 2147483647) → (∃ l1 : List Int, WJ ar X cn fn t b l H H1 l1 ∧ ((x3 = -1 ∧ fc l1 = l1.length) ∨ (x3 = ((fc l1 : Nat) : Int) ∧ fc l1 < l1.length))) → (((1000 * (3000 - H1.1 366 6) + 600).toNat) < w) → hG (zs zK) d mt_99 10 [(0, .inr (.inr 366)), (1, .inr (.inr t)), (2, .inl b), (3, .inl x3)] [] H1 (fun r9 H9 => ∃ z : Int, r9 = some (.inl z) ∧ ((-2147483648 ≤ z ∧ z ≤ 2147483647)) ∧ Inv H9 ∧ fq [(366, 4), (366, 5), (366, 6)] [367] false H H9 ∧ (∃ l2 : List Int, evF ar X b.toNat l 0 = (z, H9.1 366 6, l2) ∧ CM H9 t X l2.length (ga l2) ∧ (l2.length ≤ 240 ∧ tm ar (m_sg cn fn 0) (ga l2) l2.length 0 1) ∧ WF t H H9))) ∧ (∀ (H1 : hp), Inv H1 → fq [(366, 4), (366, 5), (366, 6)] [367] false H H1 → ∀ (x3 : Int) (x4 : Int) (x5 : Int) , (-2147483648 ≤ x3 ∧ x3 ≤ 2147483647) → (-2147483648 ≤ x4 ∧ x4 ≤ 2147483647) → (-2147483648 ≤ x5 ∧ x5 ≤ 2147483647) → (H1.1 366 6 < b) → (0 ≤ x5 ∧ x5 ≤ x3 ∧ x5 ≤ 300) → (∃ (l1 : List Int) (w0 r k f : Nat), WJ ar X cn fn t b l H H1 l1 ∧ WC ar X cn fn R H1 l1 x3 x4 w0 r k f) → (((1000 * (3000 - H1.1 366 6) + 500 - x5).toNat) < w) → hG (zs zK) d mt_99 33 [(0, .inr (.inr 366)), (1, .inr (.inr t)), (2, .inl b), (3, .inl x3), (4, .inl x4), (5, .inl x5)] [] H1 (fun r9 H9 => ∃ z : Int, r9 = some (.inl z) ∧ ((-2147483648 ≤ z ∧ z ≤ 2147483647)) ∧ Inv H9 ∧ fq [(366, 4), (366, 5), (366, 6)] [367] false H H9 ∧ (∃ l2 : List Int, evF ar X b.toNat l 0 = (z, H9.1 366 6, l2) ∧ CM H9 t X l2.length (ga l2) ∧ (l2.length ≤ 240 ∧ tm ar (m_sg cn fn 0) (ga l2) l2.length 0 1) ∧ WF t H H9))) := by
  intro w
  induction w with
  | zero => exact ⟨fun _ _ _ _ _ _ h => absurd h (Nat.not_lt_zero _), fun _ _ _ _ _ _ _ _ _ _ _ _ h => absurd h (Nat.not_lt_zero _)⟩
  | succ w ih =>
    refine ⟨?_, ?_⟩
    · intro H1 hI1 hf1 x3 hx3 hi0 hw
      have htb := ht.2.2.2.2
      obtain ⟨Q9, hQ9⟩ : ∃ Q9 : Option zv → hp → Prop, Q9 = (fun r9 H9 => ∃ z : Int, r9 = some (.inl z) ∧ ((-2147483648 ≤ z ∧ z ≤ 2147483647)) ∧ Inv H9 ∧ fq [(366, 4), (366, 5), (366, 6)] [367] false H H9 ∧ (∃ l2 : List Int, evF ar X b.toNat l 0 = (z, H9.1 366 6, l2) ∧ CM H9 t X l2.length (ga l2) ∧ (l2.length ≤ 240 ∧ tm ar (m_sg cn fn 0) (ga l2) l2.length 0 1) ∧ WF t H H9)) := ⟨_, rfl⟩
      rw [← hQ9]
      have hnR : nR X = R := by unfold nR; rw [hX0, Int.toNat_natCast]
      have hq9 : 0 ≤ H1.1 366 6 ∧ H1.1 366 6 ≤ 2000 := kn (x := kx_366) hI1 rfl 6
      obtain ⟨l1, hJ, hat⟩ := hi0
      obtain ⟨hM1, hl1, hev, hwf⟩ := id hJ
      have g14 : 0 ≤ (H1.1 366 6) ∧ (H1.1 366 6) ≤ 2000 := kn (x := kx_366) hI1 rfl 6
      refine k_run 1 (pc' := 11) (l' := [(0, .inr (.inr 366)), (1, .inr (.inr t)), (2, .inl b), (3, .inl x3)]) (st' := [.inl x3]) rfl ?_
      refine h_zlt (off := 101) (t := 112) rfl rfl (by omega) (fun c15 => ?_) (fun c15 => ?_)
      · refine k_run 0 (pc' := 112) (l' := [(0, .inr (.inr 366)), (1, .inr (.inr t)), (2, .inl b), (3, .inl x3)]) (st' := []) rfl ?_
        refine k_run 1 (pc' := 113) (l' := [(0, .inr (.inr 366)), (1, .inr (.inr t)), (2, .inl b), (3, .inl x3)]) (st' := [.inl x3]) rfl ?_
        refine h_zge (off := 7) (t := 120) rfl rfl (by omega) (fun c16 => ?_) (fun c16 => ?_)
        · exfalso
          omega
        · refine k_run 0 (pc' := 116) (l' := [(0, .inr (.inr 366)), (1, .inr (.inr t)), (2, .inl b), (3, .inl x3)]) (st' := []) rfl ?_
          refine k_run 2 (pc' := 121) (l' := [(0, .inr (.inr 366)), (1, .inr (.inr t)), (2, .inl b), (3, .inl x3)]) (st' := [.inl 0]) rfl ?_
          refine h_reti (x := 0) rfl rfl ?_
          rw [hQ9]
          exact ⟨_, rfl, (by omega), hI1, hf1, (by first | (exfalso; omega) | exact ⟨l1, by rw [← hev]; exact ev_0 (by omega), hM1, hl1, hwf⟩)⟩
      · refine k_run 0 (pc' := 14) (l' := [(0, .inr (.inr 366)), (1, .inr (.inr t)), (2, .inl b), (3, .inl x3)]) (st' := []) rfl ?_
        refine k_run 3 (pc' := 19) (l' := [(0, .inr (.inr 366)), (1, .inr (.inr t)), (2, .inl b), (3, .inl x3)]) (st' := [.inl b, .inl (H1.1 366 6)]) rfl ?_
        refine h_ige (off := 93) (t := 112) rfl rfl (by omega) (by omega) (fun c17 => ?_) (fun c17 => ?_)
        · refine k_run 0 (pc' := 112) (l' := [(0, .inr (.inr 366)), (1, .inr (.inr t)), (2, .inl b), (3, .inl x3)]) (st' := []) rfl ?_
          refine k_run 1 (pc' := 113) (l' := [(0, .inr (.inr 366)), (1, .inr (.inr t)), (2, .inl b), (3, .inl x3)]) (st' := [.inl x3]) rfl ?_
          refine h_zge (off := 7) (t := 120) rfl rfl (by omega) (fun c18 => ?_) (fun c18 => ?_)
          · refine k_run 0 (pc' := 120) (l' := [(0, .inr (.inr 366)), (1, .inr (.inr t)), (2, .inl b), (3, .inl x3)]) (st' := []) rfl ?_
            refine k_run 1 (pc' := 121) (l' := [(0, .inr (.inr 366)), (1, .inr (.inr t)), (2, .inl b), (3, .inl x3)]) (st' := [.inl 1]) rfl ?_
            refine h_reti (x := 1) rfl rfl ?_
            rw [hQ9]
            exact ⟨_, rfl, (by omega), hI1, hf1, (by first | (exfalso; omega) | exact ⟨l1, by rw [← hev]; exact ev_1 (by omega) (by omega), hM1, hl1, hwf⟩)⟩
          · exfalso
            omega
        · refine k_run 0 (pc' := 22) (l' := [(0, .inr (.inr 366)), (1, .inr (.inr t)), (2, .inl b), (3, .inl x3)]) (st' := []) rfl ?_
          have hatf := hat.resolve_left (fun q9 => by have q8 := q9.1; omega)
          have hC1 := CR_WF hC9 hwf htc
          obtain ⟨k, hk1, hk2⟩ := tm_sub9 hl1.2 (q := fc l1) (by omega)
          rw [Nat.zero_add] at hk2
          have hkp := tm_le hk1
          have hgc : 100 ≤ ga l1 (fc l1) ∧ ga l1 (fc l1) < 1000 := fc_is hatf.2
          have hM11 := hM1.1
          refine k_run 3 (pc' := 25) (l' := [(0, .inr (.inr 366)), (1, .inr (.inr t)), (2, .inl b), (3, .inl x3)]) (st' := [.inl x3, .inr (.inr t), .inr (.inr 366)]) rfl ?_
          refine h_cv (i := 96) (j := 94) (b := 366) (M' := mt_94) (xs := [.inl x3, .inr (.inr t)]) (rest := []) rfl rfl rfl rfl (zs_K (x := kx_366) rfl (by decide)) rfl (Nat.le_of_ble_eq_true rfl) (Nat.le_of_ble_eq_true rfl) (by omega) (qb_matchCall (by omega) hI1 ht (by omega) (X := X) (ar := ar) (cn := cn) (fn := fn) (g := ga l1) (N := l1.length) (R := R) (k := k) (by omega) (by omega) hM1 hK hC1 hR9 hX0 (by rw [show x3.toNat = fc l1 by omega]; exact hk1) (by omega) (by rw [show x3.toNat = fc l1 by omega]; exact hgc) har) ?_
          rintro _ H20 ⟨z25, rfl, g19, hI21, hq22, hx24⟩
          have hf26 : fq [(366, 4), (366, 5), (366, 6)] [367] false H H20 := fq_t hf1 hq22 rfl rfl rfl
          refine k_run 0 (pc' := 28) (l' := [(0, .inr (.inr 366)), (1, .inr (.inr t)), (2, .inl b), (3, .inl x3)]) (st' := [.inl z25]) rfl ?_
          refine k_run 3 (pc' := 33) (l' := [(0, .inr (.inr 366)), (1, .inr (.inr t)), (2, .inl b), (3, .inl x3), (4, .inl z25), (5, .inl 0)]) (st' := []) rfl ?_
          have g27 : 0 ≤ (H20.1 366 6) ∧ (H20.1 366 6) ≤ 2000 := kn (x := kx_366) hI21 rfl 6
          have e28 : (H20.1 366 6) = (H1.1 366 6) := (hq22.1 366 6 rfl (by decide) (by decide)).1
          rw [hQ9]
          exact ih.2 H20 hI21 hf26 x3 z25 (0 : Int) (by omega) (by omega) (by decide) (by omega) (by omega) (by obtain ⟨w9, r9, f1, f2, f3, f4, f5⟩ := hx24; exact ⟨l1, w9, r9, k, l1.length - 1, WJ_PG hJ f5 (hq22.1 366 6 rfl (by decide) (by decide)).1 htc, ⟨by rw [show x3.toNat = fc l1 by omega]; exact hk1, by omega, by omega⟩, ⟨f1, f2, f3, f4⟩, hatf.2, by rw [show x3.toNat = fc l1 by omega, show l1.length - 1 + 1 = l1.length by omega], by omega⟩) (by omega)
    · intro H1 hI1 hf1 x3 x4 x5 hx3 hx4 hx5 hi0 hi1 hi2 hw
      have htb := ht.2.2.2.2
      obtain ⟨Q9, hQ9⟩ : ∃ Q9 : Option zv → hp → Prop, Q9 = (fun r9 H9 => ∃ z : Int, r9 = some (.inl z) ∧ ((-2147483648 ≤ z ∧ z ≤ 2147483647)) ∧ Inv H9 ∧ fq [(366, 4), (366, 5), (366, 6)] [367] false H H9 ∧ (∃ l2 : List Int, evF ar X b.toNat l 0 = (z, H9.1 366 6, l2) ∧ CM H9 t X l2.length (ga l2) ∧ (l2.length ≤ 240 ∧ tm ar (m_sg cn fn 0) (ga l2) l2.length 0 1) ∧ WF t H H9)) := ⟨_, rfl⟩
      rw [← hQ9]
      have hnR : nR X = R := by unfold nR; rw [hX0, Int.toNat_natCast]
      have hq9 : 0 ≤ H1.1 366 6 ∧ H1.1 366 6 ≤ 2000 := kn (x := kx_366) hI1 rfl 6
      obtain ⟨l1, w0, r, k, f, hJ, hW⟩ := hi2
      obtain ⟨hM1, hl1, hev, hwf⟩ := id hJ
      obtain ⟨⟨hk1, hk2, hk3⟩, ⟨hm1, hm2, hm3, hm4⟩, hfc, hwt, hfu⟩ := id hW
      have hkp := tm_le hk1
      have hM11 := hM1.1
      have g29 : 0 ≤ (H1.1 366 6) ∧ (H1.1 366 6) ≤ 2000 := kn (x := kx_366) hI1 rfl 6
      refine k_run 2 (pc' := 36) (l' := [(0, .inr (.inr 366)), (1, .inr (.inr t)), (2, .inl b), (3, .inl x3), (4, .inl x4), (5, .inl x5)]) (st' := [.inl 2, .inl x4]) rfl ?_
      refine h_ine (off := 31) (t := 67) rfl rfl (by omega) (by decide) (fun c30 => ?_) (fun c30 => ?_)
      · refine k_run 0 (pc' := 67) (l' := [(0, .inr (.inr 366)), (1, .inr (.inr t)), (2, .inl b), (3, .inl x3), (4, .inl x4), (5, .inl x5)]) (st' := []) rfl ?_
        have hC1 := CR_WF hC9 hwf htc
        have hHW : HW ar X (ga l1) x3.toNat R x4 r := by have h9 := mR_ok (a := ga l1) (n := l1.length) hnR hR9 hfn har hk1 hk2 (by omega); rw [hm1] at h9; exact h9.resolve_right (fun q9 => by have q8 : x4 = 2 := q9.1; omega)
        have hst9 : stL ar X l1 = mkL ar X (ga l1) l1.length x3.toNat x4 r := st_of rfl (by rw [hwt, wt_st (by rw [hm1]; exact (by omega : x4 ≠ 2)), hm1])
        have hud1 : H1.1 368 1 = 1 ∧ H1.1 369 0 = 0 := ⟨(hwf.2 368 1 (by simp) (by omega) (by omega)).trans hud.1, (hwf.2 369 0 (by simp) (by omega) (by omega)).trans hud.2⟩
        obtain ⟨T, bv, kr, tp1, tp2, tp3, tp4, tp5⟩ := tpl_of hC1 hud1 hR9 har hk1 ⟨hk2, by omega⟩ hHW hm3 hm4
        have hkp := tm_le hk1
        have hM11 := hM1.1
        refine k_run 4 (pc' := 71) (l' := [(0, .inr (.inr 366)), (1, .inr (.inr t)), (2, .inl b), (3, .inl x3), (4, .inl x4), (5, .inl x5)]) (st' := [.inr (.inr 366), .inl x3, .inr (.inr t), .inr (.inr 366)]) rfl ?_
        refine k_getr (a := 366) (x := kx_366) rfl rfl rfl (by decide) rfl rfl rfl hI1 (fun h31 => ?_)
        obtain ⟨t32, et34⟩ : ∃ t9, t9 = H1.2 366 4 := ⟨_, rfl⟩
        rw [← et34] at h31 ⊢
        obtain ⟨n35, k33⟩ := (show ∃ n, isT t32 n from h31)
        have k33b := k33.2.2.2.2
        refine k_run 0 (pc' := 74) (l' := [(0, .inr (.inr 366)), (1, .inr (.inr t)), (2, .inl b), (3, .inl x3), (4, .inl x4), (5, .inl x5)]) (st' := [.inr (.inr t32), .inl x3, .inr (.inr t), .inr (.inr 366)]) rfl ?_
        refine k_run 2 (pc' := 78) (l' := [(0, .inr (.inr 366)), (1, .inr (.inr t)), (2, .inl b), (3, .inl x3), (4, .inl x4), (5, .inl x5)]) (st' := [.inr (.inr 370), .inr (.inr t32), .inl x3, .inr (.inr t), .inr (.inr 366)]) rfl ?_
        refine h_cv (i := 100) (j := 98) (b := 366) (M' := mt_98) (xs := [.inr (.inr 370), .inr (.inr t32), .inl x3, .inr (.inr t)]) (rest := []) rfl rfl rfl rfl (zs_K (x := kx_366) rfl (by decide)) rfl (Nat.le_of_ble_eq_true rfl) (Nat.le_of_ble_eq_true rfl) (by omega) (qb_replaceAt (by omega) hI1 ht (by omega) k33 iT_370 (X := X) (ar := ar) (cn := cn) (fn := fn) (g := ga l1) (N := l1.length) (T := T) (bv := bv) (kr := kr) (k := k) (by omega) (by omega) (by rw [et34]; omega) (by omega) hM1 (by rw [et34]; exact tp1) hK tp2 tp3 hk1 (by omega)) ?_
        rintro _ H37 ⟨z42, rfl, g36, hI38, hq39, hx41⟩
        have hf43 : fq [(366, 4), (366, 5), (366, 6)] [367] false H H37 := fq_t hf1 hq39 rfl rfl rfl
        refine k_run 0 (pc' := 81) (l' := [(0, .inr (.inr 366)), (1, .inr (.inr t)), (2, .inl b), (3, .inl x3), (4, .inl x4), (5, .inl x5)]) (st' := [.inl z42]) rfl ?_
        obtain ⟨hrp, haf⟩ := hx41
        rw [tp4, ← hst9] at hrp
        have htk6 : H37.1 366 6 = H1.1 366 6 := haf.2 366 6 (by decide) (by decide)
        refine h_zne (off := 5) (t := 86) rfl rfl (by omega) (fun c44 => ?_) (fun c44 => ?_)
        · refine k_run 0 (pc' := 86) (l' := [(0, .inr (.inr 366)), (1, .inr (.inr t)), (2, .inl b), (3, .inl x3), (4, .inl x4), (5, .inl x5)]) (st' := []) rfl ?_
          have hrp1 := hrp.resolve_right (fun q9 => by have q8 := q9.1; omega)
          have hrp2 := hrp1.2.2.1
          have hmt9 : tm ar (m_sg cn fn 0) (ga (stL ar X l1)) (stL ar X l1).length 0 1 := by rw [hst9]; exact mk_ok hR9 har har0 hl1.2 hk1 hk2 (by omega) hHW
          refine k_run 3 (pc' := 91) (l' := [(0, .inr (.inr 366)), (1, .inr (.inr t)), (2, .inl b), (3, .inl x3), (4, .inl x4), (5, .inl x5)]) (st' := [.inr (.inr 370), .inr (.inr t)]) rfl ?_
          refine h_cv (i := 104) (j := 55) (b := t) (M' := mt_55) (xs := [.inr (.inr 370)]) (rest := []) rfl rfl rfl rfl (by rw [zs_K ht.1 (iT0 ht)]; rfl) rfl (Nat.le_of_ble_eq_true rfl) (Nat.le_of_ble_eq_true rfl) (by omega) (qb_copy (by omega) hI38 ht iT_370 (by omega)) ?_
          rintro _ H46 ⟨rfl, hI47, hq48, hx50⟩
          have hf51 : fq [(366, 4), (366, 5), (366, 6)] [367] false H H46 := fq_t hf43 hq48 rfl rfl rfl
          refine k_run 0 (pc' := 94) (l' := [(0, .inr (.inr 366)), (1, .inr (.inr t)), (2, .inl b), (3, .inl x3), (4, .inl x4), (5, .inl x5)]) (st' := []) rfl ?_
          refine k_run 3 (pc' := 99) (l' := [(0, .inr (.inr 366)), (1, .inr (.inr t)), (2, .inl b), (3, .inl x3), (4, .inl x4), (5, .inl x5)]) (st' := [.inl (H46.1 366 6), .inr (.inr 366)]) rfl ?_
          have g52 : 0 ≤ (H46.1 366 6) ∧ (H46.1 366 6) ≤ 2000 := kn (x := kx_366) hI47 rfl 6
          have e53 : (H46.1 366 6) = (H37.1 366 6) := (hq48.1 366 6 rfl (by decide) (by decide)).1
          have e54 : (H37.1 366 6) = (H1.1 366 6) := (hq39.1 366 6 rfl (by decide) (by decide)).1
          refine k_run 2 (pc' := 101) (l' := [(0, .inr (.inr 366)), (1, .inr (.inr t)), (2, .inl b), (3, .inl x3), (4, .inl x4), (5, .inl x5)]) (st' := [.inl ((H46.1 366 6) + 1), .inr (.inr 366)]) rfl ?_
          refine k_puti (z := ((H46.1 366 6) + 1)) (a := 366) (x := kx_366) rfl rfl rfl (by decide) (by decide) rfl rfl rfl rfl hI47 (by omega) (show 0 ≤ ((H46.1 366 6) + 1) ∧ ((H46.1 366 6) + 1) ≤ 2000 by omega) (fun H55 hI56 hw57 hv58 => ?_)
          have hf59 : fq [(366, 4), (366, 5), (366, 6)] [367] false H H55 := fq_w hf51 hw57 (fpo (by decide) rfl)
          refine k_run 0 (pc' := 104) (l' := [(0, .inr (.inr 366)), (1, .inr (.inr t)), (2, .inl b), (3, .inl x3), (4, .inl x4), (5, .inl x5)]) (st' := []) rfl ?_
          obtain ⟨cp1, cp2, cp3⟩ := hx50
          have hMn : CM H55 t X (stL ar X l1).length (ga (stL ar X l1)) := ⟨by rw [hw57.2 _ _ (fun q9 => by have := q9.1; omega), cp1]; exact hrp2, fun x hx => by rw [hw57.2 _ _ (fun q9 => by have := q9.1; omega), cp2 x (by omega)]; exact hrp1.2.2.2 x hx⟩
          have htk7 : H55.1 366 6 = H1.1 366 6 + 1 := by rw [hv58, cp3.2 366 6 (by omega) (by omega), htk6]
          have hWn : WJ ar X cn fn t b l H H55 (stL ar X l1) := ⟨hMn, ⟨by have := hrp1.2.1; omega, hmt9⟩, by rw [htk7, ← hev]; exact (ev_s (by omega) (by omega) (by have := hrp1.2.1; omega)).symm, WF_tr (WF_tr (WF_tr hwf (WF_n haf)) (WF_t cp3)) (WF_w hw57)⟩
          refine k_run 1 (pc' := 105) (l' := [(0, .inr (.inr 366)), (1, .inr (.inr t)), (2, .inl b), (3, .inl x3), (4, .inl x4), (5, .inl x5)]) (st' := [.inr (.inr t)]) rfl ?_
          refine h_cs (i := 92) (j := 100) (M' := mt_100) (xs := [.inr (.inr t)]) (rest := []) rfl rfl rfl rfl rfl (Nat.le_of_ble_eq_true rfl) (Nat.le_of_ble_eq_true rfl) (by omega) (qb_firstCall (by omega) hI56 ht (g := ga (stL ar X l1)) (N := (stL ar X l1).length) hMn.1 (fun x hx => by rw [hMn.2 x hx]; have q9 := (hK _ (m_sg_0 (show m_sg cn fn 0 (ga (stL ar X l1) x) from by have q8 := tm_ok hmt9 x hx; rw [Nat.zero_add] at q8; exact q8))).1; unfold KF9 at q9; omega)) ?_
          rintro _ _ ⟨z66, rfl, g60, hx65, rfl⟩
          refine k_run 0 (pc' := 108) (l' := [(0, .inr (.inr 366)), (1, .inr (.inr t)), (2, .inl b), (3, .inl x3), (4, .inl x4), (5, .inl x5)]) (st' := [.inl z66]) rfl ?_
          refine k_run 2 (pc' := 10) (l' := [(0, .inr (.inr 366)), (1, .inr (.inr t)), (2, .inl b), (3, .inl z66), (4, .inl x4), (5, .inl x5)]) (st' := []) rfl ?_
          have g67 : 0 ≤ (H55.1 366 6) ∧ (H55.1 366 6) ≤ 2000 := kn (x := kx_366) hI56 rfl 6
          refine h_loc [0, 1, 2, 3] rfl ?_
          rw [hQ9]
          exact ih.1 H55 hI56 hf59 z66 (by omega) ⟨_, hWn, (by rcases hx65 with ⟨q1, q2⟩ | ⟨q1, q2⟩; { exact Or.inl ⟨q1, q2⟩ }; { exact Or.inr ⟨q1, q2⟩ })⟩ (by omega)
        · refine k_run 0 (pc' := 84) (l' := [(0, .inr (.inr 366)), (1, .inr (.inr t)), (2, .inl b), (3, .inl x3), (4, .inl x4), (5, .inl x5)]) (st' := []) rfl ?_
          refine k_run 1 (pc' := 85) (l' := [(0, .inr (.inr 366)), (1, .inr (.inr t)), (2, .inl b), (3, .inl x3), (4, .inl x4), (5, .inl x5)]) (st' := [.inl 2]) rfl ?_
          refine h_reti (x := 2) rfl rfl ?_
          have g68 : 0 ≤ (H37.1 366 6) ∧ (H37.1 366 6) ≤ 2000 := kn (x := kx_366) hI38 rfl 6
          have e69 : (H37.1 366 6) = (H1.1 366 6) := (hq39.1 366 6 rfl (by decide) (by decide)).1
          rw [hQ9]
          exact ⟨_, rfl, (by omega), hI38, hf43, (by first | (exfalso; omega) | exact ⟨l1, by rw [htk6, ← hev]; exact ev_2 (by omega) (by omega) (by have q9 := (hrp.resolve_left (fun q9 => by have q8 := q9.1; omega)).2; omega), ⟨(haf.2 _ _ (by omega) (by omega)).trans hM1.1, fun x hx => (haf.2 _ _ (by omega) (by omega)).trans (hM1.2 x hx)⟩, hl1, WF_tr hwf (WF_n haf)⟩)⟩
      · refine k_run 0 (pc' := 39) (l' := [(0, .inr (.inr 366)), (1, .inr (.inr t)), (2, .inl b), (3, .inl x3), (4, .inl x4), (5, .inl x5)]) (st' := []) rfl ?_
        refine k_run 2 (pc' := 42) (l' := [(0, .inr (.inr 366)), (1, .inr (.inr t)), (2, .inl b), (3, .inl x3), (4, .inl x4), (5, .inl x5)]) (st' := [.inr (.inr t), .inl x5]) rfl ?_
        refine k_get (a := t) (x := (kTo t n)) (v := .inl (H1.1 t 1)) rfl rfl ht.1 (iT0 ht) rfl rfl rfl ?_
        have g70 : 0 ≤ (H1.1 t 1) ∧ (H1.1 t 1) ≤ n := kn hI1 ht.1 1
        refine k_run 0 (pc' := 45) (l' := [(0, .inr (.inr 366)), (1, .inr (.inr t)), (2, .inl b), (3, .inl x3), (4, .inl x4), (5, .inl x5)]) (st' := [.inl (H1.1 t 1), .inl x5]) rfl ?_
        refine h_ige (off := 22) (t := 67) rfl rfl (by omega) (by omega) (fun c71 => ?_) (fun c71 => ?_)
        · refine k_run 0 (pc' := 67) (l' := [(0, .inr (.inr 366)), (1, .inr (.inr t)), (2, .inl b), (3, .inl x3), (4, .inl x4), (5, .inl x5)]) (st' := []) rfl ?_
          exfalso
          omega
        · refine k_run 0 (pc' := 48) (l' := [(0, .inr (.inr 366)), (1, .inr (.inr t)), (2, .inl b), (3, .inl x3), (4, .inl x4), (5, .inl x5)]) (st' := []) rfl ?_
          have hmr := (mR_ok (a := ga l1) (n := l1.length) hnR hR9 hfn har hk1 hk2 (by omega)).resolve_left (by rw [hm1]; rintro (⟨h9, -⟩ | h9); { have h9 : x4 = 0 := h9; omega }; { have h9 : x4 = 1 := h9; omega })
          obtain ⟨q1, q2, q3, kw, w6, w5⟩ := hmr
          obtain ⟨wp, hwp⟩ : ∃ wp : Nat, (mR ar X (ga l1) x3.toNat).2.1 = wp := ⟨_, rfl⟩
          rw [hwp] at q2 q3 w6 w5
          have hw0 : w0 = wp := by rw [hm1] at hwp; exact hwp
          have w1 : H1.1 366 5 = (wp : Int) := by rw [← hw0]; exact hm2 (by omega)
          have hkw := tm_le w6
          have hC1 := CR_WF hC9 hwf htc
          have hM11 := hM1.1
          refine k_run 2 (pc' := 52) (l' := [(0, .inr (.inr 366)), (1, .inr (.inr t)), (2, .inl b), (3, .inl x3), (4, .inl x4), (5, .inl x5)]) (st' := [.inl (H1.1 366 5)]) rfl ?_
          have g72 : -2147483648 ≤ (H1.1 366 5) ∧ (H1.1 366 5) ≤ 2147483647 := kn (x := kx_366) hI1 rfl 5
          refine k_run 4 (pc' := 56) (l' := [(0, .inr (.inr 366)), (1, .inr (.inr t)), (2, .inl b), (3, .inl (H1.1 366 5)), (4, .inl x4), (5, .inl x5)]) (st' := [.inl (H1.1 366 5), .inr (.inr t), .inr (.inr 366)]) rfl ?_
          refine h_cv (i := 96) (j := 94) (b := 366) (M' := mt_94) (xs := [.inl (H1.1 366 5), .inr (.inr t)]) (rest := []) rfl rfl rfl rfl (zs_K (x := kx_366) rfl (by decide)) rfl (Nat.le_of_ble_eq_true rfl) (Nat.le_of_ble_eq_true rfl) (by omega) (qb_matchCall (by omega) hI1 ht (by omega) (X := X) (ar := ar) (cn := cn) (fn := fn) (g := ga l1) (N := l1.length) (R := R) (k := kw) (by omega) (by omega) hM1 hK hC1 hR9 hX0 (by rw [w1]; exact w6) (by rw [w1, Int.toNat_natCast]; omega) (by rw [w1]; exact q3) har) ?_
          rintro _ H74 ⟨z79, rfl, g73, hI75, hq76, hx78⟩
          have hf80 : fq [(366, 4), (366, 5), (366, 6)] [367] false H H74 := fq_t hf1 hq76 rfl rfl rfl
          refine k_run 0 (pc' := 59) (l' := [(0, .inr (.inr 366)), (1, .inr (.inr t)), (2, .inl b), (3, .inl (H1.1 366 5)), (4, .inl x4), (5, .inl x5)]) (st' := [.inl z79]) rfl ?_
          refine k_run 3 (pc' := 33) (l' := [(0, .inr (.inr 366)), (1, .inr (.inr t)), (2, .inl b), (3, .inl (H1.1 366 5)), (4, .inl z79), (5, .inl (x5 + 1))]) (st' := []) rfl ?_
          have g81 : 0 ≤ (H74.1 366 6) ∧ (H74.1 366 6) ≤ 2000 := kn (x := kx_366) hI75 rfl 6
          have e82 : (H74.1 366 6) = (H1.1 366 6) := (hq76.1 366 6 rfl (by decide) (by decide)).1
          rw [hQ9]
          exact ih.2 H74 hI75 hf80 (H1.1 366 5) z79 (x5 + 1) (by omega) (by omega) (by omega) (by omega) (by omega) (by obtain ⟨w9, r9, f1, f2, f3, f4, f5⟩ := hx78; rw [w1] at f1 f3 ⊢; exact ⟨l1, w9, r9, kw, f - 1, WJ_PG hJ f5 (hq76.1 366 6 rfl (by decide) (by decide)).1 htc, ⟨w6, by omega, by omega⟩, ⟨f1, f2, f3, f4⟩, hfc, by rw [hwt, wt_go (by rw [hm1]; omega)]; show wtR ar X (ga l1) f (mR ar X (ga l1) x3.toNat).2.1 = _; rw [hwp, show f - 1 + 1 = f by omega]; rfl, by rw [Int.toNat_natCast]; omega⟩) (by omega)
set_option maxRecDepth 100000 in
theorem qb_workOut {X : rx} {ar : Int → Int} {cn fn : Int} {R : Nat} {l : List Int} {d : Nat} (hd : 4 ≤ d) {H : hp} (hI : Inv H) {t n : Nat} {b : Int} (ht : isT t n) (hb : -2147483648 ≤ b ∧ b ≤ 2147483647) (hp0 : 0 ≤ b ∧ b ≤ 2000) (htc : 372 ≤ t) (hn9 : 120 ≤ n) (hM9 : CM H t X l.length (ga l)) (hl9 : l.length ≤ 240 ∧ tm ar (m_sg cn fn 0) (ga l) l.length 0 1) (hK : ∀ s, m_sg cn fn 40 s → KF9 X s ∧ aC (kcd X s) = ar s) (hC9 : CR H X R) (hR9 : ∀ r : Nat, r < R → RW9r ar cn fn X r) (hX0 : X 0 6 = (R : Int)) (hfn : fn ≤ 16 ∧ cn ≤ 16) (har : ∀ s, 1000 ≤ s → ar s = 0) (har0 : ar 0 = 0) (hud : H.1 368 1 = 1 ∧ H.1 369 0 = 0) : hG (zs zK) d mt_99 0 (zargs 0 [.inr (.inr 366), .inr (.inr t), .inl b]) [] H (fun r9 H9 => ∃ z : Int, r9 = some (.inl z) ∧ ((-2147483648 ≤ z ∧ z ≤ 2147483647)) ∧ Inv H9 ∧ fq [(366, 4), (366, 5), (366, 6)] [367] false H H9 ∧ (∃ l2 : List Int, evF ar X b.toNat l 0 = (z, H9.1 366 6, l2) ∧ CM H9 t X l2.length (ga l2) ∧ (l2.length ≤ 240 ∧ tm ar (m_sg cn fn 0) (ga l2) l2.length 0 1) ∧ WF t H H9)) := by
  have htb := ht.2.2.2.2
  obtain ⟨Q9, hQ9⟩ : ∃ Q9 : Option zv → hp → Prop, Q9 = (fun r9 H9 => ∃ z : Int, r9 = some (.inl z) ∧ ((-2147483648 ≤ z ∧ z ≤ 2147483647)) ∧ Inv H9 ∧ fq [(366, 4), (366, 5), (366, 6)] [367] false H H9 ∧ (∃ l2 : List Int, evF ar X b.toNat l 0 = (z, H9.1 366 6, l2) ∧ CM H9 t X l2.length (ga l2) ∧ (l2.length ≤ 240 ∧ tm ar (m_sg cn fn 0) (ga l2) l2.length 0 1) ∧ WF t H H9)) := ⟨_, rfl⟩
  rw [← hQ9]
  refine k_run 0 (pc' := 0) (l' := [(0, .inr (.inr 366)), (1, .inr (.inr t)), (2, .inl b)]) (st' := []) rfl ?_
  refine k_run 2 (pc' := 2) (l' := [(0, .inr (.inr 366)), (1, .inr (.inr t)), (2, .inl b)]) (st' := [.inl 0, .inr (.inr 366)]) rfl ?_
  refine k_puti (z := 0) (a := 366) (x := kx_366) rfl rfl rfl (by decide) (by decide) rfl rfl rfl rfl hI (by decide) (show 0 ≤ (0 : Int) ∧ (0 : Int) ≤ 2000 by omega) (fun H1 hI2 hw3 hv4 => ?_)
  have hf5 : fq [(366, 4), (366, 5), (366, 6)] [367] false H H1 := fq_w (fq_rf _ _ _ _) hw3 (fpo (by decide) rfl)
  refine k_run 0 (pc' := 5) (l' := [(0, .inr (.inr 366)), (1, .inr (.inr t)), (2, .inl b)]) (st' := []) rfl ?_
  have hM0 : CM H1 t X l.length (ga l) := ⟨(hw3.2 _ _ (fun q9 => by have := q9.1; omega)).trans hM9.1, fun x hx => (hw3.2 _ _ (fun q9 => by have := q9.1; omega)).trans (hM9.2 x hx)⟩
  refine k_run 1 (pc' := 6) (l' := [(0, .inr (.inr 366)), (1, .inr (.inr t)), (2, .inl b)]) (st' := [.inr (.inr t)]) rfl ?_
  refine h_cs (i := 92) (j := 100) (M' := mt_100) (xs := [.inr (.inr t)]) (rest := []) rfl rfl rfl rfl rfl (Nat.le_of_ble_eq_true rfl) (Nat.le_of_ble_eq_true rfl) (by omega) (qb_firstCall (by omega) hI2 ht (g := ga l) (N := l.length) hM0.1 (fun x hx => by rw [hM0.2 x hx]; have q9 := (hK _ (m_sg_0 (show m_sg cn fn 0 (ga l x) from by have q8 := tm_ok hl9.2 x hx; rw [Nat.zero_add] at q8; exact q8))).1; unfold KF9 at q9; omega)) ?_
  rintro _ _ ⟨z12, rfl, g6, hx11, rfl⟩
  refine k_run 0 (pc' := 9) (l' := [(0, .inr (.inr 366)), (1, .inr (.inr t)), (2, .inl b)]) (st' := [.inl z12]) rfl ?_
  refine k_run 1 (pc' := 10) (l' := [(0, .inr (.inr 366)), (1, .inr (.inr t)), (2, .inl b), (3, .inl z12)]) (st' := []) rfl ?_
  have g13 : 0 ≤ (H1.1 366 6) ∧ (H1.1 366 6) ≤ 2000 := kn (x := kx_366) hI2 rfl 6
  rw [hQ9]
  exact (qb_workOut_cut hd hI ht hb hp0 htc hn9 hM9 hl9 hK hC9 hR9 hX0 hfn har har0 hud _).1 H1 hI2 hf5 z12 (by omega) ⟨l, ⟨hM0, hl9, by rw [hv4, Int.sub_zero], WF_w hw3⟩, (by rcases hx11 with ⟨q1, q2⟩ | ⟨q1, q2⟩; { exact Or.inl ⟨q1, q2⟩ }; { exact Or.inr ⟨q1, q2⟩ })⟩ (Nat.lt_succ_self _)
