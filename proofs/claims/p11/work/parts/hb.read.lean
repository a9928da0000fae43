/-! the class: read and feed, told exactly -/
theorem tg_law : ∀ l : Nat, l < 16 → tg (265 + 6 * l) = true := by decide +kernel
/-- tables stay where no call but read writes -/
theorem TC_fq {ob : List (Nat × Nat)} {ar : List Nat} {gl : Bool} {H K : hp} {X : rx} (h : TC H X) (f : fq ob ar gl H K) (h1 : ∀ p ∈ ob, 24 < p.1 ∨ p.1 < 7) (h2 : ∀ c ∈ ar, 24 < c ∨ c < 7) (hn : ∀ l : Nat, l < 16 → K.1 (265 + 6 * l) 5 = H.1 (265 + 6 * l) 5) : TC K X := by
  have g : ∀ c j, fx c = true → 7 ≤ c → c ≤ 24 → K.1 c j = H.1 c j := fun c j hx ha hb => (f.1 c j hx (fun m => by have := h2 c m; omega) (fun m => by have := h1 _ m; simp only at this; omega)).1
  obtain ⟨⟨a1, a2, a3, a4, a5⟩, b, c, d, e⟩ := h
  refine ⟨⟨?_, ?_, ?_, ?_, ?_⟩, fun k hk => ?_, fun k hk => ?_, fun k hk => ?_, fun l hl hk => ?_⟩
  · rw [g 8 4 rfl (by decide) (by decide)]; exact a1
  · rw [g 13 4 rfl (by decide) (by decide)]; exact a2
  · rw [g 18 4 rfl (by decide) (by decide)]; exact a3
  · rw [g 7 5 rfl (by decide) (by decide)]; exact a4
  · rw [g 7 6 rfl (by decide) (by decide)]; exact a5
  · rw [g 9 k rfl (by decide) (by decide)]; exact b k hk
  · rw [g 14 k rfl (by decide) (by decide), g 15 k rfl (by decide) (by decide), g 16 k rfl (by decide) (by decide)]
    refine ⟨(c k hk).1, (c k hk).2.1, (c k hk).2.2.1, fun a ha => ?_⟩
    rw [g 17 _ rfl (by decide) (by decide)]
    exact (c k hk).2.2.2 a ha
  · rw [g 19 k rfl (by decide) (by decide), g 20 k rfl (by decide) (by decide), g 21 k rfl (by decide) (by decide)]
    refine ⟨(d k hk).1, (d k hk).2.1, (d k hk).2.2.1, fun a ha => ?_⟩
    rw [g 22 _ rfl (by decide) (by decide)]
    exact (d k hk).2.2.2 a ha
  · rw [hn l hl]
    exact e l hl hk
theorem ER_fq {ob : List (Nat × Nat)} {ar : List Nat} {gl : Bool} {H K : hp} (h : ER H) (f : fq ob ar gl H K) (h1 : ∀ p ∈ ob, 24 < p.1 ∨ p.1 < 7) (h2 : ∀ c ∈ ar, 24 < c ∨ c < 7) : ER K := by
  have g : ∀ c j, fx c = true → 7 ≤ c → c ≤ 24 → K.2 c j = H.2 c j := fun c j hx ha hb => (f.1 c j hx (fun m => by have := h2 c m; omega) (fun m => by have := h1 _ m; simp only at this; omega)).2
  refine ⟨fun r hr => ?_, fun l hl => ?_⟩
  · rw [g 23 r rfl (by decide) (by decide)]; exact h.1 r hr
  · rw [g 24 l rfl (by decide) (by decide)]; exact h.2 l hl
theorem fq_nm {ob : List (Nat × Nat)} {ar : List Nat} {H K : hp} (f : fq ob ar false H K) : ∀ l : Nat, l < 16 → K.1 (265 + 6 * l) 5 = H.1 (265 + 6 * l) 5 := fun l hl => (f.2 rfl _ _ (tg_law l hl)).1
theorem RX_fw {ps : List (Nat × Nat)} {Y : yx} {X : rx} {z : Int} {H K : hp} (h : RX Y X z H) (f : fw ps H K) (hp : ∀ p ∈ ps, p.1 < 7 ∨ (361 < p.1 ∧ p.1 ≠ 368 ∧ p.1 ≠ 369)) : RX Y X z K := by
  have hn : ∀ p ∈ ps, nT p := fun p m => by
    have := hp p m
    unfold nT
    omega
  have hN : NE 0 H K := NE_fwo f (fun p m => by have := hp p m; omega)
  rcases h with ⟨X1, a, b, c, d, e, g⟩ | ⟨Xf, k, p, a, b, c, d, e, g⟩
  · exact Or.inl ⟨X1, a, b, TC_fw c f hn, d, ER_fw e f, SC_fr g hN⟩
  · exact Or.inr ⟨Xf, k, p, a, b, by rw [f.2 361 4 (fun m => by have := hp _ m; simp only at this; omega)]; exact c, TC_fw d f hn, ER_fw e f, SC_fr g hN⟩
/-- only the tape changes -/
def FN (H H1 : hp) : Prop := H1.2 = H.2 ∧ ∀ c j, 3 < c → H1.1 c j = H.1 c j
theorem FN_rf (H : hp) : FN H H := ⟨rfl, fun _ _ _ => rfl⟩
theorem FN_tr {H H1 H2 : hp} (h : FN H H1) (g : FN H1 H2) : FN H H2 := ⟨g.1.trans h.1, fun c j hc => (g.2 c j hc).trans (h.2 c j hc)⟩
theorem FN_w {H H1 : hp} {a k : Nat} (w : wr a k H H1) (ha : a ≤ 3) : FN H H1 := ⟨w.1, fun c j hc => w.2 c j (fun q => by have := q.1; omega)⟩
/-- a number is put on the tape -/
def PN (a : Int) (H H1 : hp) : Prop := (∀ j : Nat, (j : Int) < H.1 2 1 → H1.1 3 j = H.1 3 j) ∧ ∀ i : Nat, H.1 2 1 + i < H1.1 2 1 → H1.1 3 (H.1 2 1 + i).toNat = z_and (z_ushr a (24 - 8 * i)) 255
theorem PN_0 {a : Int} {H : hp} : PN a H H := ⟨fun _ _ => rfl, fun i hi => absurd hi (by omega)⟩
theorem PN_w {a x : Int} {H H1 H2 H3 : hp} (h : PN a H H1) (h0 : 0 ≤ H.1 2 1 ∧ H.1 2 1 ≤ H1.1 2 1) (hx : 8 * (H1.1 2 1) = 8 * (H.1 2 1) + 24 - x) (w1 : wr 3 (H1.1 2 1).toNat H1 H2) (v1 : H2.1 3 (H1.1 2 1).toNat = z_and (z_ushr a x) 255) (w2 : wr 2 1 H2 H3) (v2 : H3.1 2 1 = H2.1 2 1 + 1) : PN a H H3 := by
  have e2 : H2.1 2 1 = H1.1 2 1 := w1.2 2 1 (fun q => by cases q.1)
  rw [e2] at v2
  have e3 : ∀ j, H3.1 3 j = H2.1 3 j := fun j => w2.2 3 j (fun q => by cases q.1)
  refine ⟨fun j hj => ?_, fun i hi => ?_⟩
  · rw [e3, w1.2 3 j (fun q => by have := q.2; omega)]
    exact h.1 j hj
  · rw [e3]
    by_cases e : H.1 2 1 + i = H1.1 2 1
    · rw [e, v1, show (24 : Int) - 8 * i = x by omega]
    · rw [w1.2 3 _ (fun q => by have := q.2; omega)]
      exact h.2 i (by omega)
def fwd (a b c e f : Int) (i : Nat) : Int := if i < 4 then a else if i < 8 then b else if i < 12 then c else if i < 16 then e else f
def fby (a b c e f : Int) (i : Nat) : Int := z_and (z_ushr (fwd a b c e f i) (24 - 8 * ((i % 4 : Nat) : Int))) 255
/-- five numbers are -/
def FD (a b c e f : Int) (H K : hp) : Prop := (∀ j : Nat, (j : Int) < H.1 2 1 → K.1 3 j = H.1 3 j) ∧ ∀ i : Nat, i < 20 → K.1 3 (H.1 2 1 + i).toNat = fby a b c e f i
theorem FD_mk {a b c e f : Int} {H H1 H2 H3 H4 K : hp} (h0 : 0 ≤ H.1 2 1) (p1 : PN a H H1) (l1 : H1.1 2 1 = H.1 2 1 + 4) (p2 : PN b H1 H2) (l2 : H2.1 2 1 = H1.1 2 1 + 4) (p3 : PN c H2 H3) (l3 : H3.1 2 1 = H2.1 2 1 + 4) (p4 : PN e H3 H4) (l4 : H4.1 2 1 = H3.1 2 1 + 4) (p5 : PN f H4 K) (l5 : K.1 2 1 = H4.1 2 1 + 4) : FD a b c e f H K := by
  refine ⟨fun j hj => ?_, fun i hi => ?_⟩
  · rw [p5.1 j (by omega), p4.1 j (by omega), p3.1 j (by omega), p2.1 j (by omega), p1.1 j hj]
  · unfold fby fwd
    by_cases q1 : i < 4
    · rw [p5.1 _ (by omega), p4.1 _ (by omega), p3.1 _ (by omega), p2.1 _ (by omega), if_pos q1, show i % 4 = i by omega]
      exact p1.2 i (by omega)
    rw [if_neg q1]
    by_cases q2 : i < 8
    · rw [p5.1 _ (by omega), p4.1 _ (by omega), p3.1 _ (by omega), if_pos q2, show i % 4 = i - 4 by omega, show H.1 2 1 + i = H1.1 2 1 + ((i - 4 : Nat) : Int) by omega]
      exact p2.2 (i - 4) (by omega)
    rw [if_neg q2]
    by_cases q3 : i < 12
    · rw [p5.1 _ (by omega), p4.1 _ (by omega), if_pos q3, show i % 4 = i - 8 by omega, show H.1 2 1 + i = H2.1 2 1 + ((i - 8 : Nat) : Int) by omega]
      exact p3.2 (i - 8) (by omega)
    rw [if_neg q3]
    by_cases q4 : i < 16
    · rw [p5.1 _ (by omega), if_pos q4, show i % 4 = i - 12 by omega, show H.1 2 1 + i = H3.1 2 1 + ((i - 12 : Nat) : Int) by omega]
      exact p4.2 (i - 12) (by omega)
    rw [if_neg q4, show i % 4 = i - 16 by omega, show H.1 2 1 + i = H4.1 2 1 + ((i - 16 : Nat) : Int) by omega]
    exact p5.2 (i - 16) (by omega)

/-! Tape.putNumber -/
set_option maxRecDepth 100000 in
theorem q_Tape_putNumber_cut {d : Nat} (hd : 1 ≤ d) {H : hp} (hI : Inv H) {a : Int} (ha : -2147483648 ≤ a ∧ a ≤ 2147483647) (hp0 : H.1 2 1 ≤ 996) : ∀ w : Nat, (∀ (H1 : hp), Inv H1 → fq [(2, 1)] [3] false H H1 → ∀ (x2 : Int) , (-2147483648 ≤ x2 ∧ x2 ≤ 2147483647) → (x2 % 8 = 0 ∧ -8 ≤ x2 ∧ x2 ≤ 24) → (8 * (H1.1 2 1) = 8 * (H.1 2 1) + 24 - x2) → (0 ≤ H.1 2 1 ∧ H.1 2 1 ≤ H1.1 2 1) → (PN a H H1) → (NE 0 H H1) → (FN H H1) → (((x2 + 100).toNat) < w) → hG (zs zK) d mt_26 3 [(0, .inr (.inr 2)), (1, .inl a), (2, .inl x2)] [] H1 (fun r9 H9 => r9 = none ∧ Inv H9 ∧ fq [(2, 1)] [3] false H H9 ∧ (PN a H H9 ∧ H9.1 2 1 = H.1 2 1 + 4 ∧ NE 0 H H9 ∧ FN H H9))) := by
  intro w
  induction w with
  | zero => exact fun _ _ _ _ _ _ _ _ _ _ _ h => absurd h (Nat.not_lt_zero _)
  | succ w ih =>
    intro H1 hI1 hf1 x2 hx2 hi0 hi1 hi2 hi3 hi4 hi5 hw
    have g2 : 0 ≤ (H1.1 2 1) ∧ (H1.1 2 1) ≤ 1000 := kn (x := kx_2) hI1 rfl 1
    refine k_run 1 (pc' := 4) (l' := [(0, .inr (.inr 2)), (1, .inl a), (2, .inl x2)]) (st' := [.inl x2]) rfl ?_
    refine h_zlt (off := 45) (t := 49) rfl rfl (by omega) (fun c3 => ?_) (fun c3 => ?_)
    · refine k_run 0 (pc' := 49) (l' := [(0, .inr (.inr 2)), (1, .inl a), (2, .inl x2)]) (st' := []) rfl ?_
      refine h_ret rfl rfl ?_
      exact ⟨rfl, hI1, hf1, ⟨hi3, by omega, hi4, hi5⟩⟩
    · refine k_run 0 (pc' := 7) (l' := [(0, .inr (.inr 2)), (1, .inl a), (2, .inl x2)]) (st' := []) rfl ?_
      refine k_run 3 (pc' := 14) (l' := [(0, .inr (.inr 2)), (1, .inl a), (2, .inl x2)]) (st' := [.inl 1000, .inl (H1.1 2 1)]) rfl ?_
      refine h_ige (off := 29) (t := 43) rfl rfl (by omega) (by decide) (fun c4 => ?_) (fun c4 => ?_)
      · refine k_run 0 (pc' := 43) (l' := [(0, .inr (.inr 2)), (1, .inl a), (2, .inl x2)]) (st' := []) rfl ?_
        refine k_run 2 (pc' := 3) (l' := [(0, .inr (.inr 2)), (1, .inl a), (2, .inl (x2 + (-8)))]) (st' := []) rfl ?_
        exact ih H1 hI1 hf1 (x2 + (-8)) (by omega) (by omega) (by omega) (by omega) (by exfalso; omega) (by exfalso; omega) (by exfalso; omega) (by omega)
      · refine k_run 0 (pc' := 17) (l' := [(0, .inr (.inr 2)), (1, .inl a), (2, .inl x2)]) (st' := []) rfl ?_
        refine k_run 9 (pc' := 32) (l' := [(0, .inr (.inr 2)), (1, .inl a), (2, .inl x2)]) (st' := [.inl (z_and (z_ushr a x2) 255), .inl (H1.1 2 1), .inr (.inr 3)]) rfl ?_
        have g5 : 0 ≤ (z_and (z_ushr a x2) 255) ∧ (z_and (z_ushr a x2) 255) ≤ 255 := z_and_le _ 255 (by decide)
        refine k_ist (z := (z_and (z_ushr a x2) 255)) (c := 3) (j := ((H1.1 2 1)).toNat) (i := (H1.1 2 1)) (x := kx_3) rfl rfl (by decide) (by decide) rfl (by decide) (by omega) (by omega) hI1 (z_int _) (show -2147483648 ≤ (z_and (z_ushr a x2) 255) ∧ (z_and (z_ushr a x2) 255) ≤ 2147483647 by omega) (fun H6 hI7 hw8 hv9 => ?_)
        have hf10 : fq [(2, 1)] [3] false H H6 := fq_w hf1 hw8 (fpa (by decide) rfl)
        refine k_run 0 (pc' := 33) (l' := [(0, .inr (.inr 2)), (1, .inl a), (2, .inl x2)]) (st' := []) rfl ?_
        refine k_run 3 (pc' := 38) (l' := [(0, .inr (.inr 2)), (1, .inl a), (2, .inl x2)]) (st' := [.inl (H6.1 2 1), .inr (.inr 2)]) rfl ?_
        have g11 : 0 ≤ (H6.1 2 1) ∧ (H6.1 2 1) ≤ 1000 := kn (x := kx_2) hI7 rfl 1
        have e12 : (H6.1 2 1) = (H1.1 2 1) := hw8.2 _ _ (fun q => absurd q.1 (by decide))
        refine k_run 2 (pc' := 40) (l' := [(0, .inr (.inr 2)), (1, .inl a), (2, .inl x2)]) (st' := [.inl ((H6.1 2 1) + 1), .inr (.inr 2)]) rfl ?_
        refine k_puti (z := ((H6.1 2 1) + 1)) (a := 2) (x := kx_2) rfl rfl rfl (by decide) (by decide) rfl rfl rfl rfl hI7 (by omega) (show 0 ≤ ((H6.1 2 1) + 1) ∧ ((H6.1 2 1) + 1) ≤ 1000 by omega) (fun H13 hI14 hw15 hv16 => ?_)
        have hf17 : fq [(2, 1)] [3] false H H13 := fq_w hf10 hw15 (fpo (by decide) rfl)
        refine k_run 0 (pc' := 43) (l' := [(0, .inr (.inr 2)), (1, .inl a), (2, .inl x2)]) (st' := []) rfl ?_
        refine k_run 2 (pc' := 3) (l' := [(0, .inr (.inr 2)), (1, .inl a), (2, .inl (x2 + (-8)))]) (st' := []) rfl ?_
        have g18 : 0 ≤ (H13.1 2 1) ∧ (H13.1 2 1) ≤ 1000 := kn (x := kx_2) hI14 rfl 1
        exact ih H13 hI14 hf17 (x2 + (-8)) (by omega) (by omega) (by omega) (by omega) (PN_w (H1 := H1) (H2 := H6) (H3 := H13) (x := x2) hi3 (by omega) (by omega) hw8 hv9 hw15 hv16) (NE_tr (NE_tr hi4 (NE_w hw8 (sc_no (by omega)))) (NE_w hw15 (sc_no (by omega)))) (FN_tr (FN_tr hi5 (FN_w hw8 (by decide))) (FN_w hw15 (by decide))) (by omega)
set_option maxRecDepth 100000 in
theorem q_Tape_putNumber {d : Nat} (hd : 1 ≤ d) {H : hp} (hI : Inv H) {a : Int} (ha : -2147483648 ≤ a ∧ a ≤ 2147483647) (hp0 : H.1 2 1 ≤ 996) : hG (zs zK) d mt_26 0 (zargs 0 [.inr (.inr 2), .inl a]) [] H (fun r9 H9 => r9 = none ∧ Inv H9 ∧ fq [(2, 1)] [3] false H H9 ∧ (PN a H H9 ∧ H9.1 2 1 = H.1 2 1 + 4 ∧ NE 0 H H9 ∧ FN H H9)) := by
  refine k_run 0 (pc' := 0) (l' := [(0, .inr (.inr 2)), (1, .inl a)]) (st' := []) rfl ?_
  refine k_run 2 (pc' := 3) (l' := [(0, .inr (.inr 2)), (1, .inl a), (2, .inl 24)]) (st' := []) rfl ?_
  have g1 : 0 ≤ (H.1 2 1) ∧ (H.1 2 1) ≤ 1000 := kn (x := kx_2) hI rfl 1
  exact (q_Tape_putNumber_cut hd hI ha hp0 _) H hI (fq_rf _ _ _ _) (24 : Int) (by decide) (by omega) (by omega) (by omega) PN_0 (NE_rf _ _) (FN_rf _) (Nat.lt_succ_self _)

/-! feed -/
set_option maxRecDepth 100000 in
theorem q_feed {d : Nat} (hd : 2 ≤ d) {H : hp} (hI : Inv H) {a : Int} {b : Int} {c : Int} {e : Int} {f : Int} (ha : -2147483648 ≤ a ∧ a ≤ 2147483647) (hb : -2147483648 ≤ b ∧ b ≤ 2147483647) (hc : -2147483648 ≤ c ∧ c ≤ 2147483647) (he : -2147483648 ≤ e ∧ e ≤ 2147483647) (hf : -2147483648 ≤ f ∧ f ≤ 2147483647) (hp0 : H.1 2 1 ≤ 980) : hG (zs zK) d mt_1 0 (zargs 0 [.inr (.inr 1), .inl a, .inl b, .inl c, .inl e, .inl f]) [] H (fun r9 H9 => ∃ z : Int, r9 = some (.inl z) ∧ ((-2147483648 ≤ z ∧ z ≤ 2147483647)) ∧ Inv H9 ∧ fq [(2, 1)] [3] false H H9 ∧ ((z = H.1 2 1 + 20 ∧ H9.1 2 1 = H.1 2 1 + 20) ∧ FD a b c e f H H9 ∧ NE 0 H H9 ∧ FN H H9)) := by
  refine k_run 0 (pc' := 0) (l' := [(0, .inr (.inr 1)), (1, .inl a), (2, .inl b), (3, .inl c), (4, .inl e), (5, .inl f)]) (st' := []) rfl ?_
  refine k_run 3 (pc' := 7) (l' := [(0, .inr (.inr 1)), (1, .inl a), (2, .inl b), (3, .inl c), (4, .inl e), (5, .inl f)]) (st' := [.inl (H.1 2 1)]) rfl ?_
  have g1 : 0 ≤ (H.1 2 1) ∧ (H.1 2 1) ≤ 1000 := kn (x := kx_2) hI rfl 1
  refine k_run 1 (pc' := 10) (l' := [(0, .inr (.inr 1)), (1, .inl a), (2, .inl b), (3, .inl c), (4, .inl e), (5, .inl f)]) (st' := [.inl 980, .inl (H.1 2 1)]) rfl ?_
  refine h_ile (off := 13) (t := 23) rfl rfl (by omega) (by decide) (fun c2 => ?_) (fun c2 => ?_)
  · refine k_run 0 (pc' := 23) (l' := [(0, .inr (.inr 1)), (1, .inl a), (2, .inl b), (3, .inl c), (4, .inl e), (5, .inl f)]) (st' := []) rfl ?_
    refine k_run 3 (pc' := 28) (l' := [(0, .inr (.inr 1)), (1, .inl a), (2, .inl b), (3, .inl c), (4, .inl e), (5, .inl f)]) (st' := [.inl a, .inr (.inr 2)]) rfl ?_
    refine h_cv (i := 84) (j := 26) (b := 2) (M' := mt_26) (xs := [.inl a]) (rest := []) rfl rfl rfl rfl (zs_K (x := kx_2) rfl (by decide)) rfl (Nat.le_of_ble_eq_true rfl) (Nat.le_of_ble_eq_true rfl) (by omega) (q_Tape_putNumber (by omega) hI (by omega) (by omega)) ?_
    rintro _ H4 ⟨rfl, hI5, hq6, hx8⟩
    have hf9 : fq [(2, 1)] [3] false H H4 := fq_t (fq_rf _ _ _ _) hq6 rfl rfl rfl
    refine k_run 0 (pc' := 31) (l' := [(0, .inr (.inr 1)), (1, .inl a), (2, .inl b), (3, .inl c), (4, .inl e), (5, .inl f)]) (st' := []) rfl ?_
    refine k_run 3 (pc' := 36) (l' := [(0, .inr (.inr 1)), (1, .inl a), (2, .inl b), (3, .inl c), (4, .inl e), (5, .inl f)]) (st' := [.inl b, .inr (.inr 2)]) rfl ?_
    have g10 : 0 ≤ (H4.1 2 1) ∧ (H4.1 2 1) ≤ 1000 := kn (x := kx_2) hI5 rfl 1
    refine h_cv (i := 84) (j := 26) (b := 2) (M' := mt_26) (xs := [.inl b]) (rest := []) rfl rfl rfl rfl (zs_K (x := kx_2) rfl (by decide)) rfl (Nat.le_of_ble_eq_true rfl) (Nat.le_of_ble_eq_true rfl) (by omega) (q_Tape_putNumber (by omega) hI5 (by omega) (by omega)) ?_
    rintro _ H12 ⟨rfl, hI13, hq14, hx16⟩
    have hf17 : fq [(2, 1)] [3] false H H12 := fq_t hf9 hq14 rfl rfl rfl
    refine k_run 0 (pc' := 39) (l' := [(0, .inr (.inr 1)), (1, .inl a), (2, .inl b), (3, .inl c), (4, .inl e), (5, .inl f)]) (st' := []) rfl ?_
    refine k_run 3 (pc' := 44) (l' := [(0, .inr (.inr 1)), (1, .inl a), (2, .inl b), (3, .inl c), (4, .inl e), (5, .inl f)]) (st' := [.inl c, .inr (.inr 2)]) rfl ?_
    have g18 : 0 ≤ (H12.1 2 1) ∧ (H12.1 2 1) ≤ 1000 := kn (x := kx_2) hI13 rfl 1
    refine h_cv (i := 84) (j := 26) (b := 2) (M' := mt_26) (xs := [.inl c]) (rest := []) rfl rfl rfl rfl (zs_K (x := kx_2) rfl (by decide)) rfl (Nat.le_of_ble_eq_true rfl) (Nat.le_of_ble_eq_true rfl) (by omega) (q_Tape_putNumber (by omega) hI13 (by omega) (by omega)) ?_
    rintro _ H20 ⟨rfl, hI21, hq22, hx24⟩
    have hf25 : fq [(2, 1)] [3] false H H20 := fq_t hf17 hq22 rfl rfl rfl
    refine k_run 0 (pc' := 47) (l' := [(0, .inr (.inr 1)), (1, .inl a), (2, .inl b), (3, .inl c), (4, .inl e), (5, .inl f)]) (st' := []) rfl ?_
    refine k_run 3 (pc' := 53) (l' := [(0, .inr (.inr 1)), (1, .inl a), (2, .inl b), (3, .inl c), (4, .inl e), (5, .inl f)]) (st' := [.inl e, .inr (.inr 2)]) rfl ?_
    have g26 : 0 ≤ (H20.1 2 1) ∧ (H20.1 2 1) ≤ 1000 := kn (x := kx_2) hI21 rfl 1
    refine h_cv (i := 84) (j := 26) (b := 2) (M' := mt_26) (xs := [.inl e]) (rest := []) rfl rfl rfl rfl (zs_K (x := kx_2) rfl (by decide)) rfl (Nat.le_of_ble_eq_true rfl) (Nat.le_of_ble_eq_true rfl) (by omega) (q_Tape_putNumber (by omega) hI21 (by omega) (by omega)) ?_
    rintro _ H28 ⟨rfl, hI29, hq30, hx32⟩
    have hf33 : fq [(2, 1)] [3] false H H28 := fq_t hf25 hq30 rfl rfl rfl
    refine k_run 0 (pc' := 56) (l' := [(0, .inr (.inr 1)), (1, .inl a), (2, .inl b), (3, .inl c), (4, .inl e), (5, .inl f)]) (st' := []) rfl ?_
    refine k_run 3 (pc' := 62) (l' := [(0, .inr (.inr 1)), (1, .inl a), (2, .inl b), (3, .inl c), (4, .inl e), (5, .inl f)]) (st' := [.inl f, .inr (.inr 2)]) rfl ?_
    have g34 : 0 ≤ (H28.1 2 1) ∧ (H28.1 2 1) ≤ 1000 := kn (x := kx_2) hI29 rfl 1
    refine h_cv (i := 84) (j := 26) (b := 2) (M' := mt_26) (xs := [.inl f]) (rest := []) rfl rfl rfl rfl (zs_K (x := kx_2) rfl (by decide)) rfl (Nat.le_of_ble_eq_true rfl) (Nat.le_of_ble_eq_true rfl) (by omega) (q_Tape_putNumber (by omega) hI29 (by omega) (by omega)) ?_
    rintro _ H36 ⟨rfl, hI37, hq38, hx40⟩
    have hf41 : fq [(2, 1)] [3] false H H36 := fq_t hf33 hq38 rfl rfl rfl
    refine k_run 0 (pc' := 65) (l' := [(0, .inr (.inr 1)), (1, .inl a), (2, .inl b), (3, .inl c), (4, .inl e), (5, .inl f)]) (st' := []) rfl ?_
    refine k_run 3 (pc' := 72) (l' := [(0, .inr (.inr 1)), (1, .inl a), (2, .inl b), (3, .inl c), (4, .inl e), (5, .inl f)]) (st' := [.inl (H36.1 2 1)]) rfl ?_
    have g42 : 0 ≤ (H36.1 2 1) ∧ (H36.1 2 1) ≤ 1000 := kn (x := kx_2) hI37 rfl 1
    refine h_reti (x := (H36.1 2 1)) rfl rfl ?_
    exact ⟨_, rfl, (by omega), hI37, hf41, ⟨by omega, FD_mk (by omega) hx8.1 hx8.2.1 hx16.1 hx16.2.1 hx24.1 hx24.2.1 hx32.1 hx32.2.1 hx40.1 hx40.2.1, (NE_tr (NE_tr (NE_tr (NE_tr hx8.2.2.1 hx16.2.2.1) hx24.2.2.1) hx32.2.2.1) hx40.2.2.1), (FN_tr (FN_tr (FN_tr (FN_tr hx8.2.2.2 hx16.2.2.2) hx24.2.2.2) hx32.2.2.2) hx40.2.2.2)⟩⟩
  · refine k_run 0 (pc' := 13) (l' := [(0, .inr (.inr 1)), (1, .inl a), (2, .inl b), (3, .inl c), (4, .inl e), (5, .inl f)]) (st' := []) rfl ?_
    exfalso
    omega

/-! end -/
set_option maxRecDepth 100000 in
theorem q_end {d : Nat} (hd : 1 ≤ d) {H : hp} (hI : Inv H) {a : Int} (ha : -2147483648 ≤ a ∧ a ≤ 2147483647) (hp0 : 0 ≤ a ∧ a ≤ H.1 2 1) : hG (zs zK) d mt_2 0 (zargs 0 [.inr (.inr 1), .inl a]) [] H (fun r9 H9 => r9 = none ∧ (H9.1 2 1 = a) ∧ Inv H9 ∧ fq [(2, 1)] [] false H H9 ∧ (NE 0 H H9 ∧ FN H H9)) := by
  refine k_run 0 (pc' := 0) (l' := [(0, .inr (.inr 1)), (1, .inl a)]) (st' := []) rfl ?_
  refine k_run 1 (pc' := 1) (l' := [(0, .inr (.inr 1)), (1, .inl a)]) (st' := [.inl a]) rfl ?_
  refine h_zlt (off := 14) (t := 15) rfl rfl (by omega) (fun c1 => ?_) (fun c1 => ?_)
  · refine k_run 0 (pc' := 15) (l' := [(0, .inr (.inr 1)), (1, .inl a)]) (st' := []) rfl ?_
    exfalso
    omega
  · refine k_run 0 (pc' := 4) (l' := [(0, .inr (.inr 1)), (1, .inl a)]) (st' := []) rfl ?_
    refine k_run 4 (pc' := 12) (l' := [(0, .inr (.inr 1)), (1, .inl a)]) (st' := [.inl (H.1 2 1), .inl a]) rfl ?_
    have g2 : 0 ≤ (H.1 2 1) ∧ (H.1 2 1) ≤ 1000 := kn (x := kx_2) hI rfl 1
    refine h_ile (off := 13) (t := 25) rfl rfl (by omega) (by omega) (fun c3 => ?_) (fun c3 => ?_)
    · refine k_run 0 (pc' := 25) (l' := [(0, .inr (.inr 1)), (1, .inl a)]) (st' := []) rfl ?_
      refine k_run 3 (pc' := 30) (l' := [(0, .inr (.inr 1)), (1, .inl a)]) (st' := [.inl a, .inr (.inr 2)]) rfl ?_
      refine k_puti (z := a) (a := 2) (x := kx_2) rfl rfl rfl (by decide) (by decide) rfl rfl rfl rfl hI (by omega) (show 0 ≤ a ∧ a ≤ 1000 by omega) (fun H4 hI5 hw6 hv7 => ?_)
      have hf8 : fq [(2, 1)] [] false H H4 := fq_w (fq_rf _ _ _ _) hw6 (fpo (by decide) rfl)
      refine k_run 0 (pc' := 33) (l' := [(0, .inr (.inr 1)), (1, .inl a)]) (st' := []) rfl ?_
      refine h_ret rfl rfl ?_
      have g9 : 0 ≤ (H4.1 2 1) ∧ (H4.1 2 1) ≤ 1000 := kn (x := kx_2) hI5 rfl 1
      exact ⟨rfl, (by omega), hI5, hf8, ⟨NE_w hw6 (sc_no (by omega)), FN_w hw6 (by decide)⟩⟩
    · refine k_run 0 (pc' := 15) (l' := [(0, .inr (.inr 1)), (1, .inl a)]) (st' := []) rfl ?_
      exfalso
      omega

/-! Proof.forget -/
set_option maxRecDepth 100000 in
theorem q_Proof_forget {d : Nat} (hd : 1 ≤ d) {H : hp} (hI : Inv H)   : hG (zs zK) d mt_144 0 (zargs 0 [.inr (.inr 407)]) [] H (fun r9 H9 => r9 = none ∧ Inv H9 ∧ fq [(407, 2), (407, 3)] [] false H H9 ∧ fw [(407, 2), (407, 3)] H H9) := by
  refine k_run 0 (pc' := 0) (l' := [(0, .inr (.inr 407))]) (st' := []) rfl ?_
  refine k_run 2 (pc' := 2) (l' := [(0, .inr (.inr 407))]) (st' := [.inl 0, .inr (.inr 407)]) rfl ?_
  refine k_puti (z := 0) (a := 407) (x := kx_407) rfl rfl rfl (by decide) (by decide) rfl rfl rfl rfl hI (by decide) (show 0 ≤ (0 : Int) ∧ (0 : Int) ≤ 12 by omega) (fun H1 hI2 hw3 hv4 => ?_)
  have hf5 : fq [(407, 2), (407, 3)] [] false H H1 := fq_w (fq_rf _ _ _ _) hw3 (fpo (by decide) rfl)
  have hp6 : fw [(407, 2), (407, 3)] H H1 := fw_w (fw_rf _ _) hw3 (by first | (simp; done) | (simp; omega))
  refine k_run 0 (pc' := 5) (l' := [(0, .inr (.inr 407))]) (st' := []) rfl ?_
  refine k_run 2 (pc' := 7) (l' := [(0, .inr (.inr 407))]) (st' := [.inl 0, .inr (.inr 407)]) rfl ?_
  refine k_puti (z := 0) (a := 407) (x := kx_407) rfl rfl rfl (by decide) (by decide) rfl rfl rfl rfl hI2 (by decide) (show -2147483648 ≤ (0 : Int) ∧ (0 : Int) ≤ 2147483647 by omega) (fun H7 hI8 hw9 hv10 => ?_)
  have hf11 : fq [(407, 2), (407, 3)] [] false H H7 := fq_w hf5 hw9 (fpo (by decide) rfl)
  have hp12 : fw [(407, 2), (407, 3)] H H7 := fw_w hp6 hw9 (by first | (simp; done) | (simp; omega))
  refine k_run 0 (pc' := 10) (l' := [(0, .inr (.inr 407))]) (st' := []) rfl ?_
  refine h_ret rfl rfl ?_
  exact ⟨rfl, hI8, hf11, hp12⟩

/-! read -/
set_option maxRecDepth 100000 in
theorem q_read {X : rx} {d : Nat} (hd : 43 ≤ d) {H : hp} (hI : Inv H)   (hT : TC H X) (hE : ER H) (hA : AB X) (hX0 : X 0 0 = 0) (hJ : ∀ (K : List tq) (X1 : rx), rch (H.1 3, (H.1 2 1).toNat) ([(6, 0, 0, 0)], X) (K, X1) → JB X X1) (hV : ∀ (n : Int) (X1 : rx), rch (H.1 3, (H.1 2 1).toNat) ([(6, 0, 0, 0)], X) ([(6, n, 0, 0)], X1) → n ≤ X1 0 0) (hS : SC H X) (hL : ∀ (n : Int) (X1 : rx), rch (H.1 3, (H.1 2 1).toNat) ([(6, 0, 0, 0)], X) ([(6, n, 0, 0)], X1) → MI X1 ∧ P0 X1 ∧ ∀ (K : List tq) (X2 : rx), rch (H.1 3, (H.1 2 1).toNat) ([(6, n, 0, 0)], X1) (K, X2) → JB X1 X2 ∧ LB X1 X2) : hG (zs zK) d mt_3 0 (zargs 0 [.inr (.inr 1)]) [] H (fun r9 H9 => ∃ z : Int, r9 = some (.inl z) ∧ ((-2147483648 ≤ z ∧ z ≤ 2147483647)) ∧ Inv H9 ∧ fq [(2, 1), (2, 5), (7, 5), (7, 6), (8, 4), (13, 4), (18, 4), (361, 3), (361, 4), (361, 5), (361, 6), (361, 7), (361, 8), (361, 9), (407, 2), (407, 3)] [4, 5, 6, 9, 10, 11, 14, 15, 16, 17, 19, 20, 21, 22, 362] true H H9 ∧ (H9.1 2 1 = 0 ∧ RX (H.1 3, (H.1 2 1).toNat) X z H9)) := by
  obtain ⟨Q9, hQ9⟩ : ∃ Q9 : Option zv → hp → Prop, Q9 = (fun r9 H9 => ∃ z : Int, r9 = some (.inl z) ∧ ((-2147483648 ≤ z ∧ z ≤ 2147483647)) ∧ Inv H9 ∧ fq [(2, 1), (2, 5), (7, 5), (7, 6), (8, 4), (13, 4), (18, 4), (361, 3), (361, 4), (361, 5), (361, 6), (361, 7), (361, 8), (361, 9), (407, 2), (407, 3)] [4, 5, 6, 9, 10, 11, 14, 15, 16, 17, 19, 20, 21, 22, 362] true H H9 ∧ (H9.1 2 1 = 0 ∧ RX (H.1 3, (H.1 2 1).toNat) X z H9)) := ⟨_, rfl⟩
  rw [← hQ9]
  refine k_run 0 (pc' := 0) (l' := [(0, .inr (.inr 1))]) (st' := []) rfl ?_
  refine k_run 2 (pc' := 4) (l' := [(0, .inr (.inr 1))]) (st' := [.inr (.inr 361)]) rfl ?_
  refine h_cv (i := 92) (j := 62) (b := 361) (M' := mt_62) (xs := []) (rest := []) rfl rfl rfl rfl (zs_K (x := kx_361) rfl (by decide)) rfl (Nat.le_of_ble_eq_true rfl) (Nat.le_of_ble_eq_true rfl) (by omega) (q_Reader_readText (by omega) hI hT hE hA hX0 hJ hV hS hL) ?_
  rintro _ H2 ⟨z7, rfl, g1, hI3, hq4, hx6⟩
  have hf8 : fq [(2, 1), (2, 5), (7, 5), (7, 6), (8, 4), (13, 4), (18, 4), (361, 3), (361, 4), (361, 5), (361, 6), (361, 7), (361, 8), (361, 9), (407, 2), (407, 3)] [4, 5, 6, 9, 10, 11, 14, 15, 16, 17, 19, 20, 21, 22, 362] true H H2 := fq_t (fq_rf _ _ _ _) hq4 rfl rfl rfl
  refine k_run 0 (pc' := 7) (l' := [(0, .inr (.inr 1))]) (st' := [.inl z7]) rfl ?_
  refine k_run 4 (pc' := 13) (l' := [(0, .inr (.inr 1)), (1, .inl z7)]) (st' := [.inl 0, .inr (.inr 2)]) rfl ?_
  refine k_puti (z := 0) (a := 2) (x := kx_2) rfl rfl rfl (by decide) (by decide) rfl rfl rfl rfl hI3 (by decide) (show 0 ≤ (0 : Int) ∧ (0 : Int) ≤ 1000 by omega) (fun H9 hI10 hw11 hv12 => ?_)
  have hf13 : fq [(2, 1), (2, 5), (7, 5), (7, 6), (8, 4), (13, 4), (18, 4), (361, 3), (361, 4), (361, 5), (361, 6), (361, 7), (361, 8), (361, 9), (407, 2), (407, 3)] [4, 5, 6, 9, 10, 11, 14, 15, 16, 17, 19, 20, 21, 22, 362] true H H9 := fq_w hf8 hw11 (fpo (by decide) rfl)
  refine k_run 0 (pc' := 16) (l' := [(0, .inr (.inr 1)), (1, .inl z7)]) (st' := []) rfl ?_
  refine k_run 1 (pc' := 17) (l' := [(0, .inr (.inr 1)), (1, .inl z7)]) (st' := [.inl z7]) rfl ?_
  refine h_zlt (off := 13) (t := 30) rfl rfl (by omega) (fun c14 => ?_) (fun c14 => ?_)
  · refine k_run 0 (pc' := 30) (l' := [(0, .inr (.inr 1)), (1, .inl z7)]) (st' := []) rfl ?_
    refine k_run 1 (pc' := 31) (l' := [(0, .inr (.inr 1)), (1, .inl z7)]) (st' := [.inl z7]) rfl ?_
    refine h_reti (x := z7) rfl rfl ?_
    have g15 : 0 ≤ (H9.1 2 1) ∧ (H9.1 2 1) ≤ 1000 := kn (x := kx_2) hI10 rfl 1
    rw [hQ9]
    exact ⟨_, rfl, (by omega), hI10, hf13, (by first | (exfalso; omega) | exact ⟨by omega, RX_fw hx6 (fw_w (fw_rf [(2, 1)] _) hw11 (by simp)) (by simp)⟩)⟩
  · refine k_run 0 (pc' := 20) (l' := [(0, .inr (.inr 1)), (1, .inl z7)]) (st' := []) rfl ?_
    refine k_run 3 (pc' := 27) (l' := [(0, .inr (.inr 1)), (1, .inl z7)]) (st' := [.inr (.inr 407)]) rfl ?_
    refine h_cv (i := 100) (j := 144) (b := 407) (M' := mt_144) (xs := []) (rest := []) rfl rfl rfl rfl (zs_K (x := kx_407) rfl (by decide)) rfl (Nat.le_of_ble_eq_true rfl) (Nat.le_of_ble_eq_true rfl) (by omega) (q_Proof_forget (by omega) hI10 ) ?_
    rintro _ H17 ⟨rfl, hI18, hq19, hp20⟩
    have hf22 : fq [(2, 1), (2, 5), (7, 5), (7, 6), (8, 4), (13, 4), (18, 4), (361, 3), (361, 4), (361, 5), (361, 6), (361, 7), (361, 8), (361, 9), (407, 2), (407, 3)] [4, 5, 6, 9, 10, 11, 14, 15, 16, 17, 19, 20, 21, 22, 362] true H H17 := fq_t hf13 hq19 rfl rfl rfl
    refine k_run 0 (pc' := 30) (l' := [(0, .inr (.inr 1)), (1, .inl z7)]) (st' := []) rfl ?_
    refine k_run 1 (pc' := 31) (l' := [(0, .inr (.inr 1)), (1, .inl z7)]) (st' := [.inl z7]) rfl ?_
    refine h_reti (x := z7) rfl rfl ?_
    have g23 : 0 ≤ (H17.1 2 1) ∧ (H17.1 2 1) ≤ 1000 := kn (x := kx_2) hI18 rfl 1
    have e24 : (H17.1 2 1) = (H9.1 2 1) := (hq19.1 2 1 rfl (by decide) (by decide)).1
    rw [hQ9]
    exact ⟨_, rfl, (by omega), hI18, hf22, (by first | (exfalso; omega) | exact ⟨by omega, RX_fw (RX_fw hx6 (fw_w (fw_rf [(2, 1)] _) hw11 (by simp)) (by simp)) hp20 (by simp)⟩)⟩
