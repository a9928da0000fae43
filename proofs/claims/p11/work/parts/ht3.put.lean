/-! the class puts the value at a place -/
theorem z_rem_eq {x y : Int} (hx : 0 ≤ x ∧ x ≤ 2147483647) (hy : 1 ≤ y ∧ y ≤ 2147483647) : z_rem x y = x % y := by
  have h1 := z_div_eq hx hy
  unfold z_div at h1
  have h2 : Int32.ofInt x / Int32.ofInt y = Int32.ofInt (x / y) := by rw [← h1, Int32.ofInt_toInt]
  have h3 : x - x / y * y = x % y := by rw [Int.emod_def, Int.mul_comm]
  have h4 := Int.emod_nonneg x (show y ≠ 0 by omega)
  have h5 := Int.emod_lt_of_pos x (show 0 < y by omega)
  unfold z_rem
  rw [h2, ← Int32.ofInt_mul, ← Int32.ofInt_sub, h3, z_t (by omega)]
theorem z_dr {x y : Int} (hx : 0 ≤ x ∧ x ≤ 2147483647) (hy : 1 ≤ y ∧ y ≤ 2147483647) : z_div x y = ((x.toNat / y.toNat : Nat) : Int) ∧ z_rem x y = ((x.toNat % y.toNat : Nat) : Int) := by
  rw [z_div_eq hx hy, z_rem_eq hx hy]
  obtain ⟨p, rfl⟩ : ∃ p : Nat, x = (p : Int) := ⟨x.toNat, by omega⟩
  obtain ⟨q, rfl⟩ : ∃ q : Nat, y = (q : Int) := ⟨y.toNat, by omega⟩
  exact ⟨rfl, rfl⟩
theorem tuC_at {X : rx} {al : Bool} {c k n i q r : Nat} {v w : List Int} (hk : k < aQ9 X c) (hi : i < n) (hv : (vv X al (i + 1) (agC X c k))[q]? = some v) (hw : (tuC (vv X al) X c (k + 1) (n - (i + 1)))[r]? = some w) : (tuC (vv X al) X c k n)[sumN (f9 X al c k n) i + (q * (tuC (vv X al) X c (k + 1) (n - (i + 1))).length + r)]? = some (v ++ w) := by
  have h1 := tuL_at (W := vv X al) (ag := agC X c) (a := aQ9 X c) (j := aQ9 X c - (k + 1)) (n := n) (i := i) (q := q) (r := r) (v := v) (w := w) hi (by rw [show aQ9 X c - (aQ9 X c - (k + 1) + 1) = k by omega]; exact hv) hw
  rw [show aQ9 X c - (k + 1) + 1 = aQ9 X c - k by omega] at h1
  have h2 : sumN (fun i => (vv X al (i + 1) (agC X c (aQ9 X c - (aQ9 X c - k)))).length * (tuL (vv X al) (agC X c) (aQ9 X c) (aQ9 X c - (k + 1)) (n - (i + 1))).length) i = sumN (f9 X al c k n) i := by
    refine sumN_cg (fun i _ => ?_)
    unfold f9 tuC
    rw [show aQ9 X c - (aQ9 X c - k) = k by omega]
  rw [h2] at h1
  exact h1
theorem cp_le_self (x : Nat) : cp x ≤ x := by
  unfold cp
  split <;> omega
/-- a product within an exact number -/
theorem f9_ex {X : rx} {al : Bool} {c k n i : Nat} (hk : k < aQ9 X c) (hi : i < n) (h : (tuC (vv X al) X c k n).length ≤ 2000) : cN X al (agC X c k) (i + 1) * tN X al c (k + 1) (n - (i + 1)) = f9 X al c k n i ∧ f9 X al c k n i ≤ 2000 ∧ (0 < f9 X al c k n i → cN X al (agC X c k) (i + 1) = (vv X al (i + 1) (agC X c k)).length ∧ tN X al c (k + 1) (n - (i + 1)) = (tuC (vv X al) X c (k + 1) (n - (i + 1))).length) := by
  rw [tuC_sz hk] at h
  have h1 := sumN_ge (f := f9 X al c k n) hi
  have h2 : cN X al (agC X c k) (i + 1) * tN X al c (k + 1) (n - (i + 1)) ≤ f9 X al c k n i := Nat.mul_le_mul (cp_le_self _) (cp_le_self _)
  have h3 := cp_pr (x := (vv X al (i + 1) (agC X c k)).length) (y := (tuC (vv X al) X c (k + 1) (n - (i + 1))).length) (Nat.le_trans h2 (by omega))
  exact ⟨h3.1, by omega, h3.2⟩
/-- arguments are put: k are there, n names and place q are left -/
def PA9 (X : rx) (al : Bool) (t : Nat) (l : List Int) (a b c : Nat) (H H1 : hp) (k n q : Nat) : Prop := ∃ p : List Int, CM H1 t X (l ++ p).length (ga (l ++ p)) ∧ AF t H H1 ∧ p.length + n = b ∧ (q < (tuC (vv X al) X a k n).length ∧ (tuC (vv X al) X a k n).length ≤ 2000) ∧ ∀ w, (tuC (vv X al) X a k n)[q]? = some w → (tuC (vv X al) X a 0 b)[c]? = some (p ++ w)
theorem PA_0 {X : rx} {al : Bool} {t : Nat} {l : List Int} {a b c : Nat} {H : hp} (hM : CM H t X l.length (ga l)) (hc : c < (tuC (vv X al) X a 0 b).length) (he : (tuC (vv X al) X a 0 b).length ≤ 2000) : PA9 X al t l a b c H H 0 b c := ⟨[], by rw [List.append_nil]; exact hM, AF_rf _ _, Nat.zero_add _, ⟨hc, he⟩, fun w h => h⟩
theorem PA_s {X : rx} {al : Bool} {t : Nat} {l p v : List Int} {a b c : Nat} {H H1 H2 : hp} {k n r i : Nat} (hM : CM H2 t X (l ++ p ++ v).length (ga (l ++ p ++ v))) (h1 : AF t H H1) (h2 : AF t H1 H2) (hp : p.length + n = b) (hq : sumN (f9 X al a k n) i + r < (tuC (vv X al) X a k n).length ∧ (tuC (vv X al) X a k n).length ≤ 2000) (hw : ∀ w, (tuC (vv X al) X a k n)[sumN (f9 X al a k n) i + r]? = some w → (tuC (vv X al) X a 0 b)[c]? = some (p ++ w)) (hk : k < aQ9 X a) (hi : i < n) (hr : r < f9 X al a k n i) (hv : (vv X al (i + 1) (agC X a k))[r / (tuC (vv X al) X a (k + 1) (n - (i + 1))).length]? = some v) : PA9 X al t l a b c H H2 (k + 1) (n - (i + 1)) (r % (tuC (vv X al) X a (k + 1) (n - (i + 1))).length) := by
  have e := f9_ex (al := al) hk hi hq.2
  have hR : 0 < (tuC (vv X al) X a (k + 1) (n - (i + 1))).length := Nat.pos_of_ne_zero (fun q => by unfold f9 at hr; rw [q, Nat.mul_zero] at hr; exact Nat.not_lt_zero _ hr)
  have hA : 0 < (vv X al (i + 1) (agC X a k)).length := Nat.pos_of_ne_zero (fun q => by unfold f9 at hr; rw [q, Nat.zero_mul] at hr; exact Nat.not_lt_zero _ hr)
  have hRl : (tuC (vv X al) X a (k + 1) (n - (i + 1))).length ≤ f9 X al a k n i := by
    have := Nat.mul_le_mul_right (tuC (vv X al) X a (k + 1) (n - (i + 1))).length hA
    unfold f9
    omega
  have hl := vv_ln (List.mem_of_getElem? hv)
  refine ⟨p ++ v, by rw [← List.append_assoc]; exact hM, AF_tr h1 h2, by rw [List.length_append]; omega, ⟨Nat.mod_lt _ hR, by omega⟩, fun w h => ?_⟩
  have g := tuC_at hk hi hv h
  rw [Nat.mul_comm, Nat.div_add_mod] at g
  rw [List.append_assoc]
  exact hw _ g
theorem CM_put {H H9 : hp} {t : Nat} {X : rx} {l : List Int} {a s : Int} (h : CM H t X l.length (ga l)) (w : fw [((t + 1), (H.1 t 1).toNat), (t, 1)] H H9) (e : H9.1 (t + 1) (H.1 t 1).toNat = a ∧ H9.1 t 1 = H.1 t 1 + 1) (ha : a = kcd X s) : CM H9 t X (l ++ [s]).length (ga (l ++ [s])) ∧ AF t H H9 := by
  have h1 := h.1
  refine ⟨⟨by rw [e.2, h1, List.length_append]; rfl, fun x hx => ?_⟩, w.1, fun c j h2 h3 => w.2 c j (by simp; omega)⟩
  rw [List.length_append] at hx
  have hx : x < l.length + 1 := hx
  by_cases q : x = l.length
  · subst q
    rw [ga_app_r (Nat.le_refl _), Nat.sub_self, ga_one, ← ha, ← e.1, h1, Int.toNat_natCast]
  · rw [ga_app_l (by omega), ← h.2 x (by omega)]
    exact w.2 _ _ (by simp; omega)
theorem kcd_con {X : rx} {c : Nat} (hc : c < 99) : kcd X (1 + (c : Int)) = kco 1 c (X 4 c) := by
  unfold kcd
  rw [if_neg (by omega), if_neg (by omega), if_neg (by omega), show 1 + (c : Int) - 1 = c by omega, Int.toNat_natCast]

/-- the value with b ≤ m names is put -/
def PVx (m : Nat) : Prop := ∀ {X : rx} {al : Bool} {N : Nat} {l : List Int} {d : Nat} (_ : 2 * m + 6 ≤ d) {H : hp} (_ : Inv H) {a b c : Int} {t n : Nat} (_ : -2147483648 ≤ a ∧ a ≤ 2147483647) (_ : -2147483648 ≤ b ∧ b ≤ 2147483647) (_ : -2147483648 ≤ c ∧ c ≤ 2147483647) (_ : isT t n) (_ : 0 ≤ a ∧ a < X 0 3) (_ : 1 ≤ b ∧ b ≤ (m : Int) ∧ b ≤ N ∧ N ≤ 6) (_ : CT9 X) (_ : TC H X) (_ : ((al = false → H.1 372 9 = 0) ∧ (al = true → H.1 372 9 = 1))) (_ : KV H X al N) (_ : 382 ≤ t) (_ : CM H t X l.length (ga l)) (_ : l.length + b.toNat ≤ n) (_ : 0 ≤ c ∧ c.toNat < (vv X al b.toNat a).length) (_ : (vv X al b.toNat a).length ≤ 2000), hG (zs zK) d mt_112 0 (zargs 0 [.inr (.inr 372), .inl a, .inl b, .inl c, .inr (.inr t)]) [] H (fun r9 H9 => r9 = none ∧ Inv H9 ∧ fq [] [] false H H9 ∧ (∃ v9, (vv X al b.toNat a)[c.toNat]? = some v9 ∧ CM H9 t X (l ++ v9).length (ga (l ++ v9)) ∧ AF t H H9))

/-! Trial.putArguments -/
set_option maxRecDepth 100000 in
theorem qv_putArguments_cut {m : Nat} {X : rx} {al : Bool} {N : Nat} {l : List Int} {d : Nat} (hd : 2 * m + 7 ≤ d) {H : hp} (hI : Inv H) {a : Int} {b : Int} {c : Int} {t n : Nat} (ha : -2147483648 ≤ a ∧ a ≤ 2147483647) (hb : -2147483648 ≤ b ∧ b ≤ 2147483647) (hc : -2147483648 ≤ c ∧ c ≤ 2147483647) (ht : isT t n) (hp0 : 0 ≤ a ∧ a < X 0 4) (hp1 : 0 ≤ b ∧ b ≤ (m : Int) ∧ b < N ∧ N ≤ 6) (hR : PVx m) (hX : CT9 X) (hT : TC H X) (hal : ((al = false → H.1 372 9 = 0) ∧ (al = true → H.1 372 9 = 1))) (hV : KV H X al N) (ht9 : 382 ≤ t) (hM : CM H t X l.length (ga l)) (hrm : l.length + b.toNat ≤ n) (hc9 : 0 ≤ c ∧ c.toNat < (tuC (vv X al) X a.toNat 0 b.toNat).length) (he9 : (tuC (vv X al) X a.toNat 0 b.toNat).length ≤ 2000) : ∀ w : Nat, (∀ (H1 : hp), Inv H1 → fq [] [] false H H1 → ∀ (x5 : Int) (x6 : Int) (x7 : Int) , (-2147483648 ≤ x5 ∧ x5 ≤ 2147483647) → (-2147483648 ≤ x6 ∧ x6 ≤ 2147483647) → (-2147483648 ≤ x7 ∧ x7 ≤ 2147483647) → (0 ≤ x7 ∧ x7 ≤ X 4 a.toNat) → (0 ≤ x6 ∧ x6 ≤ b) → (0 ≤ x5 ∧ x5 ≤ 2000) → (PA9 X al t l a.toNat b.toNat c.toNat H H1 x7.toNat x6.toNat x5.toNat) → (((1000 * (100 - x7) + 500).toNat) < w) → hG (zs zK) d mt_113 9 [(0, .inr (.inr 372)), (1, .inl a), (2, .inl b), (3, .inl c), (4, .inr (.inr t)), (5, .inl x5), (6, .inl x6), (7, .inl x7)] [] H1 (fun r9 H9 => r9 = none ∧ Inv H9 ∧ fq [] [] false H H9 ∧ (∃ v9, (tuC (vv X al) X a.toNat 0 b.toNat)[c.toNat]? = some v9 ∧ CM H9 t X (l ++ v9).length (ga (l ++ v9)) ∧ AF t H H9))) ∧ (∀ (H1 : hp), Inv H1 → fq [] [] false H H1 → ∀ (x5 : Int) (x6 : Int) (x7 : Int) (x8 : Int) (x9 : Int) (x10 : Int) , (-2147483648 ≤ x5 ∧ x5 ≤ 2147483647) → (-2147483648 ≤ x6 ∧ x6 ≤ 2147483647) → (-2147483648 ≤ x7 ∧ x7 ≤ 2147483647) → (-2147483648 ≤ x8 ∧ x8 ≤ 2147483647) → (-2147483648 ≤ x9 ∧ x9 ≤ 2147483647) → (-2147483648 ≤ x10 ∧ x10 ≤ 2147483647) → (0 ≤ x7 ∧ x7 < X 4 a.toNat) → (1 ≤ x6 ∧ x6 ≤ b) → (0 ≤ x5 ∧ x5 ≤ 2000) → (1 ≤ x9 ∧ x9 ≤ x6) → (0 ≤ x8 ∧ x8 < X 0 3) → (x8 = agC X a.toNat x7.toNat) → (0 ≤ x10 ∧ x10 ≤ 2000) → (x10 = ((f9 X al a.toNat x7.toNat x6.toNat (x9 - 1).toNat : Nat) : Int)) → (PA9 X al t l a.toNat b.toNat c.toNat H H1 x7.toNat x6.toNat (sumN (f9 X al a.toNat x7.toNat x6.toNat) (x9 - 1).toNat + x5.toNat)) → (((1000 * (100 - x7) + 100 - x9).toNat) < w) → hG (zs zK) d mt_113 75 [(0, .inr (.inr 372)), (1, .inl a), (2, .inl b), (3, .inl c), (4, .inr (.inr t)), (5, .inl x5), (6, .inl x6), (7, .inl x7), (8, .inl x8), (9, .inl x9), (10, .inl x10)] [] H1 (fun r9 H9 => r9 = none ∧ Inv H9 ∧ fq [] [] false H H9 ∧ (∃ v9, (tuC (vv X al) X a.toNat 0 b.toNat)[c.toNat]? = some v9 ∧ CM H9 t X (l ++ v9).length (ga (l ++ v9)) ∧ AF t H H9))) := by
  intro w
  induction w with
  | zero => exact ⟨fun _ _ _ _ _ _ _ _ _ _ _ _ _ h => absurd h (Nat.not_lt_zero _), fun _ _ _ _ _ _ _ _ _ _ _ _ _ _ _ _ _ _ _ _ _ _ _ _ h => absurd h (Nat.not_lt_zero _)⟩
  | succ w ih =>
    refine ⟨?_, ?_⟩
    · intro H1 hI1 hf1 x5 x6 x7 hx5 hx6 hx7 hi0 hi1 hi2 hi3 hw
      have htb := ht.2.2.2.2
      obtain ⟨Q9, hQ9⟩ : ∃ Q9 : Option zv → hp → Prop, Q9 = (fun r9 H9 => r9 = none ∧ Inv H9 ∧ fq [] [] false H H9 ∧ (∃ v9, (tuC (vv X al) X a.toNat 0 b.toNat)[c.toNat]? = some v9 ∧ CM H9 t X (l ++ v9).length (ga (l ++ v9)) ∧ AF t H H9)) := ⟨_, rfl⟩
      rw [← hQ9]
      obtain ⟨hX3, hX4, hXc⟩ := id hX
      obtain ⟨hc1, hc2, hc3⟩ := hXc a.toNat (by omega)
      have haC : (aQ9 X a.toNat : Int) = X 4 a.toNat := by unfold aQ9; omega
      obtain ⟨p, hMp, hAF, hpl, hpq, hpw⟩ := id hi3
      have hT1 : TC H1 X := TC_lo hT (fun c j hc => hAF.2 c j (by omega) (by omega))
      have hV1 : KV H1 X al N := KV_cg hV (fun _ _ _ _ _ => hAF.2 _ _ (by omega) (by omega)) (fun _ _ _ _ _ _ => hAF.2 _ _ (by omega) (by omega))
      obtain ⟨-, -, hc4, hc5⟩ := hT1.2.2.1 a.toNat (by omega)
      have hpl2 : (l ++ p).length = l.length + p.length := List.length_append
      have hpa := hi3
      refine k_run 6 (pc' := 22) (l' := [(0, .inr (.inr 372)), (1, .inl a), (2, .inl b), (3, .inl c), (4, .inr (.inr t)), (5, .inl x5), (6, .inl x6), (7, .inl x7)]) (st' := [.inl a, .inr (.inr 16), .inl x7]) rfl ?_
      refine k_ild (c := 16) (j := (a).toNat) (i := a) (x := kx_16) rfl rfl (by decide) rfl (by decide) (by omega) (by omega) ?_
      have g1 : 0 ≤ (H1.1 16 (a).toNat) ∧ (H1.1 16 (a).toNat) ≤ 4 := kn (x := kx_16) hI1 rfl (a).toNat
      have e2 : (H1.1 16 (a).toNat) = (H.1 16 (a).toNat) := (hf1.1 16 (a).toNat rfl (by decide) (fun q => by simp at q)).1
      refine k_run 0 (pc' := 23) (l' := [(0, .inr (.inr 372)), (1, .inl a), (2, .inl b), (3, .inl c), (4, .inr (.inr t)), (5, .inl x5), (6, .inl x6), (7, .inl x7)]) (st' := [.inl (H1.1 16 (a).toNat), .inl x7]) rfl ?_
      refine h_ige (off := 159) (t := 182) rfl rfl (by omega) (by omega) (fun c3 => ?_) (fun c3 => ?_)
      · refine k_run 0 (pc' := 182) (l' := [(0, .inr (.inr 372)), (1, .inl a), (2, .inl b), (3, .inl c), (4, .inr (.inr t)), (5, .inl x5), (6, .inl x6), (7, .inl x7)]) (st' := []) rfl ?_
        refine h_ret rfl rfl ?_
        rw [hQ9]
        exact ⟨rfl, hI1, hf1, (by first | (exfalso; omega) | exact (by obtain ⟨p, hMp, hAF, hpl, hpq, hpw⟩ := id hpa; have q8 := hpq.1; by_cases q9 : x7.toNat = aQ9 X a.toNat; { rw [q9, tuC_sz0] at q8; have q7 : x6.toNat = 0 := (by by_cases q6 : x6.toNat = 0; { exact q6 }; { rw [if_neg q6] at q8; exact absurd q8 (Nat.not_lt_zero _) }); rw [q7, if_pos rfl] at q8; have q5 : (tuC (vv X al) X a.toNat x7.toNat x6.toNat)[x5.toNat]? = some [] := (by rw [q9, q7, show x5.toNat = 0 by omega]; unfold tuC; rw [Nat.sub_self]; rfl); exact ⟨p ++ [], hpw _ q5, by rw [List.append_nil]; exact hMp, hAF⟩ }; { rw [tuC_sz (by omega), show x6.toNat = 0 by omega] at q8; exact absurd q8 (Nat.not_lt_zero _) }))⟩
      · refine k_run 0 (pc' := 26) (l' := [(0, .inr (.inr 372)), (1, .inl a), (2, .inl b), (3, .inl c), (4, .inr (.inr t)), (5, .inl x5), (6, .inl x6), (7, .inl x7)]) (st' := []) rfl ?_
        refine k_run 2 (pc' := 29) (l' := [(0, .inr (.inr 372)), (1, .inl a), (2, .inl b), (3, .inl c), (4, .inr (.inr t)), (5, .inl x5), (6, .inl x6), (7, .inl x7)]) (st' := [.inl 1, .inl x6]) rfl ?_
        refine h_ilt (off := 153) (t := 182) rfl rfl (by omega) (by decide) (fun c4 => ?_) (fun c4 => ?_)
        · refine k_run 0 (pc' := 182) (l' := [(0, .inr (.inr 372)), (1, .inl a), (2, .inl b), (3, .inl c), (4, .inr (.inr t)), (5, .inl x5), (6, .inl x6), (7, .inl x7)]) (st' := []) rfl ?_
          refine h_ret rfl rfl ?_
          rw [hQ9]
          exact ⟨rfl, hI1, hf1, (by first | (exfalso; omega) | exact (by obtain ⟨p, hMp, hAF, hpl, hpq, hpw⟩ := id hpa; have q8 := hpq.1; by_cases q9 : x7.toNat = aQ9 X a.toNat; { rw [q9, tuC_sz0] at q8; have q7 : x6.toNat = 0 := (by by_cases q6 : x6.toNat = 0; { exact q6 }; { rw [if_neg q6] at q8; exact absurd q8 (Nat.not_lt_zero _) }); rw [q7, if_pos rfl] at q8; have q5 : (tuC (vv X al) X a.toNat x7.toNat x6.toNat)[x5.toNat]? = some [] := (by rw [q9, q7, show x5.toNat = 0 by omega]; unfold tuC; rw [Nat.sub_self]; rfl); exact ⟨p ++ [], hpw _ q5, by rw [List.append_nil]; exact hMp, hAF⟩ }; { rw [tuC_sz (by omega), show x6.toNat = 0 by omega] at q8; exact absurd q8 (Nat.not_lt_zero _) }))⟩
        · refine k_run 0 (pc' := 32) (l' := [(0, .inr (.inr 372)), (1, .inl a), (2, .inl b), (3, .inl c), (4, .inr (.inr t)), (5, .inl x5), (6, .inl x6), (7, .inl x7)]) (st' := []) rfl ?_
          obtain ⟨hg1, hg2⟩ := hc3 x7.toNat (by omega)
          refine k_run 5 (pc' := 42) (l' := [(0, .inr (.inr 372)), (1, .inl a), (2, .inl b), (3, .inl c), (4, .inr (.inr t)), (5, .inl x5), (6, .inl x6), (7, .inl x7)]) (st' := [.inl x7, .inl a, .inr (.inr 13)]) rfl ?_
          refine h_cv (i := 150) (j := 45) (b := 13) (M' := mt_45) (xs := [.inl x7, .inl a]) (rest := []) rfl rfl rfl rfl (zs_K (x := kx_13) rfl (by decide)) rfl (Nat.le_of_ble_eq_true rfl) (Nat.le_of_ble_eq_true rfl) (by omega) (q_Symbols_argument_13 (by omega) hI1 (by omega) (by omega) (by omega)) ?_
          rintro _ _ ⟨z11, rfl, g5, hx10, rfl⟩
          refine k_run 0 (pc' := 45) (l' := [(0, .inr (.inr 372)), (1, .inl a), (2, .inl b), (3, .inl c), (4, .inr (.inr t)), (5, .inl x5), (6, .inl x6), (7, .inl x7)]) (st' := [.inl z11]) rfl ?_
          have hag : z11 = agC X a.toNat x7.toNat := by rw [hx10, show (4 * a + x7).toNat = 4 * a.toNat + x7.toNat by omega]; exact hc5 x7.toNat (by omega)
          have hag2 : 0 ≤ z11 ∧ z11 < X 0 3 := by rw [hag]; exact ⟨hg1, hg2⟩
          refine k_run 6 (pc' := 55) (l' := [(0, .inr (.inr 372)), (1, .inl a), (2, .inl b), (3, .inl c), (4, .inr (.inr t)), (5, .inl x5), (6, .inl x6), (7, .inl x7), (8, .inl z11), (9, .inl 1)]) (st' := [.inl 1, .inl z11, .inr (.inr 372)]) rfl ?_
          refine h_cv (i := 153) (j := 108) (b := 372) (M' := mt_108) (xs := [.inl 1, .inl z11]) (rest := []) rfl rfl rfl rfl (zs_K (x := kx_372) rfl (by decide)) rfl (Nat.le_of_ble_eq_true rfl) (Nat.le_of_ble_eq_true rfl) (by omega) (qv_valuesOf (by omega) hI1 (by omega) (by decide) (by omega) (by omega)) ?_
          rintro _ _ ⟨z18, rfl, g12, rfl⟩
          refine k_run 0 (pc' := 58) (l' := [(0, .inr (.inr 372)), (1, .inl a), (2, .inl b), (3, .inl c), (4, .inr (.inr t)), (5, .inl x5), (6, .inl x6), (7, .inl x7), (8, .inl z11), (9, .inl 1)]) (st' := [.inl z18]) rfl ?_
          refine k_run 8 (pc' := 69) (l' := [(0, .inr (.inr 372)), (1, .inl a), (2, .inl b), (3, .inl c), (4, .inr (.inr t)), (5, .inl x5), (6, .inl x6), (7, .inl x7), (8, .inl z11), (9, .inl 1)]) (st' := [.inl (x6 - 1), .inl (x7 + 1), .inl a, .inr (.inr 372), .inl z18]) rfl ?_
          refine h_cv (i := 156) (j := 109) (b := 372) (M' := mt_109) (xs := [.inl (x6 - 1), .inl (x7 + 1), .inl a]) (rest := [.inl z18]) rfl rfl rfl rfl (zs_K (x := kx_372) rfl (by decide)) rfl (Nat.le_of_ble_eq_true rfl) (Nat.le_of_ble_eq_true rfl) (by omega) (qv_tuplesOf (by omega) hI1 (by omega) (by omega) (by omega) (by omega) (by omega) (by omega)) ?_
          rintro _ _ ⟨z25, rfl, g19, rfl⟩
          refine k_run 0 (pc' := 72) (l' := [(0, .inr (.inr 372)), (1, .inl a), (2, .inl b), (3, .inl c), (4, .inr (.inr t)), (5, .inl x5), (6, .inl x6), (7, .inl x7), (8, .inl z11), (9, .inl 1)]) (st' := [.inl z25, .inl z18]) rfl ?_
          have hz1 : z18 = (cN X al (agC X a.toNat x7.toNat) (((1 : Int) - 1).toNat + 1) : Int) := by rw [g12.2, KV_v hV1 (by omega) (by omega), hag, show ((1 : Int)).toNat = ((1 : Int) - 1).toNat + 1 by omega]
          have hz2 : z25 = (tN X al a.toNat (x7.toNat + 1) (x6.toNat - (((1 : Int) - 1).toNat + 1)) : Int) := by rw [g19.2, KV_t hV1 (by omega) (by omega) (by omega), show (x7 + 1).toNat = x7.toNat + 1 by omega, show (x6 - ((1 : Int))).toNat = x6.toNat - (((1 : Int) - 1).toNat + 1) by omega]
          have hex := f9_ex (X := X) (al := al) (c := a.toNat) (k := x7.toNat) (n := x6.toNat) (i := ((1 : Int) - 1).toNat) (by omega) (by omega) hpq.2
          have hpr : z18 * z25 = ((f9 X al a.toNat x7.toNat x6.toNat ((1 : Int) - 1).toNat : Nat) : Int) := by rw [hz1, hz2, ← hex.1]; exact (Int.natCast_mul _ _).symm
          refine k_run 2 (pc' := 75) (l' := [(0, .inr (.inr 372)), (1, .inl a), (2, .inl b), (3, .inl c), (4, .inr (.inr t)), (5, .inl x5), (6, .inl x6), (7, .inl x7), (8, .inl z11), (9, .inl 1), (10, .inl (z18 * z25))]) (st' := []) rfl ?_
          rw [hQ9]
          exact ih.2 H1 hI1 hf1 x5 x6 x7 z11 (1 : Int) (z18 * z25) (by omega) (by omega) (by omega) (by omega) (by decide) (by omega) (by omega) (by omega) (by omega) (by omega) (by omega) hag (by omega) hpr (by rw [show ((1 : Int) - 1).toNat = 0 from rfl]; show PA9 X al t l a.toNat b.toNat c.toNat H H1 x7.toNat x6.toNat (0 + x5.toNat); rw [Nat.zero_add]; exact hpa) (by omega)
    · intro H1 hI1 hf1 x5 x6 x7 x8 x9 x10 hx5 hx6 hx7 hx8 hx9 hx10 hi0 hi1 hi2 hi3 hi4 hi5 hi6 hi7 hi8 hw
      have htb := ht.2.2.2.2
      obtain ⟨Q9, hQ9⟩ : ∃ Q9 : Option zv → hp → Prop, Q9 = (fun r9 H9 => r9 = none ∧ Inv H9 ∧ fq [] [] false H H9 ∧ (∃ v9, (tuC (vv X al) X a.toNat 0 b.toNat)[c.toNat]? = some v9 ∧ CM H9 t X (l ++ v9).length (ga (l ++ v9)) ∧ AF t H H9)) := ⟨_, rfl⟩
      rw [← hQ9]
      obtain ⟨hX3, hX4, hXc⟩ := id hX
      obtain ⟨hc1, hc2, hc3⟩ := hXc a.toNat (by omega)
      have haC : (aQ9 X a.toNat : Int) = X 4 a.toNat := by unfold aQ9; omega
      obtain ⟨p, hMp, hAF, hpl, hpq, hpw⟩ := id hi8
      have hT1 : TC H1 X := TC_lo hT (fun c j hc => hAF.2 c j (by omega) (by omega))
      have hV1 : KV H1 X al N := KV_cg hV (fun _ _ _ _ _ => hAF.2 _ _ (by omega) (by omega)) (fun _ _ _ _ _ _ => hAF.2 _ _ (by omega) (by omega))
      obtain ⟨-, -, hc4, hc5⟩ := hT1.2.2.1 a.toNat (by omega)
      have hpl2 : (l ++ p).length = l.length + p.length := List.length_append
      have hpa := hi8
      refine k_run 2 (pc' := 79) (l' := [(0, .inr (.inr 372)), (1, .inl a), (2, .inl b), (3, .inl c), (4, .inr (.inr t)), (5, .inl x5), (6, .inl x6), (7, .inl x7), (8, .inl x8), (9, .inl x9), (10, .inl x10)]) (st' := [.inl x6, .inl x9]) rfl ?_
      refine h_ige (off := 48) (t := 127) rfl rfl (by omega) (by omega) (fun c26 => ?_) (fun c26 => ?_)
      · refine k_run 0 (pc' := 127) (l' := [(0, .inr (.inr 372)), (1, .inl a), (2, .inl b), (3, .inl c), (4, .inr (.inr t)), (5, .inl x5), (6, .inl x6), (7, .inl x7), (8, .inl x8), (9, .inl x9), (10, .inl x10)]) (st' := []) rfl ?_
        have hex := f9_ex (X := X) (al := al) (c := a.toNat) (k := x7.toNat) (n := x6.toNat) (i := (x9 - 1).toNat) (by omega) (by omega) hpq.2
        have hlt : x5.toNat < f9 X al a.toNat x7.toNat x6.toNat (x9 - 1).toNat := by by_cases q9 : x5 < x10; { omega }; { have q8 := hpq.1; rw [tuC_sz (by omega), show x6.toNat = (x9 - 1).toNat + 1 by omega] at q8; have q8 : sumN (f9 X al a.toNat x7.toNat ((x9 - 1).toNat + 1)) (x9 - 1).toNat + x5.toNat < sumN (f9 X al a.toNat x7.toNat ((x9 - 1).toNat + 1)) (x9 - 1).toNat + f9 X al a.toNat x7.toNat ((x9 - 1).toNat + 1) (x9 - 1).toNat := q8; rw [show x6.toNat = (x9 - 1).toNat + 1 by omega]; omega }
        obtain ⟨hx1, hx2⟩ := hex.2.2 (by omega)
        have hR0 : 0 < (tuC (vv X al) X a.toNat (x7.toNat + 1) (x6.toNat - ((x9 - 1).toNat + 1))).length := Nat.pos_of_ne_zero (fun q9 => by unfold f9 at hlt; rw [q9, Nat.mul_zero] at hlt; exact Nat.not_lt_zero _ hlt)
        have hRl : (tuC (vv X al) X a.toNat (x7.toNat + 1) (x6.toNat - ((x9 - 1).toNat + 1))).length ≤ 2000 := by rw [← hx2]; unfold tN; have q9 := cp_le_self (tuC (vv X al) X a.toNat (x7.toNat + 1) (x6.toNat - ((x9 - 1).toNat + 1))).length; have q7 : 1 ≤ (vv X al ((x9 - 1).toNat + 1) (agC X a.toNat x7.toNat)).length := Nat.pos_of_ne_zero (fun q6 => by unfold f9 at hlt; rw [q6, Nat.zero_mul] at hlt; exact Nat.not_lt_zero _ hlt); have q8 := Nat.mul_le_mul_right (tuC (vv X al) X a.toNat (x7.toNat + 1) (x6.toNat - ((x9 - 1).toNat + 1))).length q7; have q5 := hex.2.1; unfold f9 at q5; omega
        have hVl : (vv X al ((x9 - 1).toNat + 1) (agC X a.toNat x7.toNat)).length ≤ 2000 := by have q8 := Nat.mul_le_mul_left (vv X al ((x9 - 1).toNat + 1) (agC X a.toNat x7.toNat)).length hR0; have q5 := hex.2.1; unfold f9 at q5; omega
        refine k_run 8 (pc' := 138) (l' := [(0, .inr (.inr 372)), (1, .inl a), (2, .inl b), (3, .inl c), (4, .inr (.inr t)), (5, .inl x5), (6, .inl x6), (7, .inl x7), (8, .inl x8), (9, .inl x9), (10, .inl x10)]) (st' := [.inl (x6 - x9), .inl (x7 + 1), .inl a, .inr (.inr 372)]) rfl ?_
        refine h_cv (i := 156) (j := 109) (b := 372) (M' := mt_109) (xs := [.inl (x6 - x9), .inl (x7 + 1), .inl a]) (rest := []) rfl rfl rfl rfl (zs_K (x := kx_372) rfl (by decide)) rfl (Nat.le_of_ble_eq_true rfl) (Nat.le_of_ble_eq_true rfl) (by omega) (qv_tuplesOf (by omega) hI1 (by omega) (by omega) (by omega) (by omega) (by omega) (by omega)) ?_
        rintro _ _ ⟨z33, rfl, g27, rfl⟩
        refine k_run 0 (pc' := 141) (l' := [(0, .inr (.inr 372)), (1, .inl a), (2, .inl b), (3, .inl c), (4, .inr (.inr t)), (5, .inl x5), (6, .inl x6), (7, .inl x7), (8, .inl x8), (9, .inl x9), (10, .inl x10)]) (st' := [.inl z33]) rfl ?_
        refine k_run 1 (pc' := 142) (l' := [(0, .inr (.inr 372)), (1, .inl a), (2, .inl b), (3, .inl c), (4, .inr (.inr t)), (5, .inl x5), (6, .inl x6), (7, .inl x7), (8, .inl x8), (9, .inl x9), (10, .inl x10)]) (st' := [.inl 1, .inl z33]) rfl ?_
        refine k_max (i := 70) (x := z33) (y := 1) rfl rfl (Nat.le_of_ble_eq_true rfl) (by omega) (by omega) (by decide) (fun z34 hz34 => ?_)
        refine k_run 0 (pc' := 145) (l' := [(0, .inr (.inr 372)), (1, .inl a), (2, .inl b), (3, .inl c), (4, .inr (.inr t)), (5, .inl x5), (6, .inl x6), (7, .inl x7), (8, .inl x8), (9, .inl x9), (10, .inl x10)]) (st' := [.inl z34]) rfl ?_
        have hrs : z34 = (((tuC (vv X al) X a.toNat (x7.toNat + 1) (x6.toNat - ((x9 - 1).toNat + 1))).length : Nat) : Int) := by have q9 := g27.2; rw [KV_t hV1 (by omega) (by omega) (by omega), show (x7 + 1).toNat = x7.toNat + 1 by omega, show (x6 - x9).toNat = x6.toNat - ((x9 - 1).toNat + 1) by omega, hx2] at q9; omega
        have hzd := z_dr (x := x5) (y := z34) (by omega) (by omega)
        rw [hrs, Int.toNat_natCast] at hzd
        have hdl : x5.toNat / (tuC (vv X al) X a.toNat (x7.toNat + 1) (x6.toNat - ((x9 - 1).toNat + 1))).length < (vv X al ((x9 - 1).toNat + 1) (agC X a.toNat x7.toNat)).length := (Nat.div_lt_iff_lt_mul hR0).mpr hlt
        have hzm : 0 ≤ z_rem x5 z34 ∧ z_rem x5 z34 ≤ 2000 := by rw [hrs, hzd.2]; have q9 := Nat.mod_le x5.toNat (tuC (vv X al) X a.toNat (x7.toNat + 1) (x6.toNat - ((x9 - 1).toNat + 1))).length; omega
        refine k_run 6 (pc' := 156) (l' := [(0, .inr (.inr 372)), (1, .inl a), (2, .inl b), (3, .inl c), (4, .inr (.inr t)), (5, .inl x5), (6, .inl x6), (7, .inl x7), (8, .inl x8), (9, .inl x9), (10, .inl x10), (11, .inl z34)]) (st' := [.inl z34, .inl x5, .inl x9, .inl x8, .inr (.inr 372)]) rfl ?_
        refine h_idiv (x := x5) (y := z34) rfl (by omega) (by omega) (by omega : z34 ≠ 0) ?_
        refine k_run 0 (pc' := 157) (l' := [(0, .inr (.inr 372)), (1, .inl a), (2, .inl b), (3, .inl c), (4, .inr (.inr t)), (5, .inl x5), (6, .inl x6), (7, .inl x7), (8, .inl x8), (9, .inl x9), (10, .inl x10), (11, .inl z34)]) (st' := [.inl (z_div x5 z34), .inl x9, .inl x8, .inr (.inr 372)]) rfl ?_
        refine k_run 1 (pc' := 159) (l' := [(0, .inr (.inr 372)), (1, .inl a), (2, .inl b), (3, .inl c), (4, .inr (.inr t)), (5, .inl x5), (6, .inl x6), (7, .inl x7), (8, .inl x8), (9, .inl x9), (10, .inl x10), (11, .inl z34)]) (st' := [.inr (.inr t), .inl (z_div x5 z34), .inl x9, .inl x8, .inr (.inr 372)]) rfl ?_
        refine h_cv (i := 161) (j := 112) (b := 372) (M' := mt_112) (xs := [.inr (.inr t), .inl (z_div x5 z34), .inl x9, .inl x8]) (rest := []) rfl rfl rfl rfl (zs_K (x := kx_372) rfl (by decide)) rfl (Nat.le_of_ble_eq_true rfl) (Nat.le_of_ble_eq_true rfl) (by omega) (hR (by omega) hI1 (by omega) (by omega) (z_int _) ht (by omega) (by omega) hX hT1 (by have q9 := hAF.2 372 9 (by omega) (by omega); rw [q9]; exact hal) hV1 ht9 hMp (by omega) (by rw [hi5, show x9.toNat = (x9 - 1).toNat + 1 by omega, hrs, hzd.1, Int.toNat_natCast]; exact ⟨Int.natCast_nonneg _, hdl⟩) (by rw [hi5, show x9.toNat = (x9 - 1).toNat + 1 by omega]; exact hVl)) ?_
        rintro _ H36 ⟨rfl, hI37, hq38, hx40⟩
        have hf41 : fq [] [] false H H36 := fq_t hf1 hq38 rfl rfl rfl
        refine k_run 0 (pc' := 162) (l' := [(0, .inr (.inr 372)), (1, .inl a), (2, .inl b), (3, .inl c), (4, .inr (.inr t)), (5, .inl x5), (6, .inl x6), (7, .inl x7), (8, .inl x8), (9, .inl x9), (10, .inl x10), (11, .inl z34)]) (st' := []) rfl ?_
        refine k_run 2 (pc' := 166) (l' := [(0, .inr (.inr 372)), (1, .inl a), (2, .inl b), (3, .inl c), (4, .inr (.inr t)), (5, .inl x5), (6, .inl x6), (7, .inl x7), (8, .inl x8), (9, .inl x9), (10, .inl x10), (11, .inl z34)]) (st' := [.inl z34, .inl x5]) rfl ?_
        refine h_irem (x := x5) (y := z34) rfl (by omega) (by omega) (by omega : z34 ≠ 0) ?_
        refine k_run 0 (pc' := 167) (l' := [(0, .inr (.inr 372)), (1, .inl a), (2, .inl b), (3, .inl c), (4, .inr (.inr t)), (5, .inl x5), (6, .inl x6), (7, .inl x7), (8, .inl x8), (9, .inl x9), (10, .inl x10), (11, .inl z34)]) (st' := [.inl (z_rem x5 z34)]) rfl ?_
        refine k_run 7 (pc' := 9) (l' := [(0, .inr (.inr 372)), (1, .inl a), (2, .inl b), (3, .inl c), (4, .inr (.inr t)), (5, .inl (z_rem x5 z34)), (6, .inl (x6 - x9)), (7, .inl (x7 + 1)), (8, .inl x8), (9, .inl x9), (10, .inl x10), (11, .inl z34)]) (st' := []) rfl ?_
        refine h_loc [0, 1, 2, 3, 4, 5, 6, 7] rfl ?_
        rw [hQ9]
        exact ih.1 H36 hI37 hf41 (z_rem x5 z34) (x6 - x9) (x7 + 1) (z_int _) (by omega) (by omega) (by omega) (by omega) (by omega) (by obtain ⟨v9, v1, v2, v3⟩ := hx40; rw [hi5, show x9.toNat = (x9 - 1).toNat + 1 by omega, hrs, hzd.1, Int.toNat_natCast] at v1; rw [show (x7 + 1).toNat = x7.toNat + 1 by omega, show (x6 - x9).toNat = x6.toNat - ((x9 - 1).toNat + 1) by omega, hrs, hzd.2, Int.toNat_natCast]; exact PA_s v2 hAF v3 hpl hpq hpw (by omega) (by omega) hlt v1) (by omega)
      · refine k_run 0 (pc' := 82) (l' := [(0, .inr (.inr 372)), (1, .inl a), (2, .inl b), (3, .inl c), (4, .inr (.inr t)), (5, .inl x5), (6, .inl x6), (7, .inl x7), (8, .inl x8), (9, .inl x9), (10, .inl x10)]) (st' := []) rfl ?_
        refine k_run 2 (pc' := 86) (l' := [(0, .inr (.inr 372)), (1, .inl a), (2, .inl b), (3, .inl c), (4, .inr (.inr t)), (5, .inl x5), (6, .inl x6), (7, .inl x7), (8, .inl x8), (9, .inl x9), (10, .inl x10)]) (st' := [.inl x10, .inl x5]) rfl ?_
        refine h_ilt (off := 41) (t := 127) rfl rfl (by omega) (by omega) (fun c42 => ?_) (fun c42 => ?_)
        · refine k_run 0 (pc' := 127) (l' := [(0, .inr (.inr 372)), (1, .inl a), (2, .inl b), (3, .inl c), (4, .inr (.inr t)), (5, .inl x5), (6, .inl x6), (7, .inl x7), (8, .inl x8), (9, .inl x9), (10, .inl x10)]) (st' := []) rfl ?_
          have hex := f9_ex (X := X) (al := al) (c := a.toNat) (k := x7.toNat) (n := x6.toNat) (i := (x9 - 1).toNat) (by omega) (by omega) hpq.2
          have hlt : x5.toNat < f9 X al a.toNat x7.toNat x6.toNat (x9 - 1).toNat := by by_cases q9 : x5 < x10; { omega }; { have q8 := hpq.1; rw [tuC_sz (by omega), show x6.toNat = (x9 - 1).toNat + 1 by omega] at q8; have q8 : sumN (f9 X al a.toNat x7.toNat ((x9 - 1).toNat + 1)) (x9 - 1).toNat + x5.toNat < sumN (f9 X al a.toNat x7.toNat ((x9 - 1).toNat + 1)) (x9 - 1).toNat + f9 X al a.toNat x7.toNat ((x9 - 1).toNat + 1) (x9 - 1).toNat := q8; rw [show x6.toNat = (x9 - 1).toNat + 1 by omega]; omega }
          obtain ⟨hx1, hx2⟩ := hex.2.2 (by omega)
          have hR0 : 0 < (tuC (vv X al) X a.toNat (x7.toNat + 1) (x6.toNat - ((x9 - 1).toNat + 1))).length := Nat.pos_of_ne_zero (fun q9 => by unfold f9 at hlt; rw [q9, Nat.mul_zero] at hlt; exact Nat.not_lt_zero _ hlt)
          have hRl : (tuC (vv X al) X a.toNat (x7.toNat + 1) (x6.toNat - ((x9 - 1).toNat + 1))).length ≤ 2000 := by rw [← hx2]; unfold tN; have q9 := cp_le_self (tuC (vv X al) X a.toNat (x7.toNat + 1) (x6.toNat - ((x9 - 1).toNat + 1))).length; have q7 : 1 ≤ (vv X al ((x9 - 1).toNat + 1) (agC X a.toNat x7.toNat)).length := Nat.pos_of_ne_zero (fun q6 => by unfold f9 at hlt; rw [q6, Nat.zero_mul] at hlt; exact Nat.not_lt_zero _ hlt); have q8 := Nat.mul_le_mul_right (tuC (vv X al) X a.toNat (x7.toNat + 1) (x6.toNat - ((x9 - 1).toNat + 1))).length q7; have q5 := hex.2.1; unfold f9 at q5; omega
          have hVl : (vv X al ((x9 - 1).toNat + 1) (agC X a.toNat x7.toNat)).length ≤ 2000 := by have q8 := Nat.mul_le_mul_left (vv X al ((x9 - 1).toNat + 1) (agC X a.toNat x7.toNat)).length hR0; have q5 := hex.2.1; unfold f9 at q5; omega
          refine k_run 8 (pc' := 138) (l' := [(0, .inr (.inr 372)), (1, .inl a), (2, .inl b), (3, .inl c), (4, .inr (.inr t)), (5, .inl x5), (6, .inl x6), (7, .inl x7), (8, .inl x8), (9, .inl x9), (10, .inl x10)]) (st' := [.inl (x6 - x9), .inl (x7 + 1), .inl a, .inr (.inr 372)]) rfl ?_
          refine h_cv (i := 156) (j := 109) (b := 372) (M' := mt_109) (xs := [.inl (x6 - x9), .inl (x7 + 1), .inl a]) (rest := []) rfl rfl rfl rfl (zs_K (x := kx_372) rfl (by decide)) rfl (Nat.le_of_ble_eq_true rfl) (Nat.le_of_ble_eq_true rfl) (by omega) (qv_tuplesOf (by omega) hI1 (by omega) (by omega) (by omega) (by omega) (by omega) (by omega)) ?_
          rintro _ _ ⟨z49, rfl, g43, rfl⟩
          refine k_run 0 (pc' := 141) (l' := [(0, .inr (.inr 372)), (1, .inl a), (2, .inl b), (3, .inl c), (4, .inr (.inr t)), (5, .inl x5), (6, .inl x6), (7, .inl x7), (8, .inl x8), (9, .inl x9), (10, .inl x10)]) (st' := [.inl z49]) rfl ?_
          refine k_run 1 (pc' := 142) (l' := [(0, .inr (.inr 372)), (1, .inl a), (2, .inl b), (3, .inl c), (4, .inr (.inr t)), (5, .inl x5), (6, .inl x6), (7, .inl x7), (8, .inl x8), (9, .inl x9), (10, .inl x10)]) (st' := [.inl 1, .inl z49]) rfl ?_
          refine k_max (i := 70) (x := z49) (y := 1) rfl rfl (Nat.le_of_ble_eq_true rfl) (by omega) (by omega) (by decide) (fun z50 hz50 => ?_)
          refine k_run 0 (pc' := 145) (l' := [(0, .inr (.inr 372)), (1, .inl a), (2, .inl b), (3, .inl c), (4, .inr (.inr t)), (5, .inl x5), (6, .inl x6), (7, .inl x7), (8, .inl x8), (9, .inl x9), (10, .inl x10)]) (st' := [.inl z50]) rfl ?_
          have hrs : z50 = (((tuC (vv X al) X a.toNat (x7.toNat + 1) (x6.toNat - ((x9 - 1).toNat + 1))).length : Nat) : Int) := by have q9 := g43.2; rw [KV_t hV1 (by omega) (by omega) (by omega), show (x7 + 1).toNat = x7.toNat + 1 by omega, show (x6 - x9).toNat = x6.toNat - ((x9 - 1).toNat + 1) by omega, hx2] at q9; omega
          have hzd := z_dr (x := x5) (y := z50) (by omega) (by omega)
          rw [hrs, Int.toNat_natCast] at hzd
          have hdl : x5.toNat / (tuC (vv X al) X a.toNat (x7.toNat + 1) (x6.toNat - ((x9 - 1).toNat + 1))).length < (vv X al ((x9 - 1).toNat + 1) (agC X a.toNat x7.toNat)).length := (Nat.div_lt_iff_lt_mul hR0).mpr hlt
          have hzm : 0 ≤ z_rem x5 z50 ∧ z_rem x5 z50 ≤ 2000 := by rw [hrs, hzd.2]; have q9 := Nat.mod_le x5.toNat (tuC (vv X al) X a.toNat (x7.toNat + 1) (x6.toNat - ((x9 - 1).toNat + 1))).length; omega
          refine k_run 6 (pc' := 156) (l' := [(0, .inr (.inr 372)), (1, .inl a), (2, .inl b), (3, .inl c), (4, .inr (.inr t)), (5, .inl x5), (6, .inl x6), (7, .inl x7), (8, .inl x8), (9, .inl x9), (10, .inl x10), (11, .inl z50)]) (st' := [.inl z50, .inl x5, .inl x9, .inl x8, .inr (.inr 372)]) rfl ?_
          refine h_idiv (x := x5) (y := z50) rfl (by omega) (by omega) (by omega : z50 ≠ 0) ?_
          refine k_run 0 (pc' := 157) (l' := [(0, .inr (.inr 372)), (1, .inl a), (2, .inl b), (3, .inl c), (4, .inr (.inr t)), (5, .inl x5), (6, .inl x6), (7, .inl x7), (8, .inl x8), (9, .inl x9), (10, .inl x10), (11, .inl z50)]) (st' := [.inl (z_div x5 z50), .inl x9, .inl x8, .inr (.inr 372)]) rfl ?_
          refine k_run 1 (pc' := 159) (l' := [(0, .inr (.inr 372)), (1, .inl a), (2, .inl b), (3, .inl c), (4, .inr (.inr t)), (5, .inl x5), (6, .inl x6), (7, .inl x7), (8, .inl x8), (9, .inl x9), (10, .inl x10), (11, .inl z50)]) (st' := [.inr (.inr t), .inl (z_div x5 z50), .inl x9, .inl x8, .inr (.inr 372)]) rfl ?_
          refine h_cv (i := 161) (j := 112) (b := 372) (M' := mt_112) (xs := [.inr (.inr t), .inl (z_div x5 z50), .inl x9, .inl x8]) (rest := []) rfl rfl rfl rfl (zs_K (x := kx_372) rfl (by decide)) rfl (Nat.le_of_ble_eq_true rfl) (Nat.le_of_ble_eq_true rfl) (by omega) (hR (by omega) hI1 (by omega) (by omega) (z_int _) ht (by omega) (by omega) hX hT1 (by have q9 := hAF.2 372 9 (by omega) (by omega); rw [q9]; exact hal) hV1 ht9 hMp (by omega) (by rw [hi5, show x9.toNat = (x9 - 1).toNat + 1 by omega, hrs, hzd.1, Int.toNat_natCast]; exact ⟨Int.natCast_nonneg _, hdl⟩) (by rw [hi5, show x9.toNat = (x9 - 1).toNat + 1 by omega]; exact hVl)) ?_
          rintro _ H52 ⟨rfl, hI53, hq54, hx56⟩
          have hf57 : fq [] [] false H H52 := fq_t hf1 hq54 rfl rfl rfl
          refine k_run 0 (pc' := 162) (l' := [(0, .inr (.inr 372)), (1, .inl a), (2, .inl b), (3, .inl c), (4, .inr (.inr t)), (5, .inl x5), (6, .inl x6), (7, .inl x7), (8, .inl x8), (9, .inl x9), (10, .inl x10), (11, .inl z50)]) (st' := []) rfl ?_
          refine k_run 2 (pc' := 166) (l' := [(0, .inr (.inr 372)), (1, .inl a), (2, .inl b), (3, .inl c), (4, .inr (.inr t)), (5, .inl x5), (6, .inl x6), (7, .inl x7), (8, .inl x8), (9, .inl x9), (10, .inl x10), (11, .inl z50)]) (st' := [.inl z50, .inl x5]) rfl ?_
          refine h_irem (x := x5) (y := z50) rfl (by omega) (by omega) (by omega : z50 ≠ 0) ?_
          refine k_run 0 (pc' := 167) (l' := [(0, .inr (.inr 372)), (1, .inl a), (2, .inl b), (3, .inl c), (4, .inr (.inr t)), (5, .inl x5), (6, .inl x6), (7, .inl x7), (8, .inl x8), (9, .inl x9), (10, .inl x10), (11, .inl z50)]) (st' := [.inl (z_rem x5 z50)]) rfl ?_
          refine k_run 7 (pc' := 9) (l' := [(0, .inr (.inr 372)), (1, .inl a), (2, .inl b), (3, .inl c), (4, .inr (.inr t)), (5, .inl (z_rem x5 z50)), (6, .inl (x6 - x9)), (7, .inl (x7 + 1)), (8, .inl x8), (9, .inl x9), (10, .inl x10), (11, .inl z50)]) (st' := []) rfl ?_
          refine h_loc [0, 1, 2, 3, 4, 5, 6, 7] rfl ?_
          rw [hQ9]
          exact ih.1 H52 hI53 hf57 (z_rem x5 z50) (x6 - x9) (x7 + 1) (z_int _) (by omega) (by omega) (by omega) (by omega) (by omega) (by obtain ⟨v9, v1, v2, v3⟩ := hx56; rw [hi5, show x9.toNat = (x9 - 1).toNat + 1 by omega, hrs, hzd.1, Int.toNat_natCast] at v1; rw [show (x7 + 1).toNat = x7.toNat + 1 by omega, show (x6 - x9).toNat = x6.toNat - ((x9 - 1).toNat + 1) by omega, hrs, hzd.2, Int.toNat_natCast]; exact PA_s v2 hAF v3 hpl hpq hpw (by omega) (by omega) hlt v1) (by omega)
        · refine k_run 0 (pc' := 89) (l' := [(0, .inr (.inr 372)), (1, .inl a), (2, .inl b), (3, .inl c), (4, .inr (.inr t)), (5, .inl x5), (6, .inl x6), (7, .inl x7), (8, .inl x8), (9, .inl x9), (10, .inl x10)]) (st' := []) rfl ?_
          refine k_run 8 (pc' := 104) (l' := [(0, .inr (.inr 372)), (1, .inl a), (2, .inl b), (3, .inl c), (4, .inr (.inr t)), (5, .inl (x5 - x10)), (6, .inl x6), (7, .inl x7), (8, .inl x8), (9, .inl (x9 + 1)), (10, .inl x10)]) (st' := [.inl (x9 + 1), .inl x8, .inr (.inr 372)]) rfl ?_
          refine h_cv (i := 153) (j := 108) (b := 372) (M' := mt_108) (xs := [.inl (x9 + 1), .inl x8]) (rest := []) rfl rfl rfl rfl (zs_K (x := kx_372) rfl (by decide)) rfl (Nat.le_of_ble_eq_true rfl) (Nat.le_of_ble_eq_true rfl) (by omega) (qv_valuesOf (by omega) hI1 (by omega) (by omega) (by omega) (by omega)) ?_
          rintro _ _ ⟨z64, rfl, g58, rfl⟩
          refine k_run 0 (pc' := 107) (l' := [(0, .inr (.inr 372)), (1, .inl a), (2, .inl b), (3, .inl c), (4, .inr (.inr t)), (5, .inl (x5 - x10)), (6, .inl x6), (7, .inl x7), (8, .inl x8), (9, .inl (x9 + 1)), (10, .inl x10)]) (st' := [.inl z64]) rfl ?_
          refine k_run 8 (pc' := 118) (l' := [(0, .inr (.inr 372)), (1, .inl a), (2, .inl b), (3, .inl c), (4, .inr (.inr t)), (5, .inl (x5 - x10)), (6, .inl x6), (7, .inl x7), (8, .inl x8), (9, .inl (x9 + 1)), (10, .inl x10)]) (st' := [.inl (x6 - (x9 + 1)), .inl (x7 + 1), .inl a, .inr (.inr 372), .inl z64]) rfl ?_
          refine h_cv (i := 156) (j := 109) (b := 372) (M' := mt_109) (xs := [.inl (x6 - (x9 + 1)), .inl (x7 + 1), .inl a]) (rest := [.inl z64]) rfl rfl rfl rfl (zs_K (x := kx_372) rfl (by decide)) rfl (Nat.le_of_ble_eq_true rfl) (Nat.le_of_ble_eq_true rfl) (by omega) (qv_tuplesOf (by omega) hI1 (by omega) (by omega) (by omega) (by omega) (by omega) (by omega)) ?_
          rintro _ _ ⟨z71, rfl, g65, rfl⟩
          refine k_run 0 (pc' := 121) (l' := [(0, .inr (.inr 372)), (1, .inl a), (2, .inl b), (3, .inl c), (4, .inr (.inr t)), (5, .inl (x5 - x10)), (6, .inl x6), (7, .inl x7), (8, .inl x8), (9, .inl (x9 + 1)), (10, .inl x10)]) (st' := [.inl z71, .inl z64]) rfl ?_
          have hz1 : z64 = (cN X al (agC X a.toNat x7.toNat) (((x9 + 1) - 1).toNat + 1) : Int) := by rw [g58.2, KV_v hV1 (by omega) (by omega), hi5, show ((x9 + 1)).toNat = ((x9 + 1) - 1).toNat + 1 by omega]
          have hz2 : z71 = (tN X al a.toNat (x7.toNat + 1) (x6.toNat - (((x9 + 1) - 1).toNat + 1)) : Int) := by rw [g65.2, KV_t hV1 (by omega) (by omega) (by omega), show (x7 + 1).toNat = x7.toNat + 1 by omega, show (x6 - ((x9 + 1))).toNat = x6.toNat - (((x9 + 1) - 1).toNat + 1) by omega]
          have hex := f9_ex (X := X) (al := al) (c := a.toNat) (k := x7.toNat) (n := x6.toNat) (i := ((x9 + 1) - 1).toNat) (by omega) (by omega) hpq.2
          have hpr : z64 * z71 = ((f9 X al a.toNat x7.toNat x6.toNat ((x9 + 1) - 1).toNat : Nat) : Int) := by rw [hz1, hz2, ← hex.1]; exact (Int.natCast_mul _ _).symm
          refine k_run 3 (pc' := 75) (l' := [(0, .inr (.inr 372)), (1, .inl a), (2, .inl b), (3, .inl c), (4, .inr (.inr t)), (5, .inl (x5 - x10)), (6, .inl x6), (7, .inl x7), (8, .inl x8), (9, .inl (x9 + 1)), (10, .inl (z64 * z71))]) (st' := []) rfl ?_
          rw [hQ9]
          exact ih.2 H1 hI1 hf1 (x5 - x10) x6 x7 x8 (x9 + 1) (z64 * z71) (by omega) (by omega) (by omega) (by omega) (by omega) (by omega) (by omega) (by omega) (by omega) (by omega) (by omega) hi5 (by omega) (by rw [show (x9 + 1 - 1).toNat = (x9 + 1 - 1).toNat from rfl]; exact hpr) (by rw [show (x9 + 1 - 1).toNat = (x9 - 1).toNat + 1 by omega]; show PA9 X al t l a.toNat b.toNat c.toNat H H1 x7.toNat x6.toNat (sumN (f9 X al a.toNat x7.toNat x6.toNat) (x9 - 1).toNat + f9 X al a.toNat x7.toNat x6.toNat (x9 - 1).toNat + ((x5 - x10)).toNat); rw [show sumN (f9 X al a.toNat x7.toNat x6.toNat) (x9 - 1).toNat + f9 X al a.toNat x7.toNat x6.toNat (x9 - 1).toNat + ((x5 - x10)).toNat = sumN (f9 X al a.toNat x7.toNat x6.toNat) (x9 - 1).toNat + x5.toNat by omega]; exact hpa) (by omega)
set_option maxRecDepth 100000 in
theorem qv_putArguments {m : Nat} {X : rx} {al : Bool} {N : Nat} {l : List Int} {d : Nat} (hd : 2 * m + 7 ≤ d) {H : hp} (hI : Inv H) {a : Int} {b : Int} {c : Int} {t n : Nat} (ha : -2147483648 ≤ a ∧ a ≤ 2147483647) (hb : -2147483648 ≤ b ∧ b ≤ 2147483647) (hc : -2147483648 ≤ c ∧ c ≤ 2147483647) (ht : isT t n) (hp0 : 0 ≤ a ∧ a < X 0 4) (hp1 : 0 ≤ b ∧ b ≤ (m : Int) ∧ b < N ∧ N ≤ 6) (hR : PVx m) (hX : CT9 X) (hT : TC H X) (hal : ((al = false → H.1 372 9 = 0) ∧ (al = true → H.1 372 9 = 1))) (hV : KV H X al N) (ht9 : 382 ≤ t) (hM : CM H t X l.length (ga l)) (hrm : l.length + b.toNat ≤ n) (hc9 : 0 ≤ c ∧ c.toNat < (tuC (vv X al) X a.toNat 0 b.toNat).length) (he9 : (tuC (vv X al) X a.toNat 0 b.toNat).length ≤ 2000) : hG (zs zK) d mt_113 0 (zargs 0 [.inr (.inr 372), .inl a, .inl b, .inl c, .inr (.inr t)]) [] H (fun r9 H9 => r9 = none ∧ Inv H9 ∧ fq [] [] false H H9 ∧ (∃ v9, (tuC (vv X al) X a.toNat 0 b.toNat)[c.toNat]? = some v9 ∧ CM H9 t X (l ++ v9).length (ga (l ++ v9)) ∧ AF t H H9)) := by
  have htb := ht.2.2.2.2
  obtain ⟨hX3, hX4, hXc⟩ := id hX
  obtain ⟨hc1, hc2, hc3⟩ := hXc a.toNat (by omega)
  have haC : (aQ9 X a.toNat : Int) = X 4 a.toNat := by unfold aQ9; omega
  obtain ⟨Q9, hQ9⟩ : ∃ Q9 : Option zv → hp → Prop, Q9 = (fun r9 H9 => r9 = none ∧ Inv H9 ∧ fq [] [] false H H9 ∧ (∃ v9, (tuC (vv X al) X a.toNat 0 b.toNat)[c.toNat]? = some v9 ∧ CM H9 t X (l ++ v9).length (ga (l ++ v9)) ∧ AF t H H9)) := ⟨_, rfl⟩
  rw [← hQ9]
  refine k_run 0 (pc' := 0) (l' := [(0, .inr (.inr 372)), (1, .inl a), (2, .inl b), (3, .inl c), (4, .inr (.inr t))]) (st' := []) rfl ?_
  refine k_run 6 (pc' := 9) (l' := [(0, .inr (.inr 372)), (1, .inl a), (2, .inl b), (3, .inl c), (4, .inr (.inr t)), (5, .inl c), (6, .inl b), (7, .inl 0)]) (st' := []) rfl ?_
  rw [hQ9]
  exact (qv_putArguments_cut hd hI ha hb hc ht hp0 hp1 hR hX hT hal hV ht9 hM hrm hc9 he9 _).1 H hI (fq_rf _ _ _ _) c b (0 : Int) (by omega) (by omega) (by decide) (by omega) (by omega) (by omega) (PA_0 hM hc9.2 he9) (Nat.lt_succ_self _)

/-! Trial.putValue -/
set_option maxRecDepth 100000 in
theorem qv_putValue_cut {m : Nat} {X : rx} {al : Bool} {N : Nat} {l : List Int} {d : Nat} (hd : 2 * m + 6 ≤ d) {H : hp} (hI : Inv H) {a : Int} {b : Int} {c : Int} {t n : Nat} (ha : -2147483648 ≤ a ∧ a ≤ 2147483647) (hb : -2147483648 ≤ b ∧ b ≤ 2147483647) (hc : -2147483648 ≤ c ∧ c ≤ 2147483647) (ht : isT t n) (hp0 : 0 ≤ a ∧ a < X 0 3) (hp1 : 1 ≤ b ∧ b ≤ (m : Int) ∧ b ≤ N ∧ N ≤ 6) (hR : ∀ m1, m1 < m → PVx m1) (hX : CT9 X) (hT : TC H X) (hal : ((al = false → H.1 372 9 = 0) ∧ (al = true → H.1 372 9 = 1))) (hV : KV H X al N) (ht9 : 382 ≤ t) (hM : CM H t X l.length (ga l)) (hrm : l.length + b.toNat ≤ n) (hc9 : 0 ≤ c ∧ c.toNat < (vv X al b.toNat a).length) (he9 : (vv X al b.toNat a).length ≤ 2000) : ∀ w : Nat, (∀ (H1 : hp), Inv H1 → fq [] [] false H H1 → ∀ (x5 : Int) (x6 : Int) , (-2147483648 ≤ x5 ∧ x5 ≤ 2147483647) → (-2147483648 ≤ x6 ∧ x6 ≤ 2147483647) → (0 ≤ x6 ∧ x6 ≤ X 0 4) → (0 ≤ x5 ∧ x5 ≤ c) → (c.toNat = uN al b.toNat + sumN (g9 X al a (b.toNat - 1)) x6.toNat + x5.toNat) → (H1 = H) → (((1000 - x6).toNat) < w) → hG (zs zK) d mt_112 33 [(0, .inr (.inr 372)), (1, .inl a), (2, .inl b), (3, .inl c), (4, .inr (.inr t)), (5, .inl x5), (6, .inl x6)] [] H1 (fun r9 H9 => r9 = none ∧ Inv H9 ∧ fq [] [] false H H9 ∧ (∃ v9, (vv X al b.toNat a)[c.toNat]? = some v9 ∧ CM H9 t X (l ++ v9).length (ga (l ++ v9)) ∧ AF t H H9))) := by
  intro w
  induction w with
  | zero => exact fun _ _ _ _ _ _ _ _ _ _ _ h => absurd h (Nat.not_lt_zero _)
  | succ w ih =>
    intro H1 hI1 hf1 x5 x6 hx5 hx6 hi0 hi1 hi2 hi3 hw
    have htb := ht.2.2.2.2
    obtain ⟨Q9, hQ9⟩ : ∃ Q9 : Option zv → hp → Prop, Q9 = (fun r9 H9 => r9 = none ∧ Inv H9 ∧ fq [] [] false H H9 ∧ (∃ v9, (vv X al b.toNat a)[c.toNat]? = some v9 ∧ CM H9 t X (l ++ v9).length (ga (l ++ v9)) ∧ AF t H H9)) := ⟨_, rfl⟩
    rw [← hQ9]
    obtain ⟨hX3, hX4, hXc⟩ := id hX
    have hT0 := hT.1
    have hM1 := hM.1
    have hb1 : b.toNat = b.toNat - 1 + 1 := by omega
    have hsz := vv_sz (X := X) (al := al) (n := (b.toNat - 1)) (t := a)
    rw [← hb1] at hsz
    have hU : (al = true ∧ b = 1 → uN al b.toNat = 1) ∧ (¬ (al = true ∧ b = 1) → uN al b.toNat = 0) := ⟨fun q9 => if_pos ⟨q9.1, by omega⟩, fun q9 => if_neg (fun q8 => q9 ⟨q8.1, by omega⟩)⟩
    have hUd : uN al b.toNat = (if al = true ∧ b.toNat = 1 then 1 else 0) := rfl
    rw [← hUd] at hsz
    have hsz9 : (vv X al b.toNat a).length = uN al b.toNat + sumN (g9 X al a (b.toNat - 1)) (nC9 X) := hsz
    have hH1 := hi3
    have hT1 : TC H1 X := by rw [hH1]; exact hT
    have hVh : KV H1 X al N := by rw [hH1]; exact hV
    have hMh : CM H1 t X l.length (ga l) := by rw [hH1]; exact hM
    have hT10 := hT1.1
    have hMh1 := hMh.1
    have hnC : X 0 4 = ((nC9 X : Nat) : Int) := by unfold nC9; omega
    refine k_run 5 (pc' := 45) (l' := [(0, .inr (.inr 372)), (1, .inl a), (2, .inl b), (3, .inl c), (4, .inr (.inr t)), (5, .inl x5), (6, .inl x6)]) (st' := [.inl (H1.1 13 4), .inl x6]) rfl ?_
    have g12 : 0 ≤ (H1.1 13 4) ∧ (H1.1 13 4) ≤ 16 := kn (x := kx_13) hI1 rfl 4
    have e13 : (H1.1 13 4) = (H.1 13 4) := (hf1.1 13 4 rfl (by decide) (by decide)).1
    refine h_ige (off := 89) (t := 134) rfl rfl (by omega) (by omega) (fun c14 => ?_) (fun c14 => ?_)
    · refine k_run 0 (pc' := 134) (l' := [(0, .inr (.inr 372)), (1, .inl a), (2, .inl b), (3, .inl c), (4, .inr (.inr t)), (5, .inl x5), (6, .inl x6)]) (st' := []) rfl ?_
      have hcx : x6.toNat < nC9 X ∨ x6.toNat = nC9 X := by unfold nC9; omega
      have hcy : x6.toNat = nC9 X := by omega
      rw [hcy] at hi2
      exfalso
      omega
    · refine k_run 0 (pc' := 48) (l' := [(0, .inr (.inr 372)), (1, .inl a), (2, .inl b), (3, .inl c), (4, .inr (.inr t)), (5, .inl x5), (6, .inl x6)]) (st' := []) rfl ?_
      have hx6 : x6 < X 0 4 := by omega
      obtain ⟨hc1, hc2, hc3⟩ := hXc x6.toNat (by omega)
      obtain ⟨-, hc4, hc6, -⟩ := hT1.2.2.1 x6.toNat (by omega)
      refine k_run 2 (pc' := 50) (l' := [(0, .inr (.inr 372)), (1, .inl a), (2, .inl b), (3, .inl c), (4, .inr (.inr t)), (5, .inl x5), (6, .inl x6)]) (st' := [.inl 1, .inl b]) rfl ?_
      refine h_ilt (off := 84) (t := 134) rfl rfl (by omega) (by decide) (fun c15 => ?_) (fun c15 => ?_)
      · refine k_run 0 (pc' := 134) (l' := [(0, .inr (.inr 372)), (1, .inl a), (2, .inl b), (3, .inl c), (4, .inr (.inr t)), (5, .inl x5), (6, .inl x6)]) (st' := []) rfl ?_
        have hcx : x6.toNat < nC9 X ∨ x6.toNat = nC9 X := by unfold nC9; omega
        have hcy : x6.toNat = nC9 X := by omega
        rw [hcy] at hi2
        exfalso
        omega
      · refine k_run 0 (pc' := 53) (l' := [(0, .inr (.inr 372)), (1, .inl a), (2, .inl b), (3, .inl c), (4, .inr (.inr t)), (5, .inl x5), (6, .inl x6)]) (st' := []) rfl ?_
        refine k_run 5 (pc' := 65) (l' := [(0, .inr (.inr 372)), (1, .inl a), (2, .inl b), (3, .inl c), (4, .inr (.inr t)), (5, .inl x5), (6, .inl x6)]) (st' := [.inl x6, .inr (.inr 15)]) rfl ?_
        refine k_ild (c := 15) (j := (x6).toNat) (i := x6) (x := kx_15) rfl rfl (by decide) rfl (by decide) (by omega) (by omega) ?_
        have g16 : -2 ≤ (H1.1 15 (x6).toNat) ∧ (H1.1 15 (x6).toNat) ≤ 100 := kn (x := kx_15) hI1 rfl (x6).toNat
        have e17 : (H1.1 15 (x6).toNat) = (H.1 15 (x6).toNat) := (hf1.1 15 (x6).toNat rfl (by decide) (fun q => by simp at q)).1
        refine k_run 0 (pc' := 66) (l' := [(0, .inr (.inr 372)), (1, .inl a), (2, .inl b), (3, .inl c), (4, .inr (.inr t)), (5, .inl x5), (6, .inl x6)]) (st' := [.inl (H1.1 15 (x6).toNat)]) rfl ?_
        refine k_run 1 (pc' := 67) (l' := [(0, .inr (.inr 372)), (1, .inl a), (2, .inl b), (3, .inl c), (4, .inr (.inr t)), (5, .inl x5), (6, .inl x6)]) (st' := [.inl a, .inl (H1.1 15 (x6).toNat)]) rfl ?_
        refine h_ine (off := 16) (t := 83) rfl rfl (by omega) (by omega) (fun c18 => ?_) (fun c18 => ?_)
        · refine k_run 0 (pc' := 83) (l' := [(0, .inr (.inr 372)), (1, .inl a), (2, .inl b), (3, .inl c), (4, .inr (.inr t)), (5, .inl x5), (6, .inl x6)]) (st' := []) rfl ?_
          refine k_run 1 (pc' := 84) (l' := [(0, .inr (.inr 372)), (1, .inl a), (2, .inl b), (3, .inl c), (4, .inr (.inr t)), (5, .inl x5), (6, .inl x6)]) (st' := [.inl 0]) rfl ?_
          have hty : X 3 x6.toNat ≠ a := by omega
          have hwy : (0 : Int) = ((g9 X al a (b.toNat - 1) x6.toNat : Nat) : Int) := by rw [show g9 X al a (b.toNat - 1) x6.toNat = 0 from if_neg hty]; rfl
          refine k_run 3 (pc' := 90) (l' := [(0, .inr (.inr 372)), (1, .inl a), (2, .inl b), (3, .inl c), (4, .inr (.inr t)), (5, .inl x5), (6, .inl x6), (7, .inl 0)]) (st' := [.inl 0, .inl x5]) rfl ?_
          refine h_ige (off := 31) (t := 121) rfl rfl (by omega) (by decide) (fun c19 => ?_) (fun c19 => ?_)
          · refine k_run 0 (pc' := 121) (l' := [(0, .inr (.inr 372)), (1, .inl a), (2, .inl b), (3, .inl c), (4, .inr (.inr t)), (5, .inl x5), (6, .inl x6), (7, .inl 0)]) (st' := []) rfl ?_
            refine k_run 6 (pc' := 33) (l' := [(0, .inr (.inr 372)), (1, .inl a), (2, .inl b), (3, .inl c), (4, .inr (.inr t)), (5, .inl (x5 - 0)), (6, .inl (x6 + 1)), (7, .inl 0)]) (st' := []) rfl ?_
            refine h_loc [0, 1, 2, 3, 4, 5, 6] rfl ?_
            rw [hQ9]
            exact ih H1 hI1 hf1 (x5 - 0) (x6 + 1) (by omega) (by omega) (by omega) (by omega) (by rw [show (x6 + 1).toNat = x6.toNat + 1 by omega]; show c.toNat = uN al b.toNat + (sumN (g9 X al a (b.toNat - 1)) x6.toNat + g9 X al a (b.toNat - 1) x6.toNat) + _; omega) hH1 (by omega)
          · refine k_run 0 (pc' := 93) (l' := [(0, .inr (.inr 372)), (1, .inl a), (2, .inl b), (3, .inl c), (4, .inr (.inr t)), (5, .inl x5), (6, .inl x6), (7, .inl 0)]) (st' := []) rfl ?_
            exfalso
            omega
        · refine k_run 0 (pc' := 70) (l' := [(0, .inr (.inr 372)), (1, .inl a), (2, .inl b), (3, .inl c), (4, .inr (.inr t)), (5, .inl x5), (6, .inl x6)]) (st' := []) rfl ?_
          refine k_run 6 (pc' := 77) (l' := [(0, .inr (.inr 372)), (1, .inl a), (2, .inl b), (3, .inl c), (4, .inr (.inr t)), (5, .inl x5), (6, .inl x6)]) (st' := [.inl (b - 1), .inl 0, .inl x6, .inr (.inr 372)]) rfl ?_
          refine h_cv (i := 156) (j := 109) (b := 372) (M' := mt_109) (xs := [.inl (b - 1), .inl 0, .inl x6]) (rest := []) rfl rfl rfl rfl (zs_K (x := kx_372) rfl (by decide)) rfl (Nat.le_of_ble_eq_true rfl) (Nat.le_of_ble_eq_true rfl) (by omega) (qv_tuplesOf (by omega) hI1 (by omega) (by decide) (by omega) (by omega) (by omega) (by omega)) ?_
          rintro _ _ ⟨z26, rfl, g20, rfl⟩
          refine k_run 0 (pc' := 80) (l' := [(0, .inr (.inr 372)), (1, .inl a), (2, .inl b), (3, .inl c), (4, .inr (.inr t)), (5, .inl x5), (6, .inl x6)]) (st' := [.inl z26]) rfl ?_
          refine k_run 1 (pc' := 84) (l' := [(0, .inr (.inr 372)), (1, .inl a), (2, .inl b), (3, .inl c), (4, .inr (.inr t)), (5, .inl x5), (6, .inl x6)]) (st' := [.inl z26]) rfl ?_
          have hty : X 3 x6.toNat = a := by omega
          have hgl : g9 X al a (b.toNat - 1) x6.toNat = (tuC (vv X al) X x6.toNat 0 (b.toNat - 1)).length := if_pos hty
          have hge : g9 X al a (b.toNat - 1) x6.toNat ≤ sumN (g9 X al a (b.toNat - 1)) (nC9 X) := sumN_ge (f := g9 X al a (b.toNat - 1)) (by unfold nC9; omega)
          have hwy : z26 = ((g9 X al a (b.toNat - 1) x6.toNat : Nat) : Int) := by rw [g20.2, hH1, KV_t hV (by omega) (by omega) (by omega), show (b - 1).toNat = (b.toNat - 1) by omega, show (0 : Int).toNat = 0 from rfl, hgl]; show ((cp _ : Nat) : Int) = _; rw [cp_ex (Nat.le_trans (cp_le_self _) (by have q9 : (vv X al b.toNat a).length = uN al b.toNat + sumN (g9 X al a (b.toNat - 1)) (nC9 X) := hsz; omega))]
          refine k_run 3 (pc' := 90) (l' := [(0, .inr (.inr 372)), (1, .inl a), (2, .inl b), (3, .inl c), (4, .inr (.inr t)), (5, .inl x5), (6, .inl x6), (7, .inl z26)]) (st' := [.inl z26, .inl x5]) rfl ?_
          refine h_ige (off := 31) (t := 121) rfl rfl (by omega) (by omega) (fun c27 => ?_) (fun c27 => ?_)
          · refine k_run 0 (pc' := 121) (l' := [(0, .inr (.inr 372)), (1, .inl a), (2, .inl b), (3, .inl c), (4, .inr (.inr t)), (5, .inl x5), (6, .inl x6), (7, .inl z26)]) (st' := []) rfl ?_
            refine k_run 6 (pc' := 33) (l' := [(0, .inr (.inr 372)), (1, .inl a), (2, .inl b), (3, .inl c), (4, .inr (.inr t)), (5, .inl (x5 - z26)), (6, .inl (x6 + 1)), (7, .inl z26)]) (st' := []) rfl ?_
            refine h_loc [0, 1, 2, 3, 4, 5, 6] rfl ?_
            rw [hQ9]
            exact ih H1 hI1 hf1 (x5 - z26) (x6 + 1) (by omega) (by omega) (by omega) (by omega) (by rw [show (x6 + 1).toNat = x6.toNat + 1 by omega]; show c.toNat = uN al b.toNat + (sumN (g9 X al a (b.toNat - 1)) x6.toNat + g9 X al a (b.toNat - 1) x6.toNat) + _; omega) hH1 (by omega)
          · refine k_run 0 (pc' := 93) (l' := [(0, .inr (.inr 372)), (1, .inl a), (2, .inl b), (3, .inl c), (4, .inr (.inr t)), (5, .inl x5), (6, .inl x6), (7, .inl z26)]) (st' := []) rfl ?_
            refine k_run 4 (pc' := 101) (l' := [(0, .inr (.inr 372)), (1, .inl a), (2, .inl b), (3, .inl c), (4, .inr (.inr t)), (5, .inl x5), (6, .inl x6), (7, .inl z26)]) (st' := [.inl x6, .inr (.inr 7), .inr (.inr t)]) rfl ?_
            refine h_cv (i := 165) (j := 38) (b := 7) (M' := mt_38) (xs := [.inl x6]) (rest := [.inr (.inr t)]) rfl rfl rfl rfl (zs_K (x := kx_7) rfl (by decide)) rfl (Nat.le_of_ble_eq_true rfl) (Nat.le_of_ble_eq_true rfl) (by omega) (q_Program_codeOfConstructor (by omega) hI1 (by omega) (by omega)) ?_
            rintro _ _ ⟨z34, rfl, g28, hx33, rfl⟩
            refine k_run 0 (pc' := 104) (l' := [(0, .inr (.inr 372)), (1, .inl a), (2, .inl b), (3, .inl c), (4, .inr (.inr t)), (5, .inl x5), (6, .inl x6), (7, .inl z26)]) (st' := [.inl z34, .inr (.inr t)]) rfl ?_
            have hcode : z34 = kcd X (1 + ((x6.toNat : Nat) : Int)) := by rw [hx33, hc6, kcd_con (by omega), show ((x6.toNat : Nat) : Int) = x6 by omega]
            refine h_cv (i := 125) (j := 52) (b := t) (M' := mt_52) (xs := [.inl z34]) (rest := []) rfl rfl rfl rfl (by rw [zs_K ht.1 (iT0 ht)]; rfl) rfl (Nat.le_of_ble_eq_true rfl) (Nat.le_of_ble_eq_true rfl) (by omega) (q_Term_put (by omega) hI1 ht (by omega) (by omega)) ?_
            rintro _ H36 ⟨rfl, hI37, hq38, hp39, hx40⟩
            have hf41 : fq [] [] false H H36 := fq_t hf1 hq38 rfl rfl rfl
            refine k_run 0 (pc' := 107) (l' := [(0, .inr (.inr 372)), (1, .inl a), (2, .inl b), (3, .inl c), (4, .inr (.inr t)), (5, .inl x5), (6, .inl x6), (7, .inl z26)]) (st' := []) rfl ?_
            obtain ⟨hMq, hAq⟩ := CM_put (s := 1 + ((x6.toNat : Nat) : Int)) hMh hp39 hx40 hcode
            have hT2 : TC H36 X := TC_lo hT1 (fun c j hc => hAq.2 c j (by omega) (by omega))
            have hV2 : KV H36 X al N := KV_cg hVh (fun _ _ _ _ _ => hAq.2 _ _ (by omega) (by omega)) (fun _ _ _ _ _ _ => hAq.2 _ _ (by omega) (by omega))
            have hal2 : (al = false → H36.1 372 9 = 0) ∧ (al = true → H36.1 372 9 = 1) := by have q9 := hAq.2 372 9 (by omega) (by omega); rw [q9, hH1]; exact hal
            have hlq : (l ++ [1 + ((x6.toNat : Nat) : Int)]).length = l.length + 1 := List.length_append
            refine k_run 7 (pc' := 117) (l' := [(0, .inr (.inr 372)), (1, .inl a), (2, .inl b), (3, .inl c), (4, .inr (.inr t)), (5, .inl x5), (6, .inl x6), (7, .inl z26)]) (st' := [.inr (.inr t), .inl x5, .inl (b - 1), .inl x6, .inr (.inr 372)]) rfl ?_
            refine h_cv (i := 168) (j := 113) (b := 372) (M' := mt_113) (xs := [.inr (.inr t), .inl x5, .inl (b - 1), .inl x6]) (rest := []) rfl rfl rfl rfl (zs_K (x := kx_372) rfl (by decide)) rfl (Nat.le_of_ble_eq_true rfl) (Nat.le_of_ble_eq_true rfl) (by omega) (qv_putArguments (by omega) hI37 (by omega) (by omega) (by omega) ht (by omega) (by omega) (hR (m - 1) (by omega)) hX hT2 hal2 hV2 ht9 hMq (by omega) (by rw [show (b - 1).toNat = (b.toNat - 1) by omega]; exact ⟨by omega, by rw [← hgl]; omega⟩) (by rw [show (b - 1).toNat = (b.toNat - 1) by omega, ← hgl]; omega)) ?_
            rintro _ H43 ⟨rfl, hI44, hq45, hx47⟩
            have hf48 : fq [] [] false H H43 := fq_t hf41 hq45 rfl rfl rfl
            refine k_run 0 (pc' := 120) (l' := [(0, .inr (.inr 372)), (1, .inl a), (2, .inl b), (3, .inl c), (4, .inr (.inr t)), (5, .inl x5), (6, .inl x6), (7, .inl z26)]) (st' := []) rfl ?_
            refine h_ret rfl rfl ?_
            rw [hQ9]
            exact ⟨rfl, hI44, hf48, (by first | (exfalso; omega) | exact (by obtain ⟨v9, v1, v2, v3⟩ := hx47; rw [show (b - 1).toNat = (b.toNat - 1) by omega] at v1; refine ⟨(1 + ((x6.toNat : Nat) : Int)) :: v9, ?_, by rw [← List.singleton_append, ← List.append_assoc]; exact v2, AF_tr (by rw [← hH1]; exact hAq) v3⟩; have q9 := vv_at (X := X) (al := al) (n := (b.toNat - 1)) (c := x6.toNat) (by unfold nC9; omega) hty v1; rw [← hb1, ← hUd] at q9; have q8 : (vv X al b.toNat a)[uN al b.toNat + sumN (g9 X al a (b.toNat - 1)) x6.toNat + x5.toNat]? = _ := q9; rw [← hi2] at q8; exact q8))⟩
set_option maxRecDepth 100000 in
theorem qv_putValue {m : Nat} {X : rx} {al : Bool} {N : Nat} {l : List Int} {d : Nat} (hd : 2 * m + 6 ≤ d) {H : hp} (hI : Inv H) {a : Int} {b : Int} {c : Int} {t n : Nat} (ha : -2147483648 ≤ a ∧ a ≤ 2147483647) (hb : -2147483648 ≤ b ∧ b ≤ 2147483647) (hc : -2147483648 ≤ c ∧ c ≤ 2147483647) (ht : isT t n) (hp0 : 0 ≤ a ∧ a < X 0 3) (hp1 : 1 ≤ b ∧ b ≤ (m : Int) ∧ b ≤ N ∧ N ≤ 6) (hR : ∀ m1, m1 < m → PVx m1) (hX : CT9 X) (hT : TC H X) (hal : ((al = false → H.1 372 9 = 0) ∧ (al = true → H.1 372 9 = 1))) (hV : KV H X al N) (ht9 : 382 ≤ t) (hM : CM H t X l.length (ga l)) (hrm : l.length + b.toNat ≤ n) (hc9 : 0 ≤ c ∧ c.toNat < (vv X al b.toNat a).length) (he9 : (vv X al b.toNat a).length ≤ 2000) : hG (zs zK) d mt_112 0 (zargs 0 [.inr (.inr 372), .inl a, .inl b, .inl c, .inr (.inr t)]) [] H (fun r9 H9 => r9 = none ∧ Inv H9 ∧ fq [] [] false H H9 ∧ (∃ v9, (vv X al b.toNat a)[c.toNat]? = some v9 ∧ CM H9 t X (l ++ v9).length (ga (l ++ v9)) ∧ AF t H H9)) := by
  have htb := ht.2.2.2.2
  obtain ⟨hX3, hX4, hXc⟩ := id hX
  have hT0 := hT.1
  have hM1 := hM.1
  have hb1 : b.toNat = b.toNat - 1 + 1 := by omega
  have hsz := vv_sz (X := X) (al := al) (n := (b.toNat - 1)) (t := a)
  rw [← hb1] at hsz
  have hU : (al = true ∧ b = 1 → uN al b.toNat = 1) ∧ (¬ (al = true ∧ b = 1) → uN al b.toNat = 0) := ⟨fun q9 => if_pos ⟨q9.1, by omega⟩, fun q9 => if_neg (fun q8 => q9 ⟨q8.1, by omega⟩)⟩
  have hUd : uN al b.toNat = (if al = true ∧ b.toNat = 1 then 1 else 0) := rfl
  rw [← hUd] at hsz
  have hsz9 : (vv X al b.toNat a).length = uN al b.toNat + sumN (g9 X al a (b.toNat - 1)) (nC9 X) := hsz
  obtain ⟨Q9, hQ9⟩ : ∃ Q9 : Option zv → hp → Prop, Q9 = (fun r9 H9 => r9 = none ∧ Inv H9 ∧ fq [] [] false H H9 ∧ (∃ v9, (vv X al b.toNat a)[c.toNat]? = some v9 ∧ CM H9 t X (l ++ v9).length (ga (l ++ v9)) ∧ AF t H H9)) := ⟨_, rfl⟩
  rw [← hQ9]
  refine k_run 0 (pc' := 0) (l' := [(0, .inr (.inr 372)), (1, .inl a), (2, .inl b), (3, .inl c), (4, .inr (.inr t))]) (st' := []) rfl ?_
  refine k_run 4 (pc' := 7) (l' := [(0, .inr (.inr 372)), (1, .inl a), (2, .inl b), (3, .inl c), (4, .inr (.inr t)), (5, .inl c)]) (st' := [.inl (H.1 372 9)]) rfl ?_
  have g1 : 0 ≤ (H.1 372 9) ∧ (H.1 372 9) ≤ 1 := kn (x := kx_372) hI rfl 9
  refine h_zeq (off := 23) (t := 30) rfl rfl (by omega) (fun c2 => ?_) (fun c2 => ?_)
  · refine k_run 0 (pc' := 30) (l' := [(0, .inr (.inr 372)), (1, .inl a), (2, .inl b), (3, .inl c), (4, .inr (.inr t)), (5, .inl c)]) (st' := []) rfl ?_
    refine k_run 2 (pc' := 33) (l' := [(0, .inr (.inr 372)), (1, .inl a), (2, .inl b), (3, .inl c), (4, .inr (.inr t)), (5, .inl c), (6, .inl 0)]) (st' := []) rfl ?_
    rw [hQ9]
    exact (qv_putValue_cut hd hI ha hb hc ht hp0 hp1 hR hX hT hal hV ht9 hM hrm hc9 he9 _) H hI (fq_rf _ _ _ _) c (0 : Int) (by omega) (by decide) (by omega) (by omega) (by have q9 : uN al b.toNat + c = c := (by cases al; { have q8 := hal.1 rfl; have q7 := hU.2 (fun q6 => absurd q6.1 (by decide)); omega }; { have q8 := hal.2 rfl; by_cases q6 : b = 1; { have q7 := hU.1 ⟨rfl, q6⟩; omega }; { have q7 := hU.2 (fun q5 => q6 q5.2); omega } }); show c.toNat = uN al b.toNat + 0 + _; omega) rfl (Nat.lt_succ_self _)
  · refine k_run 0 (pc' := 10) (l' := [(0, .inr (.inr 372)), (1, .inl a), (2, .inl b), (3, .inl c), (4, .inr (.inr t)), (5, .inl c)]) (st' := []) rfl ?_
    refine k_run 2 (pc' := 12) (l' := [(0, .inr (.inr 372)), (1, .inl a), (2, .inl b), (3, .inl c), (4, .inr (.inr t)), (5, .inl c)]) (st' := [.inl 1, .inl b]) rfl ?_
    refine h_ine (off := 18) (t := 30) rfl rfl (by omega) (by decide) (fun c3 => ?_) (fun c3 => ?_)
    · refine k_run 0 (pc' := 30) (l' := [(0, .inr (.inr 372)), (1, .inl a), (2, .inl b), (3, .inl c), (4, .inr (.inr t)), (5, .inl c)]) (st' := []) rfl ?_
      refine k_run 2 (pc' := 33) (l' := [(0, .inr (.inr 372)), (1, .inl a), (2, .inl b), (3, .inl c), (4, .inr (.inr t)), (5, .inl c), (6, .inl 0)]) (st' := []) rfl ?_
      rw [hQ9]
      exact (qv_putValue_cut hd hI ha hb hc ht hp0 hp1 hR hX hT hal hV ht9 hM hrm hc9 he9 _) H hI (fq_rf _ _ _ _) c (0 : Int) (by omega) (by decide) (by omega) (by omega) (by have q9 : uN al b.toNat + c = c := (by cases al; { have q8 := hal.1 rfl; have q7 := hU.2 (fun q6 => absurd q6.1 (by decide)); omega }; { have q8 := hal.2 rfl; by_cases q6 : b = 1; { have q7 := hU.1 ⟨rfl, q6⟩; omega }; { have q7 := hU.2 (fun q5 => q6 q5.2); omega } }); show c.toNat = uN al b.toNat + 0 + _; omega) rfl (Nat.lt_succ_self _)
    · refine k_run 0 (pc' := 15) (l' := [(0, .inr (.inr 372)), (1, .inl a), (2, .inl b), (3, .inl c), (4, .inr (.inr t)), (5, .inl c)]) (st' := []) rfl ?_
      refine k_run 1 (pc' := 17) (l' := [(0, .inr (.inr 372)), (1, .inl a), (2, .inl b), (3, .inl c), (4, .inr (.inr t)), (5, .inl c)]) (st' := [.inl c]) rfl ?_
      refine h_zne (off := 10) (t := 27) rfl rfl (by omega) (fun c4 => ?_) (fun c4 => ?_)
      · refine k_run 0 (pc' := 27) (l' := [(0, .inr (.inr 372)), (1, .inl a), (2, .inl b), (3, .inl c), (4, .inr (.inr t)), (5, .inl c)]) (st' := []) rfl ?_
        refine k_run 3 (pc' := 33) (l' := [(0, .inr (.inr 372)), (1, .inl a), (2, .inl b), (3, .inl c), (4, .inr (.inr t)), (5, .inl (c + (-1))), (6, .inl 0)]) (st' := []) rfl ?_
        rw [hQ9]
        exact (qv_putValue_cut hd hI ha hb hc ht hp0 hp1 hR hX hT hal hV ht9 hM hrm hc9 he9 _) H hI (fq_rf _ _ _ _) (c + (-1)) (0 : Int) (by omega) (by decide) (by omega) (by omega) (by have q9 : uN al b.toNat + (c + (-1)) = c := (by cases al; { have q8 := hal.1 rfl; have q7 := hU.2 (fun q6 => absurd q6.1 (by decide)); omega }; { have q8 := hal.2 rfl; by_cases q6 : b = 1; { have q7 := hU.1 ⟨rfl, q6⟩; omega }; { have q7 := hU.2 (fun q5 => q6 q5.2); omega } }); show c.toNat = uN al b.toNat + 0 + _; omega) rfl (Nat.lt_succ_self _)
      · refine k_run 0 (pc' := 20) (l' := [(0, .inr (.inr 372)), (1, .inl a), (2, .inl b), (3, .inl c), (4, .inr (.inr t)), (5, .inl c)]) (st' := []) rfl ?_
        refine k_run 2 (pc' := 23) (l' := [(0, .inr (.inr 372)), (1, .inl a), (2, .inl b), (3, .inl c), (4, .inr (.inr t)), (5, .inl c)]) (st' := [.inl 0, .inr (.inr t)]) rfl ?_
        refine h_cv (i := 125) (j := 52) (b := t) (M' := mt_52) (xs := [.inl 0]) (rest := []) rfl rfl rfl rfl (by rw [zs_K ht.1 (iT0 ht)]; rfl) rfl (Nat.le_of_ble_eq_true rfl) (Nat.le_of_ble_eq_true rfl) (by omega) (q_Term_put (by omega) hI ht (by decide) (by omega)) ?_
        rintro _ H6 ⟨rfl, hI7, hq8, hp9, hx10⟩
        have hf11 : fq [] [] false H H6 := fq_t (fq_rf _ _ _ _) hq8 rfl rfl rfl
        refine k_run 0 (pc' := 26) (l' := [(0, .inr (.inr 372)), (1, .inl a), (2, .inl b), (3, .inl c), (4, .inr (.inr t)), (5, .inl c)]) (st' := []) rfl ?_
        refine h_ret rfl rfl ?_
        rw [hQ9]
        exact ⟨rfl, hI7, hf11, (by first | (exfalso; omega) | exact (by obtain ⟨hMq, hAq⟩ := CM_put (s := 0) hM hp9 hx10 rfl; have q7 : al = true := (by cases al; { have q9 := hal.1 rfl; exfalso; omega }; { rfl }); have q9 := vv_at0 (X := X) (al := al) (n := (b.toNat - 1)) (t := a) ⟨q7, by omega⟩; rw [← hb1] at q9; exact ⟨[0], by rw [show c.toNat = 0 by omega]; exact q9, hMq, hAq⟩))⟩

theorem qv_PV : ∀ m, PVx m := by
  intro m
  induction m using Nat.strongRecOn with
  | ind m hR =>
    have h4 : PVx m := fun hd _ hI _ _ _ _ _ ha hb hc ht hp hq h1 h2 h3 h4 h5 h6 h7 h8 h9 => qv_putValue hd hI ha hb hc ht hp hq hR h1 h2 h3 h4 h5 h6 h7 h8 h9
    exact @h4
theorem qv_Trial_putValue {X : rx} {al : Bool} {N : Nat} {l : List Int} {d : Nat} (hd : 18 ≤ d) {H : hp} (hI : Inv H) {a b c : Int} {t n : Nat} (ha : -2147483648 ≤ a ∧ a ≤ 2147483647) (hb : -2147483648 ≤ b ∧ b ≤ 2147483647) (hc : -2147483648 ≤ c ∧ c ≤ 2147483647) (ht : isT t n) (hp0 : 0 ≤ a ∧ a < X 0 3) (hp1 : 1 ≤ b ∧ b ≤ N ∧ N ≤ 6) (hX : CT9 X) (hT : TC H X) (hal : ((al = false → H.1 372 9 = 0) ∧ (al = true → H.1 372 9 = 1))) (hV : KV H X al N) (ht9 : 382 ≤ t) (hM : CM H t X l.length (ga l)) (hrm : l.length + b.toNat ≤ n) (hc9 : 0 ≤ c ∧ c.toNat < (vv X al b.toNat a).length) (he9 : (vv X al b.toNat a).length ≤ 2000) : hG (zs zK) d mt_112 0 (zargs 0 [.inr (.inr 372), .inl a, .inl b, .inl c, .inr (.inr t)]) [] H (fun r9 H9 => r9 = none ∧ Inv H9 ∧ fq [] [] false H H9 ∧ (∃ v9, (vv X al b.toNat a)[c.toNat]? = some v9 ∧ CM H9 t X (l ++ v9).length (ga (l ++ v9)) ∧ AF t H H9)) := qv_PV 6 (by omega) hI ha hb hc ht hp0 (by omega) hX hT hal hV ht9 hM hrm hc9 he9
