/-! the reference counts values, told exactly -/
/-- the tables of types and constructors are the machine's -/
def RT9 (H : hp) (X : rx) : Prop := (X 0 3 = (H.1 1826 1) ∧ X 0 4 = (H.1 1826 3)) ∧ ∀ c : Nat, (c : Int) < (H.1 1826 3) → X 3 c = (H.1 1829) c ∧ X 4 c = (H.1 1830) c ∧ ∀ k : Nat, (k : Int) < (H.1 1830) c → X 5 (4 * c + k) = (H.1 1831) (3 * c + k)
theorem RT_fr {H K : hp} {X : rx} {ob ar : List Nat} (h : RT9 H X) (f : fr ob ar H K) (h1 : ∀ c ∈ [1829, 1830, 1831], c ∉ ar) (h2 : ∀ j ∈ [1, 3], j ∉ ob) : RT9 K X := by
  unfold RT9
  rw [f.2.2 1 (h2 _ (by decide)), f.2.2 3 (h2 _ (by decide)), f.2.1 1829 (by decide) (h1 _ (by decide)), f.2.1 1830 (by decide) (h1 _ (by decide)), f.2.1 1831 (by decide) (h1 _ (by decide))]
  exact h
def AX (am : Nat → Int) (X : rx) (al : Bool) (n t : Nat) : Prop := ∀ u k : Nat, (u : Int) < X 0 3 → 1 ≤ k → k < n ∨ (k = n ∧ u < t) → am (8 * u + k) = ((bq (vv X al k (u : Int)).length : Nat) : Int)
theorem AX_at {am : Nat → Int} {X : rx} {al : Bool} {n t : Nat} (h : AX am X al n t) {g : Int} {k j : Nat} (hg : 0 ≤ g ∧ g < X 0 3) (hk : 1 ≤ k ∧ k < n) (hj : j = (8 * g + (k : Int)).toNat) : am j = ((bq (vv X al k g).length : Nat) : Int) := by
  have h1 := h g.toNat k (by omega) hk.1 (Or.inl hk.2)
  rw [show ((g.toNat : Nat) : Int) = g by omega] at h1
  rw [hj, show (8 * g + (k : Int)).toNat = 8 * g.toNat + k by omega]
  exact h1
def bdF (v r : Int) : Prop := (v ≤ 1000000 → r = v) ∧ (1000000 < v → r = 1000000)
theorem bd_n {x : Nat} {v r : Int} (hv : v = (x : Int)) (h : bdF v r) : r = ((bq x : Nat) : Int) := by
  unfold bdF at h
  unfold bq
  split <;> omega
theorem bd_q {x : Nat} {v r : Int} (h0 : 0 ≤ v) (hv : bq v.toNat = bq x) (h : bdF v r) : r = ((bq x : Nat) : Int) := by
  rw [← hv]
  exact bd_n (by omega) h
theorem ca_in {S A B Z : Nat} {sm x y z b r : Int} (h0 : 0 ≤ sm) (hs : bq sm.toNat = bq S) (hx : x = ((bq A : Nat) : Int)) (hy : y = ((bq B : Nat) : Int)) (hb : bdF (x * y) b) (hz : z = ((bq Z : Nat) : Int)) (hr : bdF (sm + b * z) r) : bq r.toNat = bq (S + A * (B * Z)) := by
  have e1 : x * y = ((bq A * bq B : Nat) : Int) := by rw [hx, hy]; exact (Int.natCast_mul _ _).symm
  have e2 : b = ((bq (A * B) : Nat) : Int) := by
    rw [← bq_mul A B]
    exact bd_n e1 hb
  have e3 : b * z = ((bq (A * B) * bq Z : Nat) : Int) := by rw [e2, hz]; exact (Int.natCast_mul _ _).symm
  have e4 : r = ((bq (sm.toNat + bq (A * B) * bq Z) : Nat) : Int) := bd_n (by rw [e3]; omega) hr
  rw [e4, Int.toNat_natCast, bq_bq, ← Nat.mul_assoc]
  exact bq_add hs (bq_mul _ _)
theorem mul_rg {x y : Int} (hx : 0 ≤ x ∧ x ≤ 1000000) (hy : 0 ≤ y ∧ y ≤ 1000000) : 0 ≤ x * y ∧ x * y ≤ 1000000000000 := ⟨(mulb hx hy).1, (mulb hx hy).2.1⟩
theorem tuC_q2 {X : rx} {al : Bool} {c m : Nat} (h : aQ9 X c = 3) : (tuC (vv X al) X c 2 m).length = if m = 0 then 0 else (vv X al m (agC X c 2)).length := by
  rw [tuC_sz (by omega)]
  cases m with
  | zero => rfl
  | succ m =>
    rw [if_neg (by omega)]
    show sumN (f9 X al c 2 (m + 1)) m + f9 X al c 2 (m + 1) m = _
    have e : sumN (f9 X al c 2 (m + 1)) m = 0 := by
      have : ∀ k, k ≤ m → sumN (f9 X al c 2 (m + 1)) k = 0 := by
        intro k
        induction k with
        | zero => exact fun _ => rfl
        | succ k ih =>
          intro hk
          show sumN (f9 X al c 2 (m + 1)) k + f9 X al c 2 (m + 1) k = 0
          rw [ih (by omega)]
          unfold f9
          have e2 := tuC_sz0 (X := X) (al := al) (c := c) (n := m + 1 - (k + 1))
          rw [h] at e2
          rw [e2, if_neg (by omega), Nat.mul_zero]
      exact this m (Nat.le_refl _)
    rw [e]
    unfold f9
    have e2 := tuC_sz0 (X := X) (al := al) (c := c) (n := m + 1 - (m + 1))
    rw [h] at e2
    rw [e2, if_pos (by omega), Nat.mul_one, Nat.zero_add]
theorem tuC_qe {X : rx} {al : Bool} {c k m : Nat} (h : aQ9 X c = k) : (tuC (vv X al) X c k m).length = if m = 0 then 1 else 0 := by
  subst h
  exact tuC_sz0
theorem bq_01 {x : Nat} (h : x ≤ 1000000) : bq x = x := if_pos h
theorem sumN_p {f : Nat → Nat} {i : Nat} (h : 1 ≤ i) : sumN f i = sumN f (i - 1) + f (i - 1) := by
  obtain ⟨j, rfl⟩ : ∃ j, i = j + 1 := ⟨i - 1, by omega⟩
  rfl

/-! bounded -/
set_option maxRecDepth 100000 in
theorem n_bounded {zC : Nat → Option zsh} {d : Nat} (hd : 2 ≤ d) {H : hp} {v : Int} (hv : 0 ≤ v ∧ v ≤ 2000000000000) : hG (zs zC) d mt_208 0 (zargs 0 [.inr (.inl v)]) [] H (fun r9 H2 => (∃ r : Int, r9 = some (.inr (.inl r)) ∧ (0 ≤ r ∧ r ≤ 1000000) ∧ bdF v r) ∧ H = H2) := by
  refine h_rng (fun hrg0 => ?_)
  refine h_run 0 (pc' := 0) (l' := [(0, .inr (.inl v))]) (st' := []) rfl ?_
  refine h_run 1 (pc' := 1) (l' := [(0, .inr (.inl v))]) (st' := [.inr (.inl v)]) rfl ?_
  refine h_ldc2 (i := 483) (z := 1000000) rfl rfl rfl ?_
  refine h_run 0 (pc' := 4) (l' := [(0, .inr (.inl v))]) (st' := [.inr (.inl 1000000), .inr (.inl v)]) rfl ?_
  refine h_run 1 (pc' := 5) (l' := [(0, .inr (.inl v))]) (st' := [.inl (z_cmp v 1000000)]) rfl ?_
  have hcm := z_cm (x := v) (y := 1000000) (by omega) (by decide)
  refine h_zle (off := 9) (t := 14) rfl rfl (z_int _) (fun c1 => ?_) (fun c1 => ?_)
  · refine h_run 1 (pc' := 15) (l' := [(0, .inr (.inl v))]) (st' := [.inr (.inl v)]) rfl ?_
    refine h_retl (x := v) rfl rfl ?_
    exact ⟨⟨_, rfl, by omega, by unfold bdF; omega⟩, rfl⟩
  · refine h_ldc2 (i := 483) (z := 1000000) rfl rfl rfl ?_
    refine h_run 0 (pc' := 11) (l' := [(0, .inr (.inl v))]) (st' := [.inr (.inl 1000000)]) rfl ?_
    refine h_run 1 (pc' := 15) (l' := [(0, .inr (.inl v))]) (st' := [.inr (.inl 1000000)]) rfl ?_
    refine h_retl (x := 1000000) rfl rfl ?_
    exact ⟨⟨_, rfl, by omega, by unfold bdF; omega⟩, rfl⟩

/-! conAmount -/
set_option maxRecDepth 100000 in
theorem n_conAmount_cut {zC : Nat → Option zsh} {d : Nat} (hd : 4 ≤ d) {H : hp} {X : rx} {al : Bool} {c n : Nat} (hP : PWc H) (hX : RT9 H X) (hc : (c : Int) < (H.1 1826 3)) (hn : 1 ≤ n ∧ n ≤ 6) (hAX : AX (H.1 1864) X al n 0) : ∀ w : Nat, (∀ (sm : Int) (i : Nat), ((H.1 1830) c ≠ 0) → (1 ≤ i ∧ i ≤ n) → (0 ≤ sm ∧ sm ≤ 1000000 * i) → (bq sm.toNat = bq (sumN (f9 X al c 0 (n - 1)) (i - 1))) → 1000 - 100 * i < w → hG (zs zC) d mt_210 28 [(0, .inr (.inr 1826)), (1, .inl (c : Int)), (2, .inl (n : Int)), (3, .inl (H.1 1830 c)), (4, .inr (.inl sm)), (6, .inl (i : Int))] [] H (fun r9 H2 => (∃ r : Int, r9 = some (.inr (.inl r)) ∧ r = ((bq (tuC (vv X al) X c 0 (n - 1)).length : Nat) : Int)) ∧ H = H2)) ∧ (∀ (sm : Int) (i : Nat) (j : Nat), ((H.1 1830) c ≠ 0) → (1 ≤ i ∧ i < n) → (1 ≤ j ∧ i + j ≤ n) → (0 ≤ sm ∧ sm ≤ 1000000 * (i + 1)) → (((H.1 1830) c = 1 → bq sm.toNat = bq (sumN (f9 X al c 0 (n - 1)) i)) ∧ (2 ≤ (H.1 1830) c → bq sm.toNat = bq (sumN (f9 X al c 0 (n - 1)) (i - 1) + (vv X al i (agC X c 0)).length * sumN (f9 X al c 1 (n - 1 - i)) (j - 1)))) → 1000 - 100 * i - j < w → hG (zs zC) d mt_210 82 [(0, .inr (.inr 1826)), (1, .inl (c : Int)), (2, .inl (n : Int)), (3, .inl (H.1 1830 c)), (4, .inr (.inl sm)), (6, .inl (i : Int)), (7, .inr (.inl (H.1 1864 (((8 * (H.1 1831 (3 * c))) + (i : Int))).toNat))), (9, .inl (j : Int))] [] H (fun r9 H2 => (∃ r : Int, r9 = some (.inr (.inl r)) ∧ r = ((bq (tuC (vv X al) X c 0 (n - 1)).length : Nat) : Int)) ∧ H = H2)) := by
  intro w
  induction w with
  | zero => exact ⟨fun _ _ _ _ _ _ h => absurd h (Nat.not_lt_zero _), fun _ _ _ _ _ _ _ _ h => absurd h (Nat.not_lt_zero _)⟩
  | succ w ih =>
    refine ⟨?_, ?_⟩
    · intro sm i har hi hsm hin hw
      refine h_rng (fun hrg1 => ?_)
      obtain ⟨⟨pb1, pb2, pb3, pb4, pb5⟩, pw1, pw2, pw3, pw4⟩ := (id hP : PW H (H.1 1826 1) (H.1 1826 3) (H.1 1826 8) (H.1 1826 13) (H.1 1826 19))
      obtain ⟨hca, hct, hcg⟩ := pw1 c (by omega)
      obtain ⟨⟨xr3, xr4⟩, xrc⟩ := id hX
      obtain ⟨xc3, xc4, xc5⟩ := xrc c (by omega)
      have haq : (aQ9 X c : Int) = (H.1 1830) c := by unfold aQ9; omega
      have hg0 : 0 ≤ (H.1 1831) (3 * c) ∧ (H.1 1831) (3 * c) < (H.1 1826 1) := hcg 0 (by omega)
      have ha0 : agC X c 0 = (H.1 1831) (3 * c) := xc5 0 (by omega)
      refine h_run 2 (pc' := 31) (l' := [(0, .inr (.inr 1826)), (1, .inl (c : Int)), (2, .inl (n : Int)), (3, .inl (H.1 1830 c)), (4, .inr (.inl sm)), (6, .inl (i : Int))]) (st' := [.inl (n : Int), .inl (i : Int)]) rfl ?_
      refine h_ige (off := 180) (t := 211) rfl rfl (by omega) (by omega) (fun c2 => ?_) (fun c2 => ?_)
      · refine h_run 1 (pc' := 213) (l' := [(0, .inr (.inr 1826)), (1, .inl (c : Int)), (2, .inl (n : Int)), (3, .inl (H.1 1830 c)), (4, .inr (.inl sm)), (6, .inl (i : Int))]) (st' := [.inr (.inl sm)]) rfl ?_
        refine h_cs (i := 489) (j := 208) (M' := mt_208) (xs := [.inr (.inl sm)]) (rest := []) rfl rfl rfl rfl rfl (Nat.le_of_ble_eq_true rfl) (Nat.le_of_ble_eq_true rfl) (by omega) (n_bounded (by omega) (by omega)) ?_
        rintro _ _ ⟨⟨b3, rfl, b3r, b3p⟩, rfl⟩
        refine h_run 0 (pc' := 216) (l' := [(0, .inr (.inr 1826)), (1, .inl (c : Int)), (2, .inl (n : Int)), (3, .inl (H.1 1830 c)), (4, .inr (.inl sm)), (6, .inl (i : Int))]) (st' := [.inr (.inl b3)]) rfl ?_
        refine h_retl (x := b3) rfl rfl ?_
        exact ⟨⟨_, rfl, by rw [tuC_sz (by omega), show n - 1 = i - 1 by omega]; rw [show n - 1 = i - 1 by omega] at hin; exact bd_q (by omega) hin b3p⟩, rfl⟩
      · refine h_run 8 (pc' := 47) (l' := [(0, .inr (.inr 1826)), (1, .inl (c : Int)), (2, .inl (n : Int)), (3, .inl (H.1 1830 c)), (4, .inr (.inl sm)), (6, .inl (i : Int))]) (st' := [.inl (3 * (c : Int)), .inr (.inr 1831), .inl 8, .inr (.inr 1864)]) rfl ?_
        refine h_ild (c := 1831) (j := (3 * c)) (i := (3 * (c : Int))) rfl rfl (by decide) (by omega) (by omega) ?_
        have g4 : -2147483648 ≤ (H.1 1831 (3 * c)) ∧ (H.1 1831 (3 * c)) ≤ 2147483647 := hrg1.2 1831 (3 * c) 48 .int rfl (by omega)
        refine h_run 0 (pc' := 48) (l' := [(0, .inr (.inr 1826)), (1, .inl (c : Int)), (2, .inl (n : Int)), (3, .inl (H.1 1830 c)), (4, .inr (.inl sm)), (6, .inl (i : Int))]) (st' := [.inl (H.1 1831 (3 * c)), .inl 8, .inr (.inr 1864)]) rfl ?_
        refine h_run 3 (pc' := 52) (l' := [(0, .inr (.inr 1826)), (1, .inl (c : Int)), (2, .inl (n : Int)), (3, .inl (H.1 1830 c)), (4, .inr (.inl sm)), (6, .inl (i : Int))]) (st' := [.inl ((8 * (H.1 1831 (3 * c))) + (i : Int)), .inr (.inr 1864)]) rfl ?_
        refine h_lld (c := 1864) (j := (((8 * (H.1 1831 (3 * c))) + (i : Int))).toNat) (i := ((8 * (H.1 1831 (3 * c))) + (i : Int))) rfl rfl (by decide) (by omega) (by omega) ?_
        have g5 : -9223372036854775808 ≤ (H.1 1864 (((8 * (H.1 1831 (3 * c))) + (i : Int))).toNat) ∧ (H.1 1864 (((8 * (H.1 1831 (3 * c))) + (i : Int))).toNat) ≤ 9223372036854775807 := hrg1.2 1864 (((8 * (H.1 1831 (3 * c))) + (i : Int))).toNat 48 .long rfl (by omega)
        refine h_run 0 (pc' := 53) (l' := [(0, .inr (.inr 1826)), (1, .inl (c : Int)), (2, .inl (n : Int)), (3, .inl (H.1 1830 c)), (4, .inr (.inl sm)), (6, .inl (i : Int))]) (st' := [.inr (.inl (H.1 1864 (((8 * (H.1 1831 (3 * c))) + (i : Int))).toNat))]) rfl ?_
        have hxxe : (H.1 1864 (((8 * (H.1 1831 (3 * c))) + (i : Int))).toNat) = ((bq (vv X al i (agC X c 0)).length : Nat) : Int) := by rw [ha0]; exact AX_at hAX (by omega) (by omega) rfl
        have hxx : 0 ≤ (H.1 1864 (((8 * (H.1 1831 (3 * c))) + (i : Int))).toNat) ∧ (H.1 1864 (((8 * (H.1 1831 (3 * c))) + (i : Int))).toNat) ≤ 1000000 := by rw [hxxe]; have q9 := bq_le (vv X al i (agC X c 0)).length; omega
        refine h_run 3 (pc' := 57) (l' := [(0, .inr (.inr 1826)), (1, .inl (c : Int)), (2, .inl (n : Int)), (3, .inl (H.1 1830 c)), (4, .inr (.inl sm)), (6, .inl (i : Int)), (7, .inr (.inl (H.1 1864 (((8 * (H.1 1831 (3 * c))) + (i : Int))).toNat)))]) (st' := [.inl 1, .inl (H.1 1830 c)]) rfl ?_
        refine h_ine (off := 22) (t := 79) rfl rfl (by omega) (by decide) (fun c6 => ?_) (fun c6 => ?_)
        · refine h_run 2 (pc' := 82) (l' := [(0, .inr (.inr 1826)), (1, .inl (c : Int)), (2, .inl (n : Int)), (3, .inl (H.1 1830 c)), (4, .inr (.inl sm)), (6, .inl (i : Int)), (7, .inr (.inl (H.1 1864 (((8 * (H.1 1831 (3 * c))) + (i : Int))).toNat))), (9, .inl 1)]) (st' := []) rfl ?_
          exact ih.2 sm i 1 (by omega) (by omega) (by omega) (by omega) (by refine ⟨fun q9 => ?_, fun q9 => ?_⟩; { rw [sumN_p (show 1 ≤ i by omega)]; show _ = bq (sumN (f9 X al c 0 (n - 1)) (i - 1) + (vv X al (i - 1 + 1) (agC X c 0)).length * (tuC (vv X al) X c (0 + 1) (n - 1 - (i - 1 + 1))).length); rw [tuC_qe (X := X) (al := al) (c := c) (k := 0 + 1) (m := n - 1 - (i - 1 + 1)) (by omega)]; first | (rw [if_pos (by omega), Nat.mul_one, show i - 1 + 1 = i by omega, show (sm).toNat = sm.toNat + bq (vv X al i (agC X c 0)).length by omega]; exact bq_add hin (bq_bq _)) | (rw [if_neg (by omega), Nat.mul_zero, Nat.add_zero, show (sm).toNat = sm.toNat by omega]; exact hin) | (rw [if_neg (by omega), Nat.mul_zero, Nat.add_zero]; exact hin) | (exfalso; omega) }; { first | (exfalso; omega) | (show _ = bq (_ + _ * sumN (f9 X al c 1 (n - 1 - i)) 0); rw [show sumN (f9 X al c 1 (n - 1 - i)) 0 = 0 from rfl, Nat.mul_zero, Nat.add_zero]; first | exact hin | (rw [show (sm).toNat = sm.toNat by omega]; exact hin)) }) (by omega : 1000 - 100 * i - 1 < w)
        · refine h_run 5 (pc' := 67) (l' := [(0, .inr (.inr 1826)), (1, .inl (c : Int)), (2, .inl (n : Int)), (3, .inl (H.1 1830 c)), (4, .inr (.inl sm)), (6, .inl (i : Int)), (7, .inr (.inl (H.1 1864 (((8 * (H.1 1831 (3 * c))) + (i : Int))).toNat)))]) (st' := [.inl ((n : Int) - 1), .inl (i : Int), .inr (.inl sm)]) rfl ?_
          refine h_ine (off := 8) (t := 75) rfl rfl (by omega) (by omega) (fun c7 => ?_) (fun c7 => ?_)
          · refine h_run 5 (pc' := 82) (l' := [(0, .inr (.inr 1826)), (1, .inl (c : Int)), (2, .inl (n : Int)), (3, .inl (H.1 1830 c)), (4, .inr (.inl (sm + 0))), (6, .inl (i : Int)), (7, .inr (.inl (H.1 1864 (((8 * (H.1 1831 (3 * c))) + (i : Int))).toNat))), (9, .inl 1)]) (st' := []) rfl ?_
            exact ih.2 (sm + 0) i 1 (by omega) (by omega) (by omega) (by omega) (by refine ⟨fun q9 => ?_, fun q9 => ?_⟩; { rw [sumN_p (show 1 ≤ i by omega)]; show _ = bq (sumN (f9 X al c 0 (n - 1)) (i - 1) + (vv X al (i - 1 + 1) (agC X c 0)).length * (tuC (vv X al) X c (0 + 1) (n - 1 - (i - 1 + 1))).length); rw [tuC_qe (X := X) (al := al) (c := c) (k := 0 + 1) (m := n - 1 - (i - 1 + 1)) (by omega)]; first | (rw [if_pos (by omega), Nat.mul_one, show i - 1 + 1 = i by omega, show ((sm + 0)).toNat = sm.toNat + bq (vv X al i (agC X c 0)).length by omega]; exact bq_add hin (bq_bq _)) | (rw [if_neg (by omega), Nat.mul_zero, Nat.add_zero, show ((sm + 0)).toNat = sm.toNat by omega]; exact hin) | (rw [if_neg (by omega), Nat.mul_zero, Nat.add_zero]; exact hin) | (exfalso; omega) }; { first | (exfalso; omega) | (show _ = bq (_ + _ * sumN (f9 X al c 1 (n - 1 - i)) 0); rw [show sumN (f9 X al c 1 (n - 1 - i)) 0 = 0 from rfl, Nat.mul_zero, Nat.add_zero]; first | exact hin | (rw [show ((sm + 0)).toNat = sm.toNat by omega]; exact hin)) }) (by omega : 1000 - 100 * i - 1 < w)
          · refine h_run 6 (pc' := 82) (l' := [(0, .inr (.inr 1826)), (1, .inl (c : Int)), (2, .inl (n : Int)), (3, .inl (H.1 1830 c)), (4, .inr (.inl (sm + (H.1 1864 (((8 * (H.1 1831 (3 * c))) + (i : Int))).toNat)))), (6, .inl (i : Int)), (7, .inr (.inl (H.1 1864 (((8 * (H.1 1831 (3 * c))) + (i : Int))).toNat))), (9, .inl 1)]) (st' := []) rfl ?_
            exact ih.2 (sm + (H.1 1864 (((8 * (H.1 1831 (3 * c))) + (i : Int))).toNat)) i 1 (by omega) (by omega) (by omega) (by omega) (by refine ⟨fun q9 => ?_, fun q9 => ?_⟩; { rw [sumN_p (show 1 ≤ i by omega)]; show _ = bq (sumN (f9 X al c 0 (n - 1)) (i - 1) + (vv X al (i - 1 + 1) (agC X c 0)).length * (tuC (vv X al) X c (0 + 1) (n - 1 - (i - 1 + 1))).length); rw [tuC_qe (X := X) (al := al) (c := c) (k := 0 + 1) (m := n - 1 - (i - 1 + 1)) (by omega)]; first | (rw [if_pos (by omega), Nat.mul_one, show i - 1 + 1 = i by omega, show ((sm + (H.1 1864 (((8 * (H.1 1831 (3 * c))) + (i : Int))).toNat))).toNat = sm.toNat + bq (vv X al i (agC X c 0)).length by omega]; exact bq_add hin (bq_bq _)) | (rw [if_neg (by omega), Nat.mul_zero, Nat.add_zero, show ((sm + (H.1 1864 (((8 * (H.1 1831 (3 * c))) + (i : Int))).toNat))).toNat = sm.toNat by omega]; exact hin) | (rw [if_neg (by omega), Nat.mul_zero, Nat.add_zero]; exact hin) | (exfalso; omega) }; { first | (exfalso; omega) | (show _ = bq (_ + _ * sumN (f9 X al c 1 (n - 1 - i)) 0); rw [show sumN (f9 X al c 1 (n - 1 - i)) 0 = 0 from rfl, Nat.mul_zero, Nat.add_zero]; first | exact hin | (rw [show ((sm + (H.1 1864 (((8 * (H.1 1831 (3 * c))) + (i : Int))).toNat))).toNat = sm.toNat by omega]; exact hin)) }) (by omega : 1000 - 100 * i - 1 < w)
    · intro sm i j har hi hj hsm hin hw
      refine h_rng (fun hrg8 => ?_)
      obtain ⟨⟨pb1, pb2, pb3, pb4, pb5⟩, pw1, pw2, pw3, pw4⟩ := (id hP : PW H (H.1 1826 1) (H.1 1826 3) (H.1 1826 8) (H.1 1826 13) (H.1 1826 19))
      obtain ⟨hca, hct, hcg⟩ := pw1 c (by omega)
      obtain ⟨⟨xr3, xr4⟩, xrc⟩ := id hX
      obtain ⟨xc3, xc4, xc5⟩ := xrc c (by omega)
      have haq : (aQ9 X c : Int) = (H.1 1830) c := by unfold aQ9; omega
      have hg0 : 0 ≤ (H.1 1831) (3 * c) ∧ (H.1 1831) (3 * c) < (H.1 1826 1) := hcg 0 (by omega)
      have ha0 : agC X c 0 = (H.1 1831) (3 * c) := xc5 0 (by omega)
      have hxxe : (H.1 1864 (((8 * (H.1 1831 (3 * c))) + (i : Int))).toNat) = ((bq (vv X al i (agC X c 0)).length : Nat) : Int) := by rw [ha0]; exact AX_at hAX (by omega) (by omega) rfl
      have hxx : 0 ≤ (H.1 1864 (((8 * (H.1 1831 (3 * c))) + (i : Int))).toNat) ∧ (H.1 1864 (((8 * (H.1 1831 (3 * c))) + (i : Int))).toNat) ≤ 1000000 := by rw [hxxe]; have q9 := bq_le (vv X al i (agC X c 0)).length; omega
      refine h_run 2 (pc' := 84) (l' := [(0, .inr (.inr 1826)), (1, .inl (c : Int)), (2, .inl (n : Int)), (3, .inl (H.1 1830 c)), (4, .inr (.inl sm)), (6, .inl (i : Int)), (7, .inr (.inl (H.1 1864 (((8 * (H.1 1831 (3 * c))) + (i : Int))).toNat))), (9, .inl (j : Int))]) (st' := [.inl 1, .inl (H.1 1830 c)]) rfl ?_
      refine h_ile (off := 121) (t := 205) rfl rfl (by omega) (by decide) (fun c9 => ?_) (fun c9 => ?_)
      · refine h_run 2 (pc' := 28) (l' := [(0, .inr (.inr 1826)), (1, .inl (c : Int)), (2, .inl (n : Int)), (3, .inl (H.1 1830 c)), (4, .inr (.inl sm)), (6, .inl ((i : Int) + 1)), (7, .inr (.inl (H.1 1864 (((8 * (H.1 1831 (3 * c))) + (i : Int))).toNat))), (9, .inl (j : Int))]) (st' := []) rfl ?_
        refine h_loc [0, 1, 2, 3, 4, 6] rfl ?_
        rw [show ((i : Int) + 1) = (((i + 1) : Nat) : Int) by omega]
        exact ih.1 sm (i + 1) (by omega) (by omega) (by omega) (by rw [Nat.add_sub_cancel]; rcases (show (H.1 1830) c = 1 ∨ 2 ≤ (H.1 1830) c by omega) with q9 | q9; { exact hin.1 q9 }; { rw [hin.2 q9]; obtain ⟨i9, rfl⟩ : ∃ i9, i = i9 + 1 := ⟨i - 1, by omega⟩; show bq (sumN (f9 X al c 0 (n - 1)) (i9 + 1 - 1) + _) = bq (sumN (f9 X al c 0 (n - 1)) i9 + f9 X al c 0 (n - 1) i9); rw [Nat.add_sub_cancel]; unfold f9; rw [show n - 1 - (i9 + 1) = n - 1 - (i9 + 1) from rfl, tuC_sz (k := 0 + 1) (by omega), show j - 1 = n - 1 - (i9 + 1) by omega]; rfl }) (by omega : 1000 - 100 * (i + 1) < w)
      · refine h_run 4 (pc' := 93) (l' := [(0, .inr (.inr 1826)), (1, .inl (c : Int)), (2, .inl (n : Int)), (3, .inl (H.1 1830 c)), (4, .inr (.inl sm)), (6, .inl (i : Int)), (7, .inr (.inl (H.1 1864 (((8 * (H.1 1831 (3 * c))) + (i : Int))).toNat))), (9, .inl (j : Int))]) (st' := [.inl (n : Int), .inl ((i : Int) + (j : Int))]) rfl ?_
        refine h_ige (off := 112) (t := 205) rfl rfl (by omega) (by omega) (fun c10 => ?_) (fun c10 => ?_)
        · refine h_run 2 (pc' := 28) (l' := [(0, .inr (.inr 1826)), (1, .inl (c : Int)), (2, .inl (n : Int)), (3, .inl (H.1 1830 c)), (4, .inr (.inl sm)), (6, .inl ((i : Int) + 1)), (7, .inr (.inl (H.1 1864 (((8 * (H.1 1831 (3 * c))) + (i : Int))).toNat))), (9, .inl (j : Int))]) (st' := []) rfl ?_
          refine h_loc [0, 1, 2, 3, 4, 6] rfl ?_
          rw [show ((i : Int) + 1) = (((i + 1) : Nat) : Int) by omega]
          exact ih.1 sm (i + 1) (by omega) (by omega) (by omega) (by rw [Nat.add_sub_cancel]; rcases (show (H.1 1830) c = 1 ∨ 2 ≤ (H.1 1830) c by omega) with q9 | q9; { exact hin.1 q9 }; { rw [hin.2 q9]; obtain ⟨i9, rfl⟩ : ∃ i9, i = i9 + 1 := ⟨i - 1, by omega⟩; show bq (sumN (f9 X al c 0 (n - 1)) (i9 + 1 - 1) + _) = bq (sumN (f9 X al c 0 (n - 1)) i9 + f9 X al c 0 (n - 1) i9); rw [Nat.add_sub_cancel]; unfold f9; rw [show n - 1 - (i9 + 1) = n - 1 - (i9 + 1) from rfl, tuC_sz (k := 0 + 1) (by omega), show j - 1 = n - 1 - (i9 + 1) by omega]; rfl }) (by omega : 1000 - 100 * (i + 1) < w)
        · refine h_run 10 (pc' := 111) (l' := [(0, .inr (.inr 1826)), (1, .inl (c : Int)), (2, .inl (n : Int)), (3, .inl (H.1 1830 c)), (4, .inr (.inl sm)), (6, .inl (i : Int)), (7, .inr (.inl (H.1 1864 (((8 * (H.1 1831 (3 * c))) + (i : Int))).toNat))), (9, .inl (j : Int))]) (st' := [.inl ((3 * (c : Int)) + 1), .inr (.inr 1831), .inl 8, .inr (.inr 1864)]) rfl ?_
          have hg1 : 0 ≤ (H.1 1831) (3 * c + 1) ∧ (H.1 1831) (3 * c + 1) < (H.1 1826 1) := hcg 1 (by omega)
          have ha1 : agC X c 1 = (H.1 1831) (3 * c + 1) := xc5 1 (by omega)
          refine h_ild (c := 1831) (j := ((3 * c) + 1)) (i := ((3 * (c : Int)) + 1)) rfl rfl (by decide) (by omega) (by omega) ?_
          have g11 : -2147483648 ≤ (H.1 1831 ((3 * c) + 1)) ∧ (H.1 1831 ((3 * c) + 1)) ≤ 2147483647 := hrg8.2 1831 ((3 * c) + 1) 48 .int rfl (by omega)
          refine h_run 0 (pc' := 112) (l' := [(0, .inr (.inr 1826)), (1, .inl (c : Int)), (2, .inl (n : Int)), (3, .inl (H.1 1830 c)), (4, .inr (.inl sm)), (6, .inl (i : Int)), (7, .inr (.inl (H.1 1864 (((8 * (H.1 1831 (3 * c))) + (i : Int))).toNat))), (9, .inl (j : Int))]) (st' := [.inl (H.1 1831 ((3 * c) + 1)), .inl 8, .inr (.inr 1864)]) rfl ?_
          refine h_run 3 (pc' := 116) (l' := [(0, .inr (.inr 1826)), (1, .inl (c : Int)), (2, .inl (n : Int)), (3, .inl (H.1 1830 c)), (4, .inr (.inl sm)), (6, .inl (i : Int)), (7, .inr (.inl (H.1 1864 (((8 * (H.1 1831 (3 * c))) + (i : Int))).toNat))), (9, .inl (j : Int))]) (st' := [.inl ((8 * (H.1 1831 ((3 * c) + 1))) + (j : Int)), .inr (.inr 1864)]) rfl ?_
          refine h_lld (c := 1864) (j := (((8 * (H.1 1831 ((3 * c) + 1))) + (j : Int))).toNat) (i := ((8 * (H.1 1831 ((3 * c) + 1))) + (j : Int))) rfl rfl (by decide) (by omega) (by omega) ?_
          have g12 : -9223372036854775808 ≤ (H.1 1864 (((8 * (H.1 1831 ((3 * c) + 1))) + (j : Int))).toNat) ∧ (H.1 1864 (((8 * (H.1 1831 ((3 * c) + 1))) + (j : Int))).toNat) ≤ 9223372036854775807 := hrg8.2 1864 (((8 * (H.1 1831 ((3 * c) + 1))) + (j : Int))).toNat 48 .long rfl (by omega)
          refine h_run 0 (pc' := 117) (l' := [(0, .inr (.inr 1826)), (1, .inl (c : Int)), (2, .inl (n : Int)), (3, .inl (H.1 1830 c)), (4, .inr (.inl sm)), (6, .inl (i : Int)), (7, .inr (.inl (H.1 1864 (((8 * (H.1 1831 (3 * c))) + (i : Int))).toNat))), (9, .inl (j : Int))]) (st' := [.inr (.inl (H.1 1864 (((8 * (H.1 1831 ((3 * c) + 1))) + (j : Int))).toNat))]) rfl ?_
          have hyye : (H.1 1864 (((8 * (H.1 1831 ((3 * c) + 1))) + (j : Int))).toNat) = ((bq (vv X al j (agC X c 1)).length : Nat) : Int) := by rw [ha1]; exact AX_at hAX (by omega) (by omega) rfl
          have hyy : 0 ≤ (H.1 1864 (((8 * (H.1 1831 ((3 * c) + 1))) + (j : Int))).toNat) ∧ (H.1 1864 (((8 * (H.1 1831 ((3 * c) + 1))) + (j : Int))).toNat) ≤ 1000000 := by rw [hyye]; have q9 := bq_le (vv X al j (agC X c 1)).length; omega
          refine h_run 11 (pc' := 132) (l' := [(0, .inr (.inr 1826)), (1, .inl (c : Int)), (2, .inl (n : Int)), (3, .inl (H.1 1830 c)), (4, .inr (.inl sm)), (6, .inl (i : Int)), (7, .inr (.inl (H.1 1864 (((8 * (H.1 1831 (3 * c))) + (i : Int))).toNat))), (9, .inl (j : Int)), (10, .inr (.inl (H.1 1864 (((8 * (H.1 1831 ((3 * c) + 1))) + (j : Int))).toNat))), (12, .inl ((((n : Int) - 1) - (i : Int)) - (j : Int)))]) (st' := [.inl 2, .inl (H.1 1830 c)]) rfl ?_
          refine h_ine (off := 16) (t := 148) rfl rfl (by omega) (by decide) (fun c13 => ?_) (fun c13 => ?_)
          · refine h_run 1 (pc' := 150) (l' := [(0, .inr (.inr 1826)), (1, .inl (c : Int)), (2, .inl (n : Int)), (3, .inl (H.1 1830 c)), (4, .inr (.inl sm)), (6, .inl (i : Int)), (7, .inr (.inl (H.1 1864 (((8 * (H.1 1831 (3 * c))) + (i : Int))).toNat))), (9, .inl (j : Int)), (10, .inr (.inl (H.1 1864 (((8 * (H.1 1831 ((3 * c) + 1))) + (j : Int))).toNat))), (12, .inl ((((n : Int) - 1) - (i : Int)) - (j : Int)))]) (st' := [.inl ((((n : Int) - 1) - (i : Int)) - (j : Int))]) rfl ?_
            refine h_zle (off := 27) (t := 177) rfl rfl (by omega) (fun c14 => ?_) (fun c14 => ?_)
            · refine h_run 1 (pc' := 178) (l' := [(0, .inr (.inr 1826)), (1, .inl (c : Int)), (2, .inl (n : Int)), (3, .inl (H.1 1830 c)), (4, .inr (.inl sm)), (6, .inl (i : Int)), (7, .inr (.inl (H.1 1864 (((8 * (H.1 1831 (3 * c))) + (i : Int))).toNat))), (9, .inl (j : Int)), (10, .inr (.inl (H.1 1864 (((8 * (H.1 1831 ((3 * c) + 1))) + (j : Int))).toNat))), (12, .inl ((((n : Int) - 1) - (i : Int)) - (j : Int)))]) (st' := [.inr (.inl 0)]) rfl ?_
              refine h_run 1 (pc' := 180) (l' := [(0, .inr (.inr 1826)), (1, .inl (c : Int)), (2, .inl (n : Int)), (3, .inl (H.1 1830 c)), (4, .inr (.inl sm)), (6, .inl (i : Int)), (7, .inr (.inl (H.1 1864 (((8 * (H.1 1831 (3 * c))) + (i : Int))).toNat))), (9, .inl (j : Int)), (10, .inr (.inl (H.1 1864 (((8 * (H.1 1831 ((3 * c) + 1))) + (j : Int))).toNat))), (12, .inl ((((n : Int) - 1) - (i : Int)) - (j : Int))), (13, .inr (.inl 0))]) (st' := []) rfl ?_
              have hzq : (0 : Int) = ((bq (tuC (vv X al) X c (1 + 1) (n - 1 - i - j)).length : Nat) : Int) := by first | (rw [tuC_qe (k := 1 + 1) (by omega), if_pos (by omega)]; rfl) | (rw [tuC_qe (k := 1 + 1) (by omega), if_neg (by omega)]; rfl) | (rw [show (1 + 1 : Nat) = 2 from rfl, tuC_q2 (by omega), if_neg (by omega), hzze, show kk = n - 1 - i - j by omega]) | (rw [show (1 + 1 : Nat) = 2 from rfl, tuC_q2 (by omega), if_pos (by omega)]; rfl)
              refine h_run 4 (pc' := 187) (l' := [(0, .inr (.inr 1826)), (1, .inl (c : Int)), (2, .inl (n : Int)), (3, .inl (H.1 1830 c)), (4, .inr (.inl sm)), (6, .inl (i : Int)), (7, .inr (.inl (H.1 1864 (((8 * (H.1 1831 (3 * c))) + (i : Int))).toNat))), (9, .inl (j : Int)), (10, .inr (.inl (H.1 1864 (((8 * (H.1 1831 ((3 * c) + 1))) + (j : Int))).toNat))), (12, .inl ((((n : Int) - 1) - (i : Int)) - (j : Int))), (13, .inr (.inl 0))]) (st' := [.inr (.inl ((H.1 1864 (((8 * (H.1 1831 (3 * c))) + (i : Int))).toNat) * (H.1 1864 (((8 * (H.1 1831 ((3 * c) + 1))) + (j : Int))).toNat))), .inr (.inl sm)]) rfl ?_
              have hm1 := mul_rg (x := (H.1 1864 (((8 * (H.1 1831 (3 * c))) + (i : Int))).toNat)) (y := (H.1 1864 (((8 * (H.1 1831 ((3 * c) + 1))) + (j : Int))).toNat)) hxx hyy
              refine h_cs (i := 489) (j := 208) (M' := mt_208) (xs := [.inr (.inl ((H.1 1864 (((8 * (H.1 1831 (3 * c))) + (i : Int))).toNat) * (H.1 1864 (((8 * (H.1 1831 ((3 * c) + 1))) + (j : Int))).toNat)))]) (rest := [.inr (.inl sm)]) rfl rfl rfl rfl rfl (Nat.le_of_ble_eq_true rfl) (Nat.le_of_ble_eq_true rfl) (by omega) (n_bounded (by omega) (by omega)) ?_
              rintro _ _ ⟨⟨b15, rfl, b15r, b15p⟩, rfl⟩
              refine h_run 0 (pc' := 190) (l' := [(0, .inr (.inr 1826)), (1, .inl (c : Int)), (2, .inl (n : Int)), (3, .inl (H.1 1830 c)), (4, .inr (.inl sm)), (6, .inl (i : Int)), (7, .inr (.inl (H.1 1864 (((8 * (H.1 1831 (3 * c))) + (i : Int))).toNat))), (9, .inl (j : Int)), (10, .inr (.inl (H.1 1864 (((8 * (H.1 1831 ((3 * c) + 1))) + (j : Int))).toNat))), (12, .inl ((((n : Int) - 1) - (i : Int)) - (j : Int))), (13, .inr (.inl 0))]) (st' := [.inr (.inl b15), .inr (.inl sm)]) rfl ?_
              have hzr : 0 ≤ (0 : Int) ∧ (0 : Int) ≤ 1000000 := by rw [hzq]; have q9 := bq_le (tuC (vv X al) X c (1 + 1) (n - 1 - i - j)).length; omega
              refine h_run 1 (pc' := 192) (l' := [(0, .inr (.inr 1826)), (1, .inl (c : Int)), (2, .inl (n : Int)), (3, .inl (H.1 1830 c)), (4, .inr (.inl sm)), (6, .inl (i : Int)), (7, .inr (.inl (H.1 1864 (((8 * (H.1 1831 (3 * c))) + (i : Int))).toNat))), (9, .inl (j : Int)), (10, .inr (.inl (H.1 1864 (((8 * (H.1 1831 ((3 * c) + 1))) + (j : Int))).toNat))), (12, .inl ((((n : Int) - 1) - (i : Int)) - (j : Int))), (13, .inr (.inl 0))]) (st' := [.inr (.inl 0), .inr (.inl b15), .inr (.inl sm)]) rfl ?_
              have hm2 := mul_rg (x := b15) (y := 0) (by omega) hzr
              refine h_run 2 (pc' := 194) (l' := [(0, .inr (.inr 1826)), (1, .inl (c : Int)), (2, .inl (n : Int)), (3, .inl (H.1 1830 c)), (4, .inr (.inl sm)), (6, .inl (i : Int)), (7, .inr (.inl (H.1 1864 (((8 * (H.1 1831 (3 * c))) + (i : Int))).toNat))), (9, .inl (j : Int)), (10, .inr (.inl (H.1 1864 (((8 * (H.1 1831 ((3 * c) + 1))) + (j : Int))).toNat))), (12, .inl ((((n : Int) - 1) - (i : Int)) - (j : Int))), (13, .inr (.inl 0))]) (st' := [.inr (.inl (sm + (b15 * 0)))]) rfl ?_
              refine h_cs (i := 489) (j := 208) (M' := mt_208) (xs := [.inr (.inl (sm + (b15 * 0)))]) (rest := []) rfl rfl rfl rfl rfl (Nat.le_of_ble_eq_true rfl) (Nat.le_of_ble_eq_true rfl) (by omega) (n_bounded (by omega) (by omega)) ?_
              rintro _ _ ⟨⟨b16, rfl, b16r, b16p⟩, rfl⟩
              refine h_run 0 (pc' := 197) (l' := [(0, .inr (.inr 1826)), (1, .inl (c : Int)), (2, .inl (n : Int)), (3, .inl (H.1 1830 c)), (4, .inr (.inl sm)), (6, .inl (i : Int)), (7, .inr (.inl (H.1 1864 (((8 * (H.1 1831 (3 * c))) + (i : Int))).toNat))), (9, .inl (j : Int)), (10, .inr (.inl (H.1 1864 (((8 * (H.1 1831 ((3 * c) + 1))) + (j : Int))).toNat))), (12, .inl ((((n : Int) - 1) - (i : Int)) - (j : Int))), (13, .inr (.inl 0))]) (st' := [.inr (.inl b16)]) rfl ?_
              refine h_run 3 (pc' := 82) (l' := [(0, .inr (.inr 1826)), (1, .inl (c : Int)), (2, .inl (n : Int)), (3, .inl (H.1 1830 c)), (4, .inr (.inl b16)), (6, .inl (i : Int)), (7, .inr (.inl (H.1 1864 (((8 * (H.1 1831 (3 * c))) + (i : Int))).toNat))), (9, .inl ((j : Int) + 1)), (10, .inr (.inl (H.1 1864 (((8 * (H.1 1831 ((3 * c) + 1))) + (j : Int))).toNat))), (12, .inl ((((n : Int) - 1) - (i : Int)) - (j : Int))), (13, .inr (.inl 0))]) (st' := []) rfl ?_
              refine h_loc [0, 1, 2, 3, 4, 6, 7, 9] rfl ?_
              rw [show ((j : Int) + 1) = (((j + 1) : Nat) : Int) by omega]
              exact ih.2 b16 i (j + 1) (by omega) (by omega) (by omega) (by omega) ⟨fun q9 => by exfalso; omega, fun q9 => by rw [Nat.add_sub_cancel]; obtain ⟨j9, rfl⟩ : ∃ j9, j = j9 + 1 := ⟨j - 1, by omega⟩; rw [Nat.add_sub_cancel] at hin; show _ = bq (sumN (f9 X al c 0 (n - 1)) (i - 1) + (vv X al i (agC X c 0)).length * (sumN (f9 X al c 1 (n - 1 - i)) j9 + f9 X al c 1 (n - 1 - i) j9)); rw [Nat.mul_add, ← Nat.add_assoc]; exact ca_in (by omega) (hin.2 (by omega)) hxxe hyye b15p hzq b16p⟩ (by omega : 1000 - 100 * i - (j + 1) < w)
            · obtain ⟨kk, hkk⟩ : ∃ k9 : Nat, ((((n : Int) - 1) - (i : Int)) - (j : Int)) = (k9 : Int) := ⟨(((((n : Int) - 1) - (i : Int)) - (j : Int))).toNat, by omega⟩
              rw [show ((((n : Int) - 1) - (i : Int)) - (j : Int)) = (kk : Int) from hkk]
              refine h_run 10 (pc' := 168) (l' := [(0, .inr (.inr 1826)), (1, .inl (c : Int)), (2, .inl (n : Int)), (3, .inl (H.1 1830 c)), (4, .inr (.inl sm)), (6, .inl (i : Int)), (7, .inr (.inl (H.1 1864 (((8 * (H.1 1831 (3 * c))) + (i : Int))).toNat))), (9, .inl (j : Int)), (10, .inr (.inl (H.1 1864 (((8 * (H.1 1831 ((3 * c) + 1))) + (j : Int))).toNat))), (12, .inl (kk : Int))]) (st' := [.inl ((3 * (c : Int)) + 2), .inr (.inr 1831), .inl 8, .inr (.inr 1864)]) rfl ?_
              have hg2 : 0 ≤ (H.1 1831) (3 * c + 2) ∧ (H.1 1831) (3 * c + 2) < (H.1 1826 1) := hcg 2 (by omega)
              have ha2 : agC X c 2 = (H.1 1831) (3 * c + 2) := xc5 2 (by omega)
              refine h_ild (c := 1831) (j := ((3 * c) + 2)) (i := ((3 * (c : Int)) + 2)) rfl rfl (by decide) (by omega) (by omega) ?_
              have g17 : -2147483648 ≤ (H.1 1831 ((3 * c) + 2)) ∧ (H.1 1831 ((3 * c) + 2)) ≤ 2147483647 := hrg8.2 1831 ((3 * c) + 2) 48 .int rfl (by omega)
              refine h_run 0 (pc' := 169) (l' := [(0, .inr (.inr 1826)), (1, .inl (c : Int)), (2, .inl (n : Int)), (3, .inl (H.1 1830 c)), (4, .inr (.inl sm)), (6, .inl (i : Int)), (7, .inr (.inl (H.1 1864 (((8 * (H.1 1831 (3 * c))) + (i : Int))).toNat))), (9, .inl (j : Int)), (10, .inr (.inl (H.1 1864 (((8 * (H.1 1831 ((3 * c) + 1))) + (j : Int))).toNat))), (12, .inl (kk : Int))]) (st' := [.inl (H.1 1831 ((3 * c) + 2)), .inl 8, .inr (.inr 1864)]) rfl ?_
              refine h_run 3 (pc' := 173) (l' := [(0, .inr (.inr 1826)), (1, .inl (c : Int)), (2, .inl (n : Int)), (3, .inl (H.1 1830 c)), (4, .inr (.inl sm)), (6, .inl (i : Int)), (7, .inr (.inl (H.1 1864 (((8 * (H.1 1831 (3 * c))) + (i : Int))).toNat))), (9, .inl (j : Int)), (10, .inr (.inl (H.1 1864 (((8 * (H.1 1831 ((3 * c) + 1))) + (j : Int))).toNat))), (12, .inl (kk : Int))]) (st' := [.inl ((8 * (H.1 1831 ((3 * c) + 2))) + (kk : Int)), .inr (.inr 1864)]) rfl ?_
              refine h_lld (c := 1864) (j := (((8 * (H.1 1831 ((3 * c) + 2))) + (kk : Int))).toNat) (i := ((8 * (H.1 1831 ((3 * c) + 2))) + (kk : Int))) rfl rfl (by decide) (by omega) (by omega) ?_
              have g18 : -9223372036854775808 ≤ (H.1 1864 (((8 * (H.1 1831 ((3 * c) + 2))) + (kk : Int))).toNat) ∧ (H.1 1864 (((8 * (H.1 1831 ((3 * c) + 2))) + (kk : Int))).toNat) ≤ 9223372036854775807 := hrg8.2 1864 (((8 * (H.1 1831 ((3 * c) + 2))) + (kk : Int))).toNat 48 .long rfl (by omega)
              refine h_run 0 (pc' := 174) (l' := [(0, .inr (.inr 1826)), (1, .inl (c : Int)), (2, .inl (n : Int)), (3, .inl (H.1 1830 c)), (4, .inr (.inl sm)), (6, .inl (i : Int)), (7, .inr (.inl (H.1 1864 (((8 * (H.1 1831 (3 * c))) + (i : Int))).toNat))), (9, .inl (j : Int)), (10, .inr (.inl (H.1 1864 (((8 * (H.1 1831 ((3 * c) + 1))) + (j : Int))).toNat))), (12, .inl (kk : Int))]) (st' := [.inr (.inl (H.1 1864 (((8 * (H.1 1831 ((3 * c) + 2))) + (kk : Int))).toNat))]) rfl ?_
              refine h_run 1 (pc' := 178) (l' := [(0, .inr (.inr 1826)), (1, .inl (c : Int)), (2, .inl (n : Int)), (3, .inl (H.1 1830 c)), (4, .inr (.inl sm)), (6, .inl (i : Int)), (7, .inr (.inl (H.1 1864 (((8 * (H.1 1831 (3 * c))) + (i : Int))).toNat))), (9, .inl (j : Int)), (10, .inr (.inl (H.1 1864 (((8 * (H.1 1831 ((3 * c) + 1))) + (j : Int))).toNat))), (12, .inl (kk : Int))]) (st' := [.inr (.inl (H.1 1864 (((8 * (H.1 1831 ((3 * c) + 2))) + (kk : Int))).toNat))]) rfl ?_
              have hzze : (H.1 1864 (((8 * (H.1 1831 ((3 * c) + 2))) + (kk : Int))).toNat) = ((bq (vv X al kk (agC X c 2)).length : Nat) : Int) := by rw [ha2]; exact AX_at hAX (by omega) (by omega) rfl
              have hzz : 0 ≤ (H.1 1864 (((8 * (H.1 1831 ((3 * c) + 2))) + (kk : Int))).toNat) ∧ (H.1 1864 (((8 * (H.1 1831 ((3 * c) + 2))) + (kk : Int))).toNat) ≤ 1000000 := by rw [hzze]; have q9 := bq_le (vv X al kk (agC X c 2)).length; omega
              refine h_run 1 (pc' := 180) (l' := [(0, .inr (.inr 1826)), (1, .inl (c : Int)), (2, .inl (n : Int)), (3, .inl (H.1 1830 c)), (4, .inr (.inl sm)), (6, .inl (i : Int)), (7, .inr (.inl (H.1 1864 (((8 * (H.1 1831 (3 * c))) + (i : Int))).toNat))), (9, .inl (j : Int)), (10, .inr (.inl (H.1 1864 (((8 * (H.1 1831 ((3 * c) + 1))) + (j : Int))).toNat))), (12, .inl (kk : Int)), (13, .inr (.inl (H.1 1864 (((8 * (H.1 1831 ((3 * c) + 2))) + (kk : Int))).toNat)))]) (st' := []) rfl ?_
              have hzq : (H.1 1864 (((8 * (H.1 1831 ((3 * c) + 2))) + (kk : Int))).toNat) = ((bq (tuC (vv X al) X c (1 + 1) (n - 1 - i - j)).length : Nat) : Int) := by first | (rw [tuC_qe (k := 1 + 1) (by omega), if_pos (by omega)]; rfl) | (rw [tuC_qe (k := 1 + 1) (by omega), if_neg (by omega)]; rfl) | (rw [show (1 + 1 : Nat) = 2 from rfl, tuC_q2 (by omega), if_neg (by omega), hzze, show kk = n - 1 - i - j by omega]) | (rw [show (1 + 1 : Nat) = 2 from rfl, tuC_q2 (by omega), if_pos (by omega)]; rfl)
              refine h_run 4 (pc' := 187) (l' := [(0, .inr (.inr 1826)), (1, .inl (c : Int)), (2, .inl (n : Int)), (3, .inl (H.1 1830 c)), (4, .inr (.inl sm)), (6, .inl (i : Int)), (7, .inr (.inl (H.1 1864 (((8 * (H.1 1831 (3 * c))) + (i : Int))).toNat))), (9, .inl (j : Int)), (10, .inr (.inl (H.1 1864 (((8 * (H.1 1831 ((3 * c) + 1))) + (j : Int))).toNat))), (12, .inl (kk : Int)), (13, .inr (.inl (H.1 1864 (((8 * (H.1 1831 ((3 * c) + 2))) + (kk : Int))).toNat)))]) (st' := [.inr (.inl ((H.1 1864 (((8 * (H.1 1831 (3 * c))) + (i : Int))).toNat) * (H.1 1864 (((8 * (H.1 1831 ((3 * c) + 1))) + (j : Int))).toNat))), .inr (.inl sm)]) rfl ?_
              have hm1 := mul_rg (x := (H.1 1864 (((8 * (H.1 1831 (3 * c))) + (i : Int))).toNat)) (y := (H.1 1864 (((8 * (H.1 1831 ((3 * c) + 1))) + (j : Int))).toNat)) hxx hyy
              refine h_cs (i := 489) (j := 208) (M' := mt_208) (xs := [.inr (.inl ((H.1 1864 (((8 * (H.1 1831 (3 * c))) + (i : Int))).toNat) * (H.1 1864 (((8 * (H.1 1831 ((3 * c) + 1))) + (j : Int))).toNat)))]) (rest := [.inr (.inl sm)]) rfl rfl rfl rfl rfl (Nat.le_of_ble_eq_true rfl) (Nat.le_of_ble_eq_true rfl) (by omega) (n_bounded (by omega) (by omega)) ?_
              rintro _ _ ⟨⟨b19, rfl, b19r, b19p⟩, rfl⟩
              refine h_run 0 (pc' := 190) (l' := [(0, .inr (.inr 1826)), (1, .inl (c : Int)), (2, .inl (n : Int)), (3, .inl (H.1 1830 c)), (4, .inr (.inl sm)), (6, .inl (i : Int)), (7, .inr (.inl (H.1 1864 (((8 * (H.1 1831 (3 * c))) + (i : Int))).toNat))), (9, .inl (j : Int)), (10, .inr (.inl (H.1 1864 (((8 * (H.1 1831 ((3 * c) + 1))) + (j : Int))).toNat))), (12, .inl (kk : Int)), (13, .inr (.inl (H.1 1864 (((8 * (H.1 1831 ((3 * c) + 2))) + (kk : Int))).toNat)))]) (st' := [.inr (.inl b19), .inr (.inl sm)]) rfl ?_
              have hzr : 0 ≤ (H.1 1864 (((8 * (H.1 1831 ((3 * c) + 2))) + (kk : Int))).toNat) ∧ (H.1 1864 (((8 * (H.1 1831 ((3 * c) + 2))) + (kk : Int))).toNat) ≤ 1000000 := by rw [hzq]; have q9 := bq_le (tuC (vv X al) X c (1 + 1) (n - 1 - i - j)).length; omega
              refine h_run 1 (pc' := 192) (l' := [(0, .inr (.inr 1826)), (1, .inl (c : Int)), (2, .inl (n : Int)), (3, .inl (H.1 1830 c)), (4, .inr (.inl sm)), (6, .inl (i : Int)), (7, .inr (.inl (H.1 1864 (((8 * (H.1 1831 (3 * c))) + (i : Int))).toNat))), (9, .inl (j : Int)), (10, .inr (.inl (H.1 1864 (((8 * (H.1 1831 ((3 * c) + 1))) + (j : Int))).toNat))), (12, .inl (kk : Int)), (13, .inr (.inl (H.1 1864 (((8 * (H.1 1831 ((3 * c) + 2))) + (kk : Int))).toNat)))]) (st' := [.inr (.inl (H.1 1864 (((8 * (H.1 1831 ((3 * c) + 2))) + (kk : Int))).toNat)), .inr (.inl b19), .inr (.inl sm)]) rfl ?_
              have hm2 := mul_rg (x := b19) (y := (H.1 1864 (((8 * (H.1 1831 ((3 * c) + 2))) + (kk : Int))).toNat)) (by omega) hzr
              refine h_run 2 (pc' := 194) (l' := [(0, .inr (.inr 1826)), (1, .inl (c : Int)), (2, .inl (n : Int)), (3, .inl (H.1 1830 c)), (4, .inr (.inl sm)), (6, .inl (i : Int)), (7, .inr (.inl (H.1 1864 (((8 * (H.1 1831 (3 * c))) + (i : Int))).toNat))), (9, .inl (j : Int)), (10, .inr (.inl (H.1 1864 (((8 * (H.1 1831 ((3 * c) + 1))) + (j : Int))).toNat))), (12, .inl (kk : Int)), (13, .inr (.inl (H.1 1864 (((8 * (H.1 1831 ((3 * c) + 2))) + (kk : Int))).toNat)))]) (st' := [.inr (.inl (sm + (b19 * (H.1 1864 (((8 * (H.1 1831 ((3 * c) + 2))) + (kk : Int))).toNat))))]) rfl ?_
              refine h_cs (i := 489) (j := 208) (M' := mt_208) (xs := [.inr (.inl (sm + (b19 * (H.1 1864 (((8 * (H.1 1831 ((3 * c) + 2))) + (kk : Int))).toNat))))]) (rest := []) rfl rfl rfl rfl rfl (Nat.le_of_ble_eq_true rfl) (Nat.le_of_ble_eq_true rfl) (by omega) (n_bounded (by omega) (by omega)) ?_
              rintro _ _ ⟨⟨b20, rfl, b20r, b20p⟩, rfl⟩
              refine h_run 0 (pc' := 197) (l' := [(0, .inr (.inr 1826)), (1, .inl (c : Int)), (2, .inl (n : Int)), (3, .inl (H.1 1830 c)), (4, .inr (.inl sm)), (6, .inl (i : Int)), (7, .inr (.inl (H.1 1864 (((8 * (H.1 1831 (3 * c))) + (i : Int))).toNat))), (9, .inl (j : Int)), (10, .inr (.inl (H.1 1864 (((8 * (H.1 1831 ((3 * c) + 1))) + (j : Int))).toNat))), (12, .inl (kk : Int)), (13, .inr (.inl (H.1 1864 (((8 * (H.1 1831 ((3 * c) + 2))) + (kk : Int))).toNat)))]) (st' := [.inr (.inl b20)]) rfl ?_
              refine h_run 3 (pc' := 82) (l' := [(0, .inr (.inr 1826)), (1, .inl (c : Int)), (2, .inl (n : Int)), (3, .inl (H.1 1830 c)), (4, .inr (.inl b20)), (6, .inl (i : Int)), (7, .inr (.inl (H.1 1864 (((8 * (H.1 1831 (3 * c))) + (i : Int))).toNat))), (9, .inl ((j : Int) + 1)), (10, .inr (.inl (H.1 1864 (((8 * (H.1 1831 ((3 * c) + 1))) + (j : Int))).toNat))), (12, .inl (kk : Int)), (13, .inr (.inl (H.1 1864 (((8 * (H.1 1831 ((3 * c) + 2))) + (kk : Int))).toNat)))]) (st' := []) rfl ?_
              refine h_loc [0, 1, 2, 3, 4, 6, 7, 9] rfl ?_
              rw [show ((j : Int) + 1) = (((j + 1) : Nat) : Int) by omega]
              exact ih.2 b20 i (j + 1) (by omega) (by omega) (by omega) (by omega) ⟨fun q9 => by exfalso; omega, fun q9 => by rw [Nat.add_sub_cancel]; obtain ⟨j9, rfl⟩ : ∃ j9, j = j9 + 1 := ⟨j - 1, by omega⟩; rw [Nat.add_sub_cancel] at hin; show _ = bq (sumN (f9 X al c 0 (n - 1)) (i - 1) + (vv X al i (agC X c 0)).length * (sumN (f9 X al c 1 (n - 1 - i)) j9 + f9 X al c 1 (n - 1 - i) j9)); rw [Nat.mul_add, ← Nat.add_assoc]; exact ca_in (by omega) (hin.2 (by omega)) hxxe hyye b19p hzq b20p⟩ (by omega : 1000 - 100 * i - (j + 1) < w)
          · refine h_run 1 (pc' := 137) (l' := [(0, .inr (.inr 1826)), (1, .inl (c : Int)), (2, .inl (n : Int)), (3, .inl (H.1 1830 c)), (4, .inr (.inl sm)), (6, .inl (i : Int)), (7, .inr (.inl (H.1 1864 (((8 * (H.1 1831 (3 * c))) + (i : Int))).toNat))), (9, .inl (j : Int)), (10, .inr (.inl (H.1 1864 (((8 * (H.1 1831 ((3 * c) + 1))) + (j : Int))).toNat))), (12, .inl ((((n : Int) - 1) - (i : Int)) - (j : Int)))]) (st' := [.inl ((((n : Int) - 1) - (i : Int)) - (j : Int))]) rfl ?_
            refine h_zne (off := 7) (t := 144) rfl rfl (by omega) (fun c21 => ?_) (fun c21 => ?_)
            · refine h_run 2 (pc' := 178) (l' := [(0, .inr (.inr 1826)), (1, .inl (c : Int)), (2, .inl (n : Int)), (3, .inl (H.1 1830 c)), (4, .inr (.inl sm)), (6, .inl (i : Int)), (7, .inr (.inl (H.1 1864 (((8 * (H.1 1831 (3 * c))) + (i : Int))).toNat))), (9, .inl (j : Int)), (10, .inr (.inl (H.1 1864 (((8 * (H.1 1831 ((3 * c) + 1))) + (j : Int))).toNat))), (12, .inl ((((n : Int) - 1) - (i : Int)) - (j : Int)))]) (st' := [.inr (.inl 0)]) rfl ?_
              refine h_run 1 (pc' := 180) (l' := [(0, .inr (.inr 1826)), (1, .inl (c : Int)), (2, .inl (n : Int)), (3, .inl (H.1 1830 c)), (4, .inr (.inl sm)), (6, .inl (i : Int)), (7, .inr (.inl (H.1 1864 (((8 * (H.1 1831 (3 * c))) + (i : Int))).toNat))), (9, .inl (j : Int)), (10, .inr (.inl (H.1 1864 (((8 * (H.1 1831 ((3 * c) + 1))) + (j : Int))).toNat))), (12, .inl ((((n : Int) - 1) - (i : Int)) - (j : Int))), (13, .inr (.inl 0))]) (st' := []) rfl ?_
              have hzq : (0 : Int) = ((bq (tuC (vv X al) X c (1 + 1) (n - 1 - i - j)).length : Nat) : Int) := by first | (rw [tuC_qe (k := 1 + 1) (by omega), if_pos (by omega)]; rfl) | (rw [tuC_qe (k := 1 + 1) (by omega), if_neg (by omega)]; rfl) | (rw [show (1 + 1 : Nat) = 2 from rfl, tuC_q2 (by omega), if_neg (by omega), hzze, show kk = n - 1 - i - j by omega]) | (rw [show (1 + 1 : Nat) = 2 from rfl, tuC_q2 (by omega), if_pos (by omega)]; rfl)
              refine h_run 4 (pc' := 187) (l' := [(0, .inr (.inr 1826)), (1, .inl (c : Int)), (2, .inl (n : Int)), (3, .inl (H.1 1830 c)), (4, .inr (.inl sm)), (6, .inl (i : Int)), (7, .inr (.inl (H.1 1864 (((8 * (H.1 1831 (3 * c))) + (i : Int))).toNat))), (9, .inl (j : Int)), (10, .inr (.inl (H.1 1864 (((8 * (H.1 1831 ((3 * c) + 1))) + (j : Int))).toNat))), (12, .inl ((((n : Int) - 1) - (i : Int)) - (j : Int))), (13, .inr (.inl 0))]) (st' := [.inr (.inl ((H.1 1864 (((8 * (H.1 1831 (3 * c))) + (i : Int))).toNat) * (H.1 1864 (((8 * (H.1 1831 ((3 * c) + 1))) + (j : Int))).toNat))), .inr (.inl sm)]) rfl ?_
              have hm1 := mul_rg (x := (H.1 1864 (((8 * (H.1 1831 (3 * c))) + (i : Int))).toNat)) (y := (H.1 1864 (((8 * (H.1 1831 ((3 * c) + 1))) + (j : Int))).toNat)) hxx hyy
              refine h_cs (i := 489) (j := 208) (M' := mt_208) (xs := [.inr (.inl ((H.1 1864 (((8 * (H.1 1831 (3 * c))) + (i : Int))).toNat) * (H.1 1864 (((8 * (H.1 1831 ((3 * c) + 1))) + (j : Int))).toNat)))]) (rest := [.inr (.inl sm)]) rfl rfl rfl rfl rfl (Nat.le_of_ble_eq_true rfl) (Nat.le_of_ble_eq_true rfl) (by omega) (n_bounded (by omega) (by omega)) ?_
              rintro _ _ ⟨⟨b22, rfl, b22r, b22p⟩, rfl⟩
              refine h_run 0 (pc' := 190) (l' := [(0, .inr (.inr 1826)), (1, .inl (c : Int)), (2, .inl (n : Int)), (3, .inl (H.1 1830 c)), (4, .inr (.inl sm)), (6, .inl (i : Int)), (7, .inr (.inl (H.1 1864 (((8 * (H.1 1831 (3 * c))) + (i : Int))).toNat))), (9, .inl (j : Int)), (10, .inr (.inl (H.1 1864 (((8 * (H.1 1831 ((3 * c) + 1))) + (j : Int))).toNat))), (12, .inl ((((n : Int) - 1) - (i : Int)) - (j : Int))), (13, .inr (.inl 0))]) (st' := [.inr (.inl b22), .inr (.inl sm)]) rfl ?_
              have hzr : 0 ≤ (0 : Int) ∧ (0 : Int) ≤ 1000000 := by rw [hzq]; have q9 := bq_le (tuC (vv X al) X c (1 + 1) (n - 1 - i - j)).length; omega
              refine h_run 1 (pc' := 192) (l' := [(0, .inr (.inr 1826)), (1, .inl (c : Int)), (2, .inl (n : Int)), (3, .inl (H.1 1830 c)), (4, .inr (.inl sm)), (6, .inl (i : Int)), (7, .inr (.inl (H.1 1864 (((8 * (H.1 1831 (3 * c))) + (i : Int))).toNat))), (9, .inl (j : Int)), (10, .inr (.inl (H.1 1864 (((8 * (H.1 1831 ((3 * c) + 1))) + (j : Int))).toNat))), (12, .inl ((((n : Int) - 1) - (i : Int)) - (j : Int))), (13, .inr (.inl 0))]) (st' := [.inr (.inl 0), .inr (.inl b22), .inr (.inl sm)]) rfl ?_
              have hm2 := mul_rg (x := b22) (y := 0) (by omega) hzr
              refine h_run 2 (pc' := 194) (l' := [(0, .inr (.inr 1826)), (1, .inl (c : Int)), (2, .inl (n : Int)), (3, .inl (H.1 1830 c)), (4, .inr (.inl sm)), (6, .inl (i : Int)), (7, .inr (.inl (H.1 1864 (((8 * (H.1 1831 (3 * c))) + (i : Int))).toNat))), (9, .inl (j : Int)), (10, .inr (.inl (H.1 1864 (((8 * (H.1 1831 ((3 * c) + 1))) + (j : Int))).toNat))), (12, .inl ((((n : Int) - 1) - (i : Int)) - (j : Int))), (13, .inr (.inl 0))]) (st' := [.inr (.inl (sm + (b22 * 0)))]) rfl ?_
              refine h_cs (i := 489) (j := 208) (M' := mt_208) (xs := [.inr (.inl (sm + (b22 * 0)))]) (rest := []) rfl rfl rfl rfl rfl (Nat.le_of_ble_eq_true rfl) (Nat.le_of_ble_eq_true rfl) (by omega) (n_bounded (by omega) (by omega)) ?_
              rintro _ _ ⟨⟨b23, rfl, b23r, b23p⟩, rfl⟩
              refine h_run 0 (pc' := 197) (l' := [(0, .inr (.inr 1826)), (1, .inl (c : Int)), (2, .inl (n : Int)), (3, .inl (H.1 1830 c)), (4, .inr (.inl sm)), (6, .inl (i : Int)), (7, .inr (.inl (H.1 1864 (((8 * (H.1 1831 (3 * c))) + (i : Int))).toNat))), (9, .inl (j : Int)), (10, .inr (.inl (H.1 1864 (((8 * (H.1 1831 ((3 * c) + 1))) + (j : Int))).toNat))), (12, .inl ((((n : Int) - 1) - (i : Int)) - (j : Int))), (13, .inr (.inl 0))]) (st' := [.inr (.inl b23)]) rfl ?_
              refine h_run 3 (pc' := 82) (l' := [(0, .inr (.inr 1826)), (1, .inl (c : Int)), (2, .inl (n : Int)), (3, .inl (H.1 1830 c)), (4, .inr (.inl b23)), (6, .inl (i : Int)), (7, .inr (.inl (H.1 1864 (((8 * (H.1 1831 (3 * c))) + (i : Int))).toNat))), (9, .inl ((j : Int) + 1)), (10, .inr (.inl (H.1 1864 (((8 * (H.1 1831 ((3 * c) + 1))) + (j : Int))).toNat))), (12, .inl ((((n : Int) - 1) - (i : Int)) - (j : Int))), (13, .inr (.inl 0))]) (st' := []) rfl ?_
              refine h_loc [0, 1, 2, 3, 4, 6, 7, 9] rfl ?_
              rw [show ((j : Int) + 1) = (((j + 1) : Nat) : Int) by omega]
              exact ih.2 b23 i (j + 1) (by omega) (by omega) (by omega) (by omega) ⟨fun q9 => by exfalso; omega, fun q9 => by rw [Nat.add_sub_cancel]; obtain ⟨j9, rfl⟩ : ∃ j9, j = j9 + 1 := ⟨j - 1, by omega⟩; rw [Nat.add_sub_cancel] at hin; show _ = bq (sumN (f9 X al c 0 (n - 1)) (i - 1) + (vv X al i (agC X c 0)).length * (sumN (f9 X al c 1 (n - 1 - i)) j9 + f9 X al c 1 (n - 1 - i) j9)); rw [Nat.mul_add, ← Nat.add_assoc]; exact ca_in (by omega) (hin.2 (by omega)) hxxe hyye b22p hzq b23p⟩ (by omega : 1000 - 100 * i - (j + 1) < w)
            · refine h_run 2 (pc' := 178) (l' := [(0, .inr (.inr 1826)), (1, .inl (c : Int)), (2, .inl (n : Int)), (3, .inl (H.1 1830 c)), (4, .inr (.inl sm)), (6, .inl (i : Int)), (7, .inr (.inl (H.1 1864 (((8 * (H.1 1831 (3 * c))) + (i : Int))).toNat))), (9, .inl (j : Int)), (10, .inr (.inl (H.1 1864 (((8 * (H.1 1831 ((3 * c) + 1))) + (j : Int))).toNat))), (12, .inl ((((n : Int) - 1) - (i : Int)) - (j : Int)))]) (st' := [.inr (.inl 1)]) rfl ?_
              refine h_run 1 (pc' := 180) (l' := [(0, .inr (.inr 1826)), (1, .inl (c : Int)), (2, .inl (n : Int)), (3, .inl (H.1 1830 c)), (4, .inr (.inl sm)), (6, .inl (i : Int)), (7, .inr (.inl (H.1 1864 (((8 * (H.1 1831 (3 * c))) + (i : Int))).toNat))), (9, .inl (j : Int)), (10, .inr (.inl (H.1 1864 (((8 * (H.1 1831 ((3 * c) + 1))) + (j : Int))).toNat))), (12, .inl ((((n : Int) - 1) - (i : Int)) - (j : Int))), (13, .inr (.inl 1))]) (st' := []) rfl ?_
              have hzq : (1 : Int) = ((bq (tuC (vv X al) X c (1 + 1) (n - 1 - i - j)).length : Nat) : Int) := by first | (rw [tuC_qe (k := 1 + 1) (by omega), if_pos (by omega)]; rfl) | (rw [tuC_qe (k := 1 + 1) (by omega), if_neg (by omega)]; rfl) | (rw [show (1 + 1 : Nat) = 2 from rfl, tuC_q2 (by omega), if_neg (by omega), hzze, show kk = n - 1 - i - j by omega]) | (rw [show (1 + 1 : Nat) = 2 from rfl, tuC_q2 (by omega), if_pos (by omega)]; rfl)
              refine h_run 4 (pc' := 187) (l' := [(0, .inr (.inr 1826)), (1, .inl (c : Int)), (2, .inl (n : Int)), (3, .inl (H.1 1830 c)), (4, .inr (.inl sm)), (6, .inl (i : Int)), (7, .inr (.inl (H.1 1864 (((8 * (H.1 1831 (3 * c))) + (i : Int))).toNat))), (9, .inl (j : Int)), (10, .inr (.inl (H.1 1864 (((8 * (H.1 1831 ((3 * c) + 1))) + (j : Int))).toNat))), (12, .inl ((((n : Int) - 1) - (i : Int)) - (j : Int))), (13, .inr (.inl 1))]) (st' := [.inr (.inl ((H.1 1864 (((8 * (H.1 1831 (3 * c))) + (i : Int))).toNat) * (H.1 1864 (((8 * (H.1 1831 ((3 * c) + 1))) + (j : Int))).toNat))), .inr (.inl sm)]) rfl ?_
              have hm1 := mul_rg (x := (H.1 1864 (((8 * (H.1 1831 (3 * c))) + (i : Int))).toNat)) (y := (H.1 1864 (((8 * (H.1 1831 ((3 * c) + 1))) + (j : Int))).toNat)) hxx hyy
              refine h_cs (i := 489) (j := 208) (M' := mt_208) (xs := [.inr (.inl ((H.1 1864 (((8 * (H.1 1831 (3 * c))) + (i : Int))).toNat) * (H.1 1864 (((8 * (H.1 1831 ((3 * c) + 1))) + (j : Int))).toNat)))]) (rest := [.inr (.inl sm)]) rfl rfl rfl rfl rfl (Nat.le_of_ble_eq_true rfl) (Nat.le_of_ble_eq_true rfl) (by omega) (n_bounded (by omega) (by omega)) ?_
              rintro _ _ ⟨⟨b24, rfl, b24r, b24p⟩, rfl⟩
              refine h_run 0 (pc' := 190) (l' := [(0, .inr (.inr 1826)), (1, .inl (c : Int)), (2, .inl (n : Int)), (3, .inl (H.1 1830 c)), (4, .inr (.inl sm)), (6, .inl (i : Int)), (7, .inr (.inl (H.1 1864 (((8 * (H.1 1831 (3 * c))) + (i : Int))).toNat))), (9, .inl (j : Int)), (10, .inr (.inl (H.1 1864 (((8 * (H.1 1831 ((3 * c) + 1))) + (j : Int))).toNat))), (12, .inl ((((n : Int) - 1) - (i : Int)) - (j : Int))), (13, .inr (.inl 1))]) (st' := [.inr (.inl b24), .inr (.inl sm)]) rfl ?_
              have hzr : 0 ≤ (1 : Int) ∧ (1 : Int) ≤ 1000000 := by rw [hzq]; have q9 := bq_le (tuC (vv X al) X c (1 + 1) (n - 1 - i - j)).length; omega
              refine h_run 1 (pc' := 192) (l' := [(0, .inr (.inr 1826)), (1, .inl (c : Int)), (2, .inl (n : Int)), (3, .inl (H.1 1830 c)), (4, .inr (.inl sm)), (6, .inl (i : Int)), (7, .inr (.inl (H.1 1864 (((8 * (H.1 1831 (3 * c))) + (i : Int))).toNat))), (9, .inl (j : Int)), (10, .inr (.inl (H.1 1864 (((8 * (H.1 1831 ((3 * c) + 1))) + (j : Int))).toNat))), (12, .inl ((((n : Int) - 1) - (i : Int)) - (j : Int))), (13, .inr (.inl 1))]) (st' := [.inr (.inl 1), .inr (.inl b24), .inr (.inl sm)]) rfl ?_
              have hm2 := mul_rg (x := b24) (y := 1) (by omega) hzr
              refine h_run 2 (pc' := 194) (l' := [(0, .inr (.inr 1826)), (1, .inl (c : Int)), (2, .inl (n : Int)), (3, .inl (H.1 1830 c)), (4, .inr (.inl sm)), (6, .inl (i : Int)), (7, .inr (.inl (H.1 1864 (((8 * (H.1 1831 (3 * c))) + (i : Int))).toNat))), (9, .inl (j : Int)), (10, .inr (.inl (H.1 1864 (((8 * (H.1 1831 ((3 * c) + 1))) + (j : Int))).toNat))), (12, .inl ((((n : Int) - 1) - (i : Int)) - (j : Int))), (13, .inr (.inl 1))]) (st' := [.inr (.inl (sm + (b24 * 1)))]) rfl ?_
              refine h_cs (i := 489) (j := 208) (M' := mt_208) (xs := [.inr (.inl (sm + (b24 * 1)))]) (rest := []) rfl rfl rfl rfl rfl (Nat.le_of_ble_eq_true rfl) (Nat.le_of_ble_eq_true rfl) (by omega) (n_bounded (by omega) (by omega)) ?_
              rintro _ _ ⟨⟨b25, rfl, b25r, b25p⟩, rfl⟩
              refine h_run 0 (pc' := 197) (l' := [(0, .inr (.inr 1826)), (1, .inl (c : Int)), (2, .inl (n : Int)), (3, .inl (H.1 1830 c)), (4, .inr (.inl sm)), (6, .inl (i : Int)), (7, .inr (.inl (H.1 1864 (((8 * (H.1 1831 (3 * c))) + (i : Int))).toNat))), (9, .inl (j : Int)), (10, .inr (.inl (H.1 1864 (((8 * (H.1 1831 ((3 * c) + 1))) + (j : Int))).toNat))), (12, .inl ((((n : Int) - 1) - (i : Int)) - (j : Int))), (13, .inr (.inl 1))]) (st' := [.inr (.inl b25)]) rfl ?_
              refine h_run 3 (pc' := 82) (l' := [(0, .inr (.inr 1826)), (1, .inl (c : Int)), (2, .inl (n : Int)), (3, .inl (H.1 1830 c)), (4, .inr (.inl b25)), (6, .inl (i : Int)), (7, .inr (.inl (H.1 1864 (((8 * (H.1 1831 (3 * c))) + (i : Int))).toNat))), (9, .inl ((j : Int) + 1)), (10, .inr (.inl (H.1 1864 (((8 * (H.1 1831 ((3 * c) + 1))) + (j : Int))).toNat))), (12, .inl ((((n : Int) - 1) - (i : Int)) - (j : Int))), (13, .inr (.inl 1))]) (st' := []) rfl ?_
              refine h_loc [0, 1, 2, 3, 4, 6, 7, 9] rfl ?_
              rw [show ((j : Int) + 1) = (((j + 1) : Nat) : Int) by omega]
              exact ih.2 b25 i (j + 1) (by omega) (by omega) (by omega) (by omega) ⟨fun q9 => by exfalso; omega, fun q9 => by rw [Nat.add_sub_cancel]; obtain ⟨j9, rfl⟩ : ∃ j9, j = j9 + 1 := ⟨j - 1, by omega⟩; rw [Nat.add_sub_cancel] at hin; show _ = bq (sumN (f9 X al c 0 (n - 1)) (i - 1) + (vv X al i (agC X c 0)).length * (sumN (f9 X al c 1 (n - 1 - i)) j9 + f9 X al c 1 (n - 1 - i) j9)); rw [Nat.mul_add, ← Nat.add_assoc]; exact ca_in (by omega) (hin.2 (by omega)) hxxe hyye b24p hzq b25p⟩ (by omega : 1000 - 100 * i - (j + 1) < w)
set_option maxRecDepth 100000 in
theorem n_conAmount {zC : Nat → Option zsh} {d : Nat} (hd : 4 ≤ d) {H : hp} {X : rx} {al : Bool} {c n : Nat} (hP : PWc H) (hX : RT9 H X) (hc : (c : Int) < (H.1 1826 3)) (hn : 1 ≤ n ∧ n ≤ 6) (hAX : AX (H.1 1864) X al n 0) : hG (zs zC) d mt_210 0 (zargs 0 [.inr (.inr 1826), .inl (c : Int), .inl (n : Int)]) [] H (fun r9 H2 => (∃ r : Int, r9 = some (.inr (.inl r)) ∧ r = ((bq (tuC (vv X al) X c 0 (n - 1)).length : Nat) : Int)) ∧ H = H2) := by
  refine h_rng (fun hrg0 => ?_)
  refine h_run 0 (pc' := 0) (l' := [(0, .inr (.inr 1826)), (1, .inl (c : Int)), (2, .inl (n : Int))]) (st' := []) rfl ?_
  obtain ⟨⟨pb1, pb2, pb3, pb4, pb5⟩, pw1, pw2, pw3, pw4⟩ := (id hP : PW H (H.1 1826 1) (H.1 1826 3) (H.1 1826 8) (H.1 1826 13) (H.1 1826 19))
  obtain ⟨hca, hct, hcg⟩ := pw1 c (by omega)
  obtain ⟨⟨xr3, xr4⟩, xrc⟩ := id hX
  obtain ⟨xc3, xc4, xc5⟩ := xrc c (by omega)
  have haq : (aQ9 X c : Int) = (H.1 1830) c := by unfold aQ9; omega
  refine h_run 3 (pc' := 5) (l' := [(0, .inr (.inr 1826)), (1, .inl (c : Int)), (2, .inl (n : Int))]) (st' := [.inl (c : Int), .inr (.inr 1830)]) rfl ?_
  refine h_ild (c := 1830) (j := c) (i := (c : Int)) rfl rfl (by decide) rfl (by omega) ?_
  have g26 : -2147483648 ≤ (H.1 1830 c) ∧ (H.1 1830 c) ≤ 2147483647 := hrg0.2 1830 c 16 .int rfl (by omega)
  refine h_run 0 (pc' := 6) (l' := [(0, .inr (.inr 1826)), (1, .inl (c : Int)), (2, .inl (n : Int))]) (st' := [.inl (H.1 1830 c)]) rfl ?_
  refine h_run 2 (pc' := 8) (l' := [(0, .inr (.inr 1826)), (1, .inl (c : Int)), (2, .inl (n : Int)), (3, .inl (H.1 1830 c))]) (st' := [.inl (H.1 1830 c)]) rfl ?_
  refine h_zne (off := 14) (t := 22) rfl rfl (by omega) (fun c27 => ?_) (fun c27 => ?_)
  · refine h_run 4 (pc' := 28) (l' := [(0, .inr (.inr 1826)), (1, .inl (c : Int)), (2, .inl (n : Int)), (3, .inl (H.1 1830 c)), (4, .inr (.inl 0)), (6, .inl 1)]) (st' := []) rfl ?_
    exact (n_conAmount_cut hd hP hX hc hn hAX _).1 (0 : Int) 1 (by omega) (by omega) (by omega) (by show bq 0 = bq 0; rfl) (Nat.lt_succ_self _)
  · refine h_run 2 (pc' := 13) (l' := [(0, .inr (.inr 1826)), (1, .inl (c : Int)), (2, .inl (n : Int)), (3, .inl (H.1 1830 c))]) (st' := [.inl 1, .inl (n : Int)]) rfl ?_
    refine h_ine (off := 7) (t := 20) rfl rfl (by omega) (by decide) (fun c28 => ?_) (fun c28 => ?_)
    · refine h_run 1 (pc' := 21) (l' := [(0, .inr (.inr 1826)), (1, .inl (c : Int)), (2, .inl (n : Int)), (3, .inl (H.1 1830 c))]) (st' := [.inr (.inl 0)]) rfl ?_
      refine h_retl (x := 0) rfl rfl ?_
      exact ⟨⟨_, rfl, by rw [tuC_qe (k := 0) (by omega), if_neg (by omega)]; rfl⟩, rfl⟩
    · refine h_run 2 (pc' := 21) (l' := [(0, .inr (.inr 1826)), (1, .inl (c : Int)), (2, .inl (n : Int)), (3, .inl (H.1 1830 c))]) (st' := [.inr (.inl 1)]) rfl ?_
      refine h_retl (x := 1) rfl rfl ?_
      exact ⟨⟨_, rfl, by rw [tuC_qe (k := 0) (by omega), if_pos (by omega)]; rfl⟩, rfl⟩


theorem AX_0 {am : Nat → Int} {X : rx} {al : Bool} : AX am X al 1 0 := fun u k _ h1 h2 => by omega
theorem AX_next {am : Nat → Int} {X : rx} {al : Bool} {n t : Nat} (h : AX am X al n t) (ht : X 0 3 ≤ (t : Int)) : AX am X al (n + 1) 0 := fun u k h1 h2 h3 => h u k h1 h2 (by omega)
theorem AX_le {am : Nat → Int} {X : rx} {al : Bool} {n t : Nat} (h : AX am X al n t) : AX am X al n 0 := fun u k h1 h2 h3 => h u k h1 h2 (by omega)
theorem AX_put {am : Nat → Int} {X : rx} {al : Bool} {n t j : Nat} {z : Int} (h : AX am X al n t) (hn : 1 ≤ n ∧ n ≤ 6) (hj : j = 8 * t + n) (hz : z = ((bq (vv X al n (t : Int)).length : Nat) : Int)) : AX (up am j z) X al n (t + 1) := by
  intro u k h1 h2 h3
  by_cases e : u = t ∧ k = n
  · obtain ⟨rfl, rfl⟩ := e
    rw [← hj, up_eq, hz]
  · rw [up_ne _ _ (by omega)]
    exact h u k h1 h2 (by omega)

/-! countValues -/
set_option maxRecDepth 100000 in
theorem n_countValues_cut {zC : Nat → Option zsh} {d : Nat} (hd : 6 ≤ d) {H : hp} {X : rx} {al : Bool} {mo : Nat} {alz : Int} (hP : PWc H) (hX : RT9 H X) (hm : 1 ≤ mo ∧ mo ≤ 6) (hal : hid ((al = false → alz = 0) ∧ (al = true → alz = 1))) (halz : 0 ≤ alz ∧ alz ≤ 1) : ∀ w : Nat, (∀ (H1 : hp) (k : Nat), (fr [] [1864] H H1) → (k ≤ 48) → 100000 - k < w → hG (zs zC) d mt_209 2 [(0, .inr (.inr 1826)), (1, .inl (mo : Int)), (2, .inl alz), (3, .inl (k : Int))] [] H1 (fun r9 H2 => r9 = none ∧ fr [] [1864] H H2 ∧ AX (H2.1 1864) X al (mo + 1) 0)) ∧ (∀ (H1 : hp) (n : Nat), (fr [] [1864] H H1) → (AX (H1.1 1864) X al n 0) → (1 ≤ n ∧ n ≤ mo + 1) → 50000 - 5000 * n < w → hG (zs zC) d mt_209 23 [(0, .inr (.inr 1826)), (1, .inl (mo : Int)), (2, .inl alz), (3, .inl (n : Int))] [] H1 (fun r9 H2 => r9 = none ∧ fr [] [1864] H H2 ∧ AX (H2.1 1864) X al (mo + 1) 0)) ∧ (∀ (H1 : hp) (n : Nat) (t : Nat), (fr [] [1864] H H1) → (AX (H1.1 1864) X al n t) → (1 ≤ n ∧ n ≤ mo) → (t ≤ 6) → 50000 - 5000 * n - 100 - 100 * t < w → hG (zs zC) d mt_209 31 [(0, .inr (.inr 1826)), (1, .inl (mo : Int)), (2, .inl alz), (3, .inl (n : Int)), (4, .inl (t : Int))] [] H1 (fun r9 H2 => r9 = none ∧ fr [] [1864] H H2 ∧ AX (H2.1 1864) X al (mo + 1) 0)) ∧ (∀ (H1 : hp) (n : Nat) (t : Nat) (sm : Int) (c : Nat), (fr [] [1864] H H1) → (AX (H1.1 1864) X al n t) → (1 ≤ n ∧ n ≤ mo) → ((t : Int) < (H1.1 1826 1)) → (c ≤ 16 ∧ (c : Int) ≤ (H1.1 1826 3)) → (0 ≤ sm ∧ sm ≤ 1000000 * c + 1) → (bq sm.toNat = bq (uN al n + sumN (g9 X al (t : Int) (n - 1)) c)) → 50000 - 5000 * n - 100 - 100 * t - 10 - c < w → hG (zs zC) d mt_209 59 [(0, .inr (.inr 1826)), (1, .inl (mo : Int)), (2, .inl alz), (3, .inl (n : Int)), (4, .inl (t : Int)), (5, .inr (.inl sm)), (7, .inl (c : Int))] [] H1 (fun r9 H2 => r9 = none ∧ fr [] [1864] H H2 ∧ AX (H2.1 1864) X al (mo + 1) 0)) := by
  intro w
  induction w with
  | zero => exact ⟨fun _ _ _ _ h => absurd h (Nat.not_lt_zero _), fun _ _ _ _ _ h => absurd h (Nat.not_lt_zero _), fun _ _ _ _ _ _ _ h => absurd h (Nat.not_lt_zero _), fun _ _ _ _ _ _ _ _ _ _ _ _ h => absurd h (Nat.not_lt_zero _)⟩
  | succ w ih =>
    refine ⟨?_, ?_, ?_, ?_⟩
    · intro H1 k hf hk hw
      refine h_rng (fun hrg1 => ?_)
      refine h_run 2 (pc' := 5) (l' := [(0, .inr (.inr 1826)), (1, .inl (mo : Int)), (2, .inl alz), (3, .inl (k : Int))]) (st' := [.inl 48, .inl (k : Int)]) rfl ?_
      refine h_ige (off := 16) (t := 21) rfl rfl (by omega) (by decide) (fun c2 => ?_) (fun c2 => ?_)
      · refine h_run 2 (pc' := 23) (l' := [(0, .inr (.inr 1826)), (1, .inl (mo : Int)), (2, .inl alz), (3, .inl 1)]) (st' := []) rfl ?_
        exact ih.2.1 _ 1 hf AX_0 (by omega) (by omega : 50000 - 5000 * 1 < w)
      · refine h_run 4 (pc' := 14) (l' := [(0, .inr (.inr 1826)), (1, .inl (mo : Int)), (2, .inl alz), (3, .inl (k : Int))]) (st' := [.inr (.inl 0), .inl (k : Int), .inr (.inr 1864)]) rfl ?_
        refine h_lst (c := 1864) (j := k) (i := (k : Int)) (x := 0) rfl rfl (by decide) (by decide) rfl (by omega) (by decide) ?_
        refine h_run 2 (pc' := 2) (l' := [(0, .inr (.inr 1826)), (1, .inl (mo : Int)), (2, .inl alz), (3, .inl ((k : Int) + 1))]) (st' := []) rfl ?_
        rw [show ((k : Int) + 1) = (((k + 1) : Nat) : Int) by omega]
        exact ih.1 _ (k + 1) (fr_a hf (by decide)) (by omega) (by omega : 100000 - (k + 1) < w)
    · intro H1 n hf hAX hn hw
      refine h_rng (fun hrg3 => ?_)
      have hP1 : PWc H1 := PWc_fr hP hf (by decide) (by decide)
      have hX1 : RT9 H1 X := RT_fr hX hf (by decide) (by decide)
      obtain ⟨⟨pb1, pb2, pb3, pb4, pb5⟩, pw1, pw2, pw3, pw4⟩ := (id hP1 : PW H1 (H1.1 1826 1) (H1.1 1826 3) (H1.1 1826 8) (H1.1 1826 13) (H1.1 1826 19))
      obtain ⟨⟨xr3, xr4⟩, xrc⟩ := id hX1
      refine h_run 2 (pc' := 25) (l' := [(0, .inr (.inr 1826)), (1, .inl (mo : Int)), (2, .inl alz), (3, .inl (n : Int))]) (st' := [.inl (mo : Int), .inl (n : Int)]) rfl ?_
      refine h_igt (off := 106) (t := 131) rfl rfl (by omega) (by omega) (fun c4 => ?_) (fun c4 => ?_)
      · refine h_ret rfl rfl ?_
        exact ⟨rfl, hf, (by rw [show mo + 1 = n by omega]; exact hAX)⟩
      · refine h_run 2 (pc' := 31) (l' := [(0, .inr (.inr 1826)), (1, .inl (mo : Int)), (2, .inl alz), (3, .inl (n : Int)), (4, .inl 0)]) (st' := []) rfl ?_
        have g5 : -2147483648 ≤ (H1.1 1826 1) ∧ (H1.1 1826 1) ≤ 2147483647 := hrg3.1 1826 13 1 _ .int rfl rfl
        have e6 : (H1.1 1826 1) = (H.1 1826 1) := hf.2.2 1 (by decide)
        exact ih.2.2.1 _ n 0 hf hAX (by omega) (by omega) (by omega : 50000 - 5000 * n - 100 - 100 * 0 < w)
    · intro H1 n t hf hAX hn ht hw
      refine h_rng (fun hrg7 => ?_)
      have hP1 : PWc H1 := PWc_fr hP hf (by decide) (by decide)
      have hX1 : RT9 H1 X := RT_fr hX hf (by decide) (by decide)
      obtain ⟨⟨pb1, pb2, pb3, pb4, pb5⟩, pw1, pw2, pw3, pw4⟩ := (id hP1 : PW H1 (H1.1 1826 1) (H1.1 1826 3) (H1.1 1826 8) (H1.1 1826 13) (H1.1 1826 19))
      obtain ⟨⟨xr3, xr4⟩, xrc⟩ := id hX1
      refine h_run 3 (pc' := 37) (l' := [(0, .inr (.inr 1826)), (1, .inl (mo : Int)), (2, .inl alz), (3, .inl (n : Int)), (4, .inl (t : Int))]) (st' := [.inl (H1.1 1826 1), .inl (t : Int)]) rfl ?_
      have g8 : -2147483648 ≤ (H1.1 1826 1) ∧ (H1.1 1826 1) ≤ 2147483647 := hrg7.1 1826 13 1 _ .int rfl rfl
      have e9 : (H1.1 1826 1) = (H.1 1826 1) := hf.2.2 1 (by decide)
      refine h_ige (off := 88) (t := 125) rfl rfl (by omega) (by omega) (fun c10 => ?_) (fun c10 => ?_)
      · refine h_run 2 (pc' := 23) (l' := [(0, .inr (.inr 1826)), (1, .inl (mo : Int)), (2, .inl alz), (3, .inl ((n : Int) + 1)), (4, .inl (t : Int))]) (st' := []) rfl ?_
        refine h_loc [0, 1, 2, 3] rfl ?_
        rw [show ((n : Int) + 1) = (((n + 1) : Nat) : Int) by omega]
        exact ih.2.1 _ (n + 1) hf (AX_next hAX (by omega)) (by omega) (by omega : 50000 - 5000 * (n + 1) < w)
      · replace hal : (al = false → alz = 0) ∧ (al = true → alz = 1) := hal
        refine h_run 2 (pc' := 42) (l' := [(0, .inr (.inr 1826)), (1, .inl (mo : Int)), (2, .inl alz), (3, .inl (n : Int)), (4, .inl (t : Int))]) (st' := [.inl 1, .inl (n : Int)]) rfl ?_
        refine h_ine (off := 11) (t := 53) rfl rfl (by omega) (by decide) (fun c11 => ?_) (fun c11 => ?_)
        · refine h_run 4 (pc' := 59) (l' := [(0, .inr (.inr 1826)), (1, .inl (mo : Int)), (2, .inl alz), (3, .inl (n : Int)), (4, .inl (t : Int)), (5, .inr (.inl 0)), (7, .inl 0)]) (st' := []) rfl ?_
          exact ih.2.2.2 _ n t (0 : Int) 0 hf hAX (by omega) (by omega : (t : Int) < (H1.1 1826 1)) (by omega) (by omega) (by show bq _ = bq (uN al n + 0); rw [Nat.add_zero]; unfold uN; cases al; { have q9 := hal.1 rfl; rw [if_neg (fun q8 => absurd q8.1 (by decide))]; first | rfl | (exfalso; omega) }; { have q9 := hal.2 rfl; first | (rw [if_pos ⟨rfl, by omega⟩]; rfl) | (rw [if_neg (fun q8 => by have := q8.2; omega)]; rfl) | (exfalso; omega) }) (by omega : 50000 - 5000 * n - 100 - 100 * t - 10 - 0 < w)
        · refine h_run 1 (pc' := 46) (l' := [(0, .inr (.inr 1826)), (1, .inl (mo : Int)), (2, .inl alz), (3, .inl (n : Int)), (4, .inl (t : Int))]) (st' := [.inl alz]) rfl ?_
          refine h_zeq (off := 7) (t := 53) rfl rfl (by omega) (fun c12 => ?_) (fun c12 => ?_)
          · refine h_run 4 (pc' := 59) (l' := [(0, .inr (.inr 1826)), (1, .inl (mo : Int)), (2, .inl alz), (3, .inl (n : Int)), (4, .inl (t : Int)), (5, .inr (.inl 0)), (7, .inl 0)]) (st' := []) rfl ?_
            exact ih.2.2.2 _ n t (0 : Int) 0 hf hAX (by omega) (by omega : (t : Int) < (H1.1 1826 1)) (by omega) (by omega) (by show bq _ = bq (uN al n + 0); rw [Nat.add_zero]; unfold uN; cases al; { have q9 := hal.1 rfl; rw [if_neg (fun q8 => absurd q8.1 (by decide))]; first | rfl | (exfalso; omega) }; { have q9 := hal.2 rfl; first | (rw [if_pos ⟨rfl, by omega⟩]; rfl) | (rw [if_neg (fun q8 => by have := q8.2; omega)]; rfl) | (exfalso; omega) }) (by omega : 50000 - 5000 * n - 100 - 100 * t - 10 - 0 < w)
          · refine h_run 5 (pc' := 59) (l' := [(0, .inr (.inr 1826)), (1, .inl (mo : Int)), (2, .inl alz), (3, .inl (n : Int)), (4, .inl (t : Int)), (5, .inr (.inl 1)), (7, .inl 0)]) (st' := []) rfl ?_
            exact ih.2.2.2 _ n t (1 : Int) 0 hf hAX (by omega) (by omega : (t : Int) < (H1.1 1826 1)) (by omega) (by omega) (by show bq _ = bq (uN al n + 0); rw [Nat.add_zero]; unfold uN; cases al; { have q9 := hal.1 rfl; rw [if_neg (fun q8 => absurd q8.1 (by decide))]; first | rfl | (exfalso; omega) }; { have q9 := hal.2 rfl; first | (rw [if_pos ⟨rfl, by omega⟩]; rfl) | (rw [if_neg (fun q8 => by have := q8.2; omega)]; rfl) | (exfalso; omega) }) (by omega : 50000 - 5000 * n - 100 - 100 * t - 10 - 0 < w)
    · intro H1 n t sm c hf hAX hn ht hc hsm hin hw
      refine h_rng (fun hrg13 => ?_)
      have hP1 : PWc H1 := PWc_fr hP hf (by decide) (by decide)
      have hX1 : RT9 H1 X := RT_fr hX hf (by decide) (by decide)
      obtain ⟨⟨pb1, pb2, pb3, pb4, pb5⟩, pw1, pw2, pw3, pw4⟩ := (id hP1 : PW H1 (H1.1 1826 1) (H1.1 1826 3) (H1.1 1826 8) (H1.1 1826 13) (H1.1 1826 19))
      obtain ⟨⟨xr3, xr4⟩, xrc⟩ := id hX1
      replace hal : (al = false → alz = 0) ∧ (al = true → alz = 1) := hal
      refine h_run 3 (pc' := 65) (l' := [(0, .inr (.inr 1826)), (1, .inl (mo : Int)), (2, .inl alz), (3, .inl (n : Int)), (4, .inl (t : Int)), (5, .inr (.inl sm)), (7, .inl (c : Int))]) (st' := [.inl (H1.1 1826 3), .inl (c : Int)]) rfl ?_
      have g14 : -2147483648 ≤ (H1.1 1826 3) ∧ (H1.1 1826 3) ≤ 2147483647 := hrg13.1 1826 13 3 _ .int rfl rfl
      have e15 : (H1.1 1826 3) = (H.1 1826 3) := hf.2.2 3 (by decide)
      refine h_ige (off := 37) (t := 102) rfl rfl (by omega) (by omega) (fun c16 => ?_) (fun c16 => ?_)
      · refine h_run 8 (pc' := 115) (l' := [(0, .inr (.inr 1826)), (1, .inl (mo : Int)), (2, .inl alz), (3, .inl (n : Int)), (4, .inl (t : Int)), (5, .inr (.inl sm)), (7, .inl (c : Int))]) (st' := [.inr (.inl sm), .inl ((8 * (t : Int)) + (n : Int)), .inr (.inr 1864)]) rfl ?_
        refine h_cs (i := 489) (j := 208) (M' := mt_208) (xs := [.inr (.inl sm)]) (rest := [.inl ((8 * (t : Int)) + (n : Int)), .inr (.inr 1864)]) rfl rfl rfl rfl rfl (Nat.le_of_ble_eq_true rfl) (Nat.le_of_ble_eq_true rfl) (by omega) (n_bounded (by omega) (by omega)) ?_
        rintro _ _ ⟨⟨b17, rfl, b17r, b17p⟩, rfl⟩
        refine h_run 0 (pc' := 118) (l' := [(0, .inr (.inr 1826)), (1, .inl (mo : Int)), (2, .inl alz), (3, .inl (n : Int)), (4, .inl (t : Int)), (5, .inr (.inl sm)), (7, .inl (c : Int))]) (st' := [.inr (.inl b17), .inl ((8 * (t : Int)) + (n : Int)), .inr (.inr 1864)]) rfl ?_
        refine h_lst (c := 1864) (j := ((8 * t) + n)) (i := ((8 * (t : Int)) + (n : Int))) (x := b17) rfl rfl (by decide) (by decide) (by omega) (by omega) (by first | omega | exact z_long _) ?_
        refine h_run 2 (pc' := 31) (l' := [(0, .inr (.inr 1826)), (1, .inl (mo : Int)), (2, .inl alz), (3, .inl (n : Int)), (4, .inl ((t : Int) + 1)), (5, .inr (.inl sm)), (7, .inl (c : Int))]) (st' := []) rfl ?_
        have g18 : -2147483648 ≤ (H1.1 1826 1) ∧ (H1.1 1826 1) ≤ 2147483647 := hrg13.1 1826 13 1 _ .int rfl rfl
        have e19 : (H1.1 1826 1) = (H.1 1826 1) := hf.2.2 1 (by decide)
        refine h_loc [0, 1, 2, 3, 4] rfl ?_
        rw [show ((t : Int) + 1) = (((t + 1) : Nat) : Int) by omega]
        exact ih.2.2.1 _ n (t + 1) (fr_a hf (by decide)) (AX_put hAX (by omega) (by omega) (by obtain ⟨n9, rfl⟩ : ∃ n9, n = n9 + 1 := ⟨n - 1, by omega⟩; rw [vv_sz]; refine bd_q (by omega) ?_ b17p; rw [hin, show c = nC9 X by unfold nC9; omega]; rfl)) (by omega) (by omega) (by omega : 50000 - 5000 * n - 100 - 100 * (t + 1) < w)
      · refine h_run 4 (pc' := 76) (l' := [(0, .inr (.inr 1826)), (1, .inl (mo : Int)), (2, .inl alz), (3, .inl (n : Int)), (4, .inl (t : Int)), (5, .inr (.inl sm)), (7, .inl (c : Int))]) (st' := [.inl (c : Int), .inr (.inr 1829), .inr (.inl sm)]) rfl ?_
        refine h_ild (c := 1829) (j := c) (i := (c : Int)) rfl rfl (by decide) rfl (by omega) ?_
        have g20 : -2147483648 ≤ (H1.1 1829 c) ∧ (H1.1 1829 c) ≤ 2147483647 := hrg13.2 1829 c 16 .int rfl (by omega)
        have e21 : (H1.1 1829 c) = (H.1 1829 c) := congrFun (hf.2.1 1829 (by decide) (by decide)) c
        refine h_run 0 (pc' := 77) (l' := [(0, .inr (.inr 1826)), (1, .inl (mo : Int)), (2, .inl alz), (3, .inl (n : Int)), (4, .inl (t : Int)), (5, .inr (.inl sm)), (7, .inl (c : Int))]) (st' := [.inl (H1.1 1829 c), .inr (.inl sm)]) rfl ?_
        refine h_run 1 (pc' := 79) (l' := [(0, .inr (.inr 1826)), (1, .inl (mo : Int)), (2, .inl alz), (3, .inl (n : Int)), (4, .inl (t : Int)), (5, .inr (.inl sm)), (7, .inl (c : Int))]) (st' := [.inl (t : Int), .inl (H1.1 1829 c), .inr (.inl sm)]) rfl ?_
        refine h_ine (off := 13) (t := 92) rfl rfl (by omega) (by omega) (fun c22 => ?_) (fun c22 => ?_)
        · refine h_run 5 (pc' := 59) (l' := [(0, .inr (.inr 1826)), (1, .inl (mo : Int)), (2, .inl alz), (3, .inl (n : Int)), (4, .inl (t : Int)), (5, .inr (.inl (sm + 0))), (7, .inl ((c : Int) + 1))]) (st' := []) rfl ?_
          rw [show ((c : Int) + 1) = (((c + 1) : Nat) : Int) by omega]
          exact ih.2.2.2 _ n t (sm + 0) (c + 1) hf hAX (by omega) (by omega : (t : Int) < (H1.1 1826 1)) (by omega) (by omega) (by show _ = bq (uN al n + (sumN (g9 X al (t : Int) (n - 1)) c + g9 X al (t : Int) (n - 1) c)); rw [show g9 X al (t : Int) (n - 1) c = 0 from if_neg (by obtain ⟨q9, -⟩ := xrc c (by omega); omega), Nat.add_zero]; first | exact hin | (rw [show ((sm + 0)).toNat = sm.toNat by omega]; exact hin)) (by omega : 50000 - 5000 * n - 100 - 100 * t - 10 - (c + 1) < w)
        · refine h_run 3 (pc' := 86) (l' := [(0, .inr (.inr 1826)), (1, .inl (mo : Int)), (2, .inl alz), (3, .inl (n : Int)), (4, .inl (t : Int)), (5, .inr (.inl sm)), (7, .inl (c : Int))]) (st' := [.inl (n : Int), .inl (c : Int), .inr (.inr 1826), .inr (.inl sm)]) rfl ?_
          refine h_cv (i := 485) (j := 210) (b := 1826) (M' := mt_210) (xs := [.inl (n : Int), .inl (c : Int)]) (rest := [.inr (.inl sm)]) rfl rfl rfl rfl rfl rfl (Nat.le_of_ble_eq_true rfl) (Nat.le_of_ble_eq_true rfl) (by omega) (n_conAmount (by omega) hP1 hX1 (by omega) (by omega) (AX_le hAX)) ?_
          rintro _ _ ⟨⟨b23, rfl, b23e⟩, rfl⟩
          have b23r := bq_le (tuC (vv X al) X c 0 (n - 1)).length
          refine h_run 0 (pc' := 89) (l' := [(0, .inr (.inr 1826)), (1, .inl (mo : Int)), (2, .inl alz), (3, .inl (n : Int)), (4, .inl (t : Int)), (5, .inr (.inl sm)), (7, .inl (c : Int))]) (st' := [.inr (.inl b23), .inr (.inl sm)]) rfl ?_
          refine h_run 5 (pc' := 59) (l' := [(0, .inr (.inr 1826)), (1, .inl (mo : Int)), (2, .inl alz), (3, .inl (n : Int)), (4, .inl (t : Int)), (5, .inr (.inl (sm + b23))), (7, .inl ((c : Int) + 1))]) (st' := []) rfl ?_
          rw [show ((c : Int) + 1) = (((c + 1) : Nat) : Int) by omega]
          exact ih.2.2.2 _ n t (sm + b23) (c + 1) hf hAX (by omega) (by omega : (t : Int) < (H1.1 1826 1)) (by omega) (by omega) (by show _ = bq (uN al n + (sumN (g9 X al (t : Int) (n - 1)) c + g9 X al (t : Int) (n - 1) c)); rw [show g9 X al (t : Int) (n - 1) c = (tuC (vv X al) X c 0 (n - 1)).length from if_pos (by obtain ⟨q9, -⟩ := xrc c (by omega); omega), ← Nat.add_assoc, show ((sm + b23)).toNat = sm.toNat + bq (tuC (vv X al) X c 0 (n - 1)).length by omega]; exact bq_add hin (bq_bq _)) (by omega : 50000 - 5000 * n - 100 - 100 * t - 10 - (c + 1) < w)
set_option maxRecDepth 100000 in
theorem n_countValues {zC : Nat → Option zsh} {d : Nat} (hd : 6 ≤ d) {H : hp} {X : rx} {al : Bool} {mo : Nat} {alz : Int} (hP : PWc H) (hX : RT9 H X) (hm : 1 ≤ mo ∧ mo ≤ 6) (hal : hid ((al = false → alz = 0) ∧ (al = true → alz = 1))) (halz : 0 ≤ alz ∧ alz ≤ 1) : hG (zs zC) d mt_209 0 (zargs 0 [.inr (.inr 1826), .inl (mo : Int), .inl alz]) [] H (fun r9 H2 => r9 = none ∧ fr [] [1864] H H2 ∧ AX (H2.1 1864) X al (mo + 1) 0) := by
  refine h_rng (fun hrg0 => ?_)
  refine h_run 0 (pc' := 0) (l' := [(0, .inr (.inr 1826)), (1, .inl (mo : Int)), (2, .inl alz)]) (st' := []) rfl ?_
  refine h_run 2 (pc' := 2) (l' := [(0, .inr (.inr 1826)), (1, .inl (mo : Int)), (2, .inl alz), (3, .inl 0)]) (st' := []) rfl ?_
  exact (n_countValues_cut hd hP hX hm hal halz _).1 _ 0 (fr_rf _ _ _) (by omega) (Nat.lt_succ_self _)
