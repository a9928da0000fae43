/-! the reference's test, told exactly -/
/-- the laws' sides and variables are the machine's -/
def LA9 (H : hp) (X : rx) : Prop := X 0 7 = (H.1 1826 19) ∧ ∀ l : Nat, (l : Int) < (H.1 1826 19) → LR9 H X l ∧ (H.1 1845) l = (nvX X l : Int) ∧ ∀ v : Nat, v < nvX X l → (H.1 1846) (6 * l + v) = tyX X l v
theorem LR_fr {H K : hp} {X : rx} {l : Nat} {ob ar : List Nat} (h : LR9 H X l) (f : fr ob ar H K) (h1 : ∀ c ∈ [1842, 1843], c ∉ ar) : LR9 K X l := by
  unfold LR9
  rw [f.2.1 1842 (by decide) (h1 _ (by decide)), f.2.1 1843 (by decide) (h1 _ (by decide))]
  exact h
/-- the row that was told last -/
def TV9 (tl : Int) (tv : Nat → Int) (l nv : Nat) (vs : Nat → List Int) : Prop := tl = (l : Int) ∧ ∀ v : Nat, v < nv → ∀ x, x < (vs v).length → tv (7 * v + x) = ga (vs v) x
def TRV (ar : Int → Int) (X : rx) (al : Bool) (a b : Int) (tl tl2 : Int) (tv tv2 : Nat → Int) (z : Int) : Prop := ((a < 0 ∨ X 0 7 ≤ a) ∧ z = -101 ∧ tl2 = tl ∧ tv2 = tv) ∨ ((0 ≤ a ∧ a < X 0 7) ∧ (b < 1 ∨ 6 < b) ∧ z = -102 ∧ tl2 = tl ∧ tv2 = tv) ∨ ((0 ≤ a ∧ a < X 0 7) ∧ (1 ≤ b ∧ b ≤ 6) ∧ z = (tst9 ar X al a.toNat (tyX X a.toNat) (nvX X a.toNat) b.toNat).1 ∧ (z = 1 → TV9 tl2 tv2 a.toNat (nvX X a.toNat) (rwV X al (tyX X a.toNat) (nvX X a.toNat) b.toNat (tst9 ar X al a.toNat (tyX X a.toNat) (nvX X a.toNat) b.toNat).2)) ∧ (z ≠ 1 → tl2 = tl ∧ tv2 = tv))
/-- amounts are summed -/
theorem am_up {S A : Nat} {n x r : Int} (h0 : 0 ≤ n) (h : n = ((bq S : Nat) : Int)) (hx : x = ((bq A : Nat) : Int)) (hr : bdF (n + x) r) : r = ((bq (S + A) : Nat) : Int) := by
  have e : bq (bq S + bq A) = bq (S + A) := bq_add (bq_bq S) (bq_bq A)
  rw [← e]
  exact bd_n (by omega) hr
theorem am_mul {S A : Nat} {n x r : Int} (h : n = ((bq S : Nat) : Int)) (hx : x = ((bq A : Nat) : Int)) (hr : bdF (n * x) r) : r = ((bq (S * A) : Nat) : Int) := by
  rw [← bq_mul]
  exact bd_n (by rw [h, hx]; exact (Int.natCast_mul _ _).symm) hr
theorem bq_z {x : Nat} : ((bq x : Nat) : Int) = 0 ↔ x = 0 := by
  unfold bq
  split <;> omega
theorem bq_2 {x : Nat} (h : ((bq x : Nat) : Int) ≤ 2000) : bq x = x := bq_ex (by omega)
/-- the places of a row -/
def NW9 (now : Nat → Int) (tot : Nat → Nat) (nv i : Nat) : Prop := ∀ v : Nat, v < nv → now v = ((dgt tot nv i v : Nat) : Int)
/-- from row i to the next: places above v are the next row's -/
def NX9 (now : Nat → Int) (tot : Nat → Nat) (nv i : Nat) (v : Int) : Prop := (∀ w : Nat, v < w → w < nv → now w = ((dgt tot nv (i + 1) w : Nat) : Int)) ∧ (∀ w : Nat, (w : Int) ≤ v → w < nv → now w = ((dgt tot nv i w : Nat) : Int)) ∧ lft tot nv (i + 1) ((nv : Int) - 1 - v).toNat = lft tot nv i ((nv : Int) - 1 - v).toNat + 1
theorem NX_0 {now : Nat → Int} {tot : Nat → Nat} {nv i : Nat} {v : Int} (h : NW9 now tot nv i) (hv : v = (nv : Int) - 1) : NX9 now tot nv i v := by
  refine ⟨fun w h1 h2 => by omega, fun w _ h2 => h w h2, ?_⟩
  rw [show ((nv : Int) - 1 - v).toNat = 0 by omega]
  rfl
theorem NX_hit {now : Nat → Int} {tot : Nat → Nat} {nv i v : Nat} {z : Int} (h : NX9 now tot nv i (v : Int)) (hv : v < nv) (ht : 0 < tot v) (hd : dgt tot nv i v + 1 < tot v) (hz : z = ((dgt tot nv i v + 1 : Nat) : Int)) : NW9 (up now v z) tot nv (i + 1) := by
  obtain ⟨h1, h2, h3⟩ := h
  have e0 : ((nv : Int) - 1 - (v : Int)).toNat = nv - 1 - v := by omega
  rw [e0] at h3
  have hu := div_up (m := lft tot nv i (nv - 1 - v)) ht
  have hne : lft tot nv i (nv - 1 - v) % tot v + 1 ≠ tot v := by
    unfold dgt at hd
    omega
  obtain ⟨u1, u2⟩ := hu.2 hne
  have e1 : lft tot nv (i + 1) (nv - 1 - v + 1) = lft tot nv i (nv - 1 - v + 1) := by
    show lft tot nv (i + 1) (nv - 1 - v) / tot (nv - (nv - 1 - v + 1)) = lft tot nv i (nv - 1 - v) / tot (nv - (nv - 1 - v + 1))
    rw [show nv - (nv - 1 - v + 1) = v by omega, h3, u1]
  intro w hw
  by_cases q : w = v
  · subst q
    rw [up_eq, hz]
    unfold dgt
    rw [h3, u2]
  · rw [up_ne _ _ q]
    by_cases q2 : v < w
    · exact h1 w (by omega) hw
    · rw [h2 w (by omega) hw]
      unfold dgt
      rw [lft_eq e1 (show nv - 1 - v + 1 ≤ nv - 1 - w by omega)]
theorem NX_go {now : Nat → Int} {tot : Nat → Nat} {nv i v : Nat} (h : NX9 now tot nv i (v : Int)) (hv : v < nv) (ht : 0 < tot v) (hd : tot v ≤ dgt tot nv i v + 1) : NX9 (up now v 0) tot nv i ((v : Int) - 1) := by
  obtain ⟨h1, h2, h3⟩ := h
  have e0 : ((nv : Int) - 1 - (v : Int)).toNat = nv - 1 - v := by omega
  rw [e0] at h3
  have hu := div_up (m := lft tot nv i (nv - 1 - v)) ht
  have hdl := dgt_lt (tot := tot) (nv := nv) (r := i) (v := v) ht
  have heq : lft tot nv i (nv - 1 - v) % tot v + 1 = tot v := by
    unfold dgt at hd hdl
    omega
  obtain ⟨u1, u2⟩ := hu.1 heq
  refine ⟨fun w a b => ?_, fun w a b => ?_, ?_⟩
  · by_cases q : w = v
    · subst q
      rw [up_eq]
      unfold dgt
      rw [h3, u2]
      rfl
    · rw [up_ne _ _ q]
      exact h1 w (by omega) b
  · rw [up_ne _ _ (by omega)]
    exact h2 w (by omega) b
  · rw [show ((nv : Int) - 1 - ((v : Int) - 1)).toNat = nv - 1 - v + 1 by omega]
    show lft tot nv (i + 1) (nv - 1 - v) / tot (nv - (nv - 1 - v + 1)) = lft tot nv i (nv - 1 - v) / tot (nv - (nv - 1 - v + 1)) + 1
    rw [show nv - (nv - 1 - v + 1) = v by omega, h3, u1]
theorem NX_end {now : Nat → Int} {tot : Nat → Nat} {nv i : Nat} {v : Int} (h : NX9 now tot nv i v) (hv : v < 0) : NW9 now tot nv (i + 1) := fun w hw => h.1 w (by omega) hw
/-- rows are gone through: what they have come to -/
def DN9 (out : Nat → Int) (i : Nat) (dn : Int) : Prop := (tsO out i).1 = (if dn = 1 then 0 else 2) ∧ (0 ≤ dn ∧ dn ≤ 1)
theorem DN_ne {out : Nat → Int} {i : Nat} {dn : Int} (h : DN9 out i dn) : (tsO out i).1 ≠ 1 := by
  rw [h.1]
  split <;> decide
theorem DN_up {out : Nat → Int} {i : Nat} {dn y bz : Int} (h : DN9 out i dn) (h1 : out i ≠ 1) (h2 : out i = 0 ∨ out i = 1 ∨ out i = 2) (hy : y = if out i = 0 then 1 else 0) (hb : bz = if dn = 1 ∧ y = 1 then 1 else 0) : DN9 out (i + 1) bz := by
  have h3 := (tsO_up (DN_ne h) h1).1
  rcases h2 with q | q | q
  · rw [q, if_pos rfl] at hy
    by_cases e : dn = 1
    · rw [if_pos ⟨e, hy⟩] at hb
      unfold DN9
      rw [h3, h.1, q, hb, if_pos e]
      decide
    · rw [if_neg (fun q9 => e q9.1)] at hb
      unfold DN9
      rw [h3, h.1, q, hb, if_neg e]
      decide
  · exact absurd q h1
  · rw [q, if_neg (by decide)] at hy
    rw [if_neg (fun q9 => by omega)] at hb
    unfold DN9
    rw [h3, q, hb, if_pos rfl]
    decide
theorem rO_3 (EL ER : Int × Int × List Int) : rO9 EL ER = 0 ∨ rO9 EL ER = 1 ∨ rO9 EL ER = 2 := by
  unfold rO9
  split
  · split
    · exact Or.inl rfl
    · exact Or.inr (Or.inl rfl)
  · exact Or.inr (Or.inr rfl)


theorem LN_get {X : rx} {al : Bool} {mo l nv i v : Nat} {z q : Int} (h : z = tyX X l v) (h0 : 0 ≤ z) (hn : q = ((dgt (tot9 X al (tyX X l) mo) nv i v : Nat) : Int)) (ht : 1 ≤ tot9 X al (tyX X l) mo v ∧ tot9 X al (tyX X l) mo v ≤ 2000) : (LN9 X al mo z.toNat)[q.toNat]? = some (rwV X al (tyX X l) nv mo i v) := by
  have hd := dgt_lt (tot := tot9 X al (tyX X l) mo) (nv := nv) (r := i) (v := v) (by omega)
  have hd2 : dgt (tot9 X al (tyX X l) mo) nv i v < (vL X al (tyX X l v) mo).length := hd
  unfold LN9
  rw [hn, Int.toNat_natCast, show ((z.toNat : Nat) : Int) = tyX X l v by omega, List.take_of_length_le (by have q9 : (vL X al (tyX X l v) mo).length = tot9 X al (tyX X l) mo v := rfl; omega), List.getElem?_eq_getElem hd2]
  unfold rwV
  rw [vAt_of (List.getElem?_eq_getElem hd2)]
theorem rwV_6 {X : rx} {al : Bool} {ty : Nat → Int} {nv N r v : Nat} (hN : N ≤ 6) (ht : 1 ≤ tot9 X al ty N v) : 1 ≤ (rwV X al ty nv N r v).length ∧ (rwV X al ty nv N r v).length ≤ 6 := by
  obtain ⟨i, h1, h2, h3⟩ := vL_mem (vAt_mem (L := vL X al (ty v) N) (dgt_lt (tot := tot9 X al ty N) (nv := nv) (r := r) (v := v) ht))
  have h4 : (rwV X al ty nv N r v).length = i := vv_ln h3
  omega
theorem LN_len {X : rx} {al : Bool} {mo l v : Nat} {z : Int} (h : z = tyX X l v) (h0 : 0 ≤ z) (ht : tot9 X al (tyX X l) mo v ≤ 2000) : (LN9 X al mo z.toNat).length = tot9 X al (tyX X l) mo v := by
  unfold LN9
  rw [show ((z.toNat : Nat) : Int) = tyX X l v by omega, List.take_of_length_le (by have q9 : (vL X al (tyX X l v) mo).length = tot9 X al (tyX X l) mo v := rfl; omega)]
  rfl
theorem tm_flX {ar : Int → Int} {cn fn : Int} {X : rx} {al : Bool} {ty : Nat → Int} {nv N r l R s : Nat} (hW : TW9 ar cn fn X nv l R) (hN : N ≤ 6) (hs : s < 2) (ht : ∀ v : Nat, v < nv → 1 ≤ tot9 X al ty N v) : tm ar (m_sg cn fn 0) (ga (flX X l s (rwV X al ty nv N r))) (flX X l s (rwV X al ty nv N r)).length 0 1 := (fl_ok hW hN (s := 4 * l + 102 + s) (by omega) ht).2


theorem bq_le_self (x : Nat) : bq x ≤ x := by
  unfold bq
  split <;> omega
theorem prN_1 {tot : Nat → Nat} {k : Nat} (h : ∀ u, u < k → 1 ≤ tot u) : 0 < prN tot k := by
  induction k with
  | zero => exact Nat.one_pos
  | succ k ih =>
    have h1 := ih (fun u hu => h u (by omega))
    have h2 := h k (by omega)
    show 0 < prN tot k * tot k
    exact Nat.mul_pos h1 h2

/-! test -/
set_option maxRecDepth 100000 in
theorem n_test_cut {zC : Nat → Option zsh} {d : Nat} (hd : 12 ≤ d) {H : hp} {X : rx} {al : Bool} {R : Nat} {x y alz : Int} (hP : PWc H) (hX : RZ9 H X) (hR : RT9 H X) (hLA : LA9 H X) (hTWa : ∀ l : Nat, (l : Int) < (H.1 1826 19) → TW9 (ma (H.1 1833) (H.1 1830)) (H.1 1826 3) (H.1 1826 8) X (nvX X l) l R) (hal : hid ((al = false → alz = 0) ∧ (al = true → alz = 1))) (halz : 0 ≤ alz ∧ alz ≤ 1) (hx : -2147483648 ≤ x ∧ x ≤ 2147483647) (hy : -2147483648 ≤ y ∧ y ≤ 2147483647) : ∀ w : Nat, (∀ (H1 : hp) (l : Nat) (mo : Nat) (rw9 : Int) (no : Int) (v : Nat), (fr [50, 51, 53, 55, 56, 67, 72] [1855, 1856, 1857, 1861, 1862, 1863, 1864, 1865, 1867, 1868, 1869] H H1) → ((l : Int) < (H.1 1826 19)) → (1 ≤ mo ∧ mo ≤ 6) → (x = (l : Int) ∧ y = (mo : Int)) → (AX (H1.1 1864) X al (mo + 1) 0) → ((H1.1 1826 67) = (H.1 1826 67) ∧ (H1.1 1867) = (H.1 1867)) → (rw9 = ((bq (prN (tot9 X al (tyX X l) mo) v) : Nat) : Int)) → (0 ≤ no ∧ no ≤ 1) → (v ≤ (nvX X l) ∧ (nvX X l) ≤ 6) → (hid ((no = 0 → ∀ u : Nat, u < v → 1 ≤ (tot9 X al (tyX X l) mo) u) ∧ (no ≠ 0 → ∃ u : Nat, u < v ∧ (tot9 X al (tyX X l) mo) u = 0))) → 100000000 - 100 * v < w → hG (zs zC) d mt_218 44 [(0, .inr (.inr 1826)), (1, .inl (l : Int)), (2, .inl (mo : Int)), (3, .inl alz), (4, .inr (.inl rw9)), (6, .inl no), (7, .inl (v : Int))] [] H1 (fun r9 H2 => fr [50, 51, 53, 55, 56, 67, 72] [1855, 1856, 1857, 1861, 1862, 1863, 1864, 1865, 1867, 1868, 1869] H H2 ∧ ∃ r0 : Int, r9 = some (.inl r0) ∧ TRV (ma (H.1 1833) (H.1 1830)) X al x y (H.1 1826 67) (H2.1 1826 67) (H.1 1867) (H2.1 1867) r0)) ∧ (∀ (H1 : hp) (l : Nat) (mo : Nat) (rw9 : Int) (no : Int) (v : Nat) (n : Int) (k : Nat), (fr [50, 51, 53, 55, 56, 67, 72] [1855, 1856, 1857, 1861, 1862, 1863, 1864, 1865, 1867, 1868, 1869] H H1) → ((l : Int) < (H.1 1826 19)) → (1 ≤ mo ∧ mo ≤ 6) → (x = (l : Int) ∧ y = (mo : Int)) → (AX (H1.1 1864) X al (mo + 1) 0) → ((H1.1 1826 67) = (H.1 1826 67) ∧ (H1.1 1867) = (H.1 1867)) → (rw9 = ((bq (prN (tot9 X al (tyX X l) mo) v) : Nat) : Int)) → (0 ≤ no ∧ no ≤ 1) → (v < (nvX X l) ∧ (nvX X l) ≤ 6) → (hid ((no = 0 → ∀ u : Nat, u < v → 1 ≤ (tot9 X al (tyX X l) mo) u) ∧ (no ≠ 0 → ∃ u : Nat, u < v ∧ (tot9 X al (tyX X l) mo) u = 0))) → (n = ((bq (sumN (fun i => (vv X al (i + 1) ((tyX X l) v)).length) (k - 1)) : Nat) : Int)) → (1 ≤ k ∧ k ≤ mo + 1) → 100000000 - 100 * v - 10 - k < w → hG (zs zC) d mt_218 61 [(0, .inr (.inr 1826)), (1, .inl (l : Int)), (2, .inl (mo : Int)), (3, .inl alz), (4, .inr (.inl rw9)), (6, .inl no), (7, .inl (v : Int)), (8, .inr (.inl n)), (10, .inl (k : Int))] [] H1 (fun r9 H2 => fr [50, 51, 53, 55, 56, 67, 72] [1855, 1856, 1857, 1861, 1862, 1863, 1864, 1865, 1867, 1868, 1869] H H2 ∧ ∃ r0 : Int, r9 = some (.inl r0) ∧ TRV (ma (H.1 1833) (H.1 1830)) X al x y (H.1 1826 67) (H2.1 1826 67) (H.1 1867) (H2.1 1867) r0)) ∧ (∀ (H1 : hp) (l : Nat) (mo : Nat) (rw9 : Int) (v : Nat), (fr [50, 51, 53, 55, 56, 67, 72] [1855, 1856, 1857, 1861, 1862, 1863, 1864, 1865, 1867, 1868, 1869] H H1) → ((l : Int) < (H.1 1826 19)) → (1 ≤ mo ∧ mo ≤ 6) → (x = (l : Int) ∧ y = (mo : Int)) → (VS (H1.1 1826 1) (H1.1 1861) (H1.1 1862) (H1.1 1863) (LN9 X al mo)) → ((H1.1 1826 67) = (H.1 1826 67) ∧ (H1.1 1867) = (H.1 1867)) → (rw9 = (((nRw X al (tyX X l) (nvX X l) mo) : Nat) : Int) ∧ (nRw X al (tyX X l) (nvX X l) mo) ≤ 2000) → (∀ v : Nat, v < (nvX X l) → 1 ≤ (tot9 X al (tyX X l) mo) v ∧ (tot9 X al (tyX X l) mo) v ≤ 2000) → (v ≤ 6) → (∀ u : Nat, u < v → (H1.1 1868) u = 0) → 80000000 - v < w → hG (zs zC) d mt_218 165 [(0, .inr (.inr 1826)), (1, .inl (l : Int)), (2, .inl (mo : Int)), (3, .inl alz), (4, .inr (.inl rw9)), (7, .inl (v : Int))] [] H1 (fun r9 H2 => fr [50, 51, 53, 55, 56, 67, 72] [1855, 1856, 1857, 1861, 1862, 1863, 1864, 1865, 1867, 1868, 1869] H H2 ∧ ∃ r0 : Int, r9 = some (.inl r0) ∧ TRV (ma (H.1 1833) (H.1 1830)) X al x y (H.1 1826 67) (H2.1 1826 67) (H.1 1867) (H2.1 1867) r0)) ∧ (∀ (H1 : hp) (l : Nat) (mo : Nat) (rw9 : Int) (dn : Int) (i : Nat), (fr [50, 51, 53, 55, 56, 67, 72] [1855, 1856, 1857, 1861, 1862, 1863, 1864, 1865, 1867, 1868, 1869] H H1) → ((l : Int) < (H.1 1826 19)) → (1 ≤ mo ∧ mo ≤ 6) → (x = (l : Int) ∧ y = (mo : Int)) → (VS (H1.1 1826 1) (H1.1 1861) (H1.1 1862) (H1.1 1863) (LN9 X al mo)) → ((H1.1 1826 67) = (H.1 1826 67) ∧ (H1.1 1867) = (H.1 1867)) → (rw9 = (((nRw X al (tyX X l) (nvX X l) mo) : Nat) : Int) ∧ (nRw X al (tyX X l) (nvX X l) mo) ≤ 2000) → (∀ v : Nat, v < (nvX X l) → 1 ≤ (tot9 X al (tyX X l) mo) v ∧ (tot9 X al (tyX X l) mo) v ≤ 2000) → (NW9 (H1.1 1868) (tot9 X al (tyX X l) mo) (nvX X l) i) → (DN9 (rwO (ma (H.1 1833) (H.1 1830)) X al l (tyX X l) (nvX X l) mo) i dn) → (i ≤ (nRw X al (tyX X l) (nvX X l) mo)) → 50000000 - 20 * i < w → hG (zs zC) d mt_218 192 [(0, .inr (.inr 1826)), (1, .inl (l : Int)), (2, .inl (mo : Int)), (3, .inl alz), (4, .inr (.inl rw9)), (7, .inl dn), (8, .inl (i : Int))] [] H1 (fun r9 H2 => fr [50, 51, 53, 55, 56, 67, 72] [1855, 1856, 1857, 1861, 1862, 1863, 1864, 1865, 1867, 1868, 1869] H H2 ∧ ∃ r0 : Int, r9 = some (.inl r0) ∧ TRV (ma (H.1 1833) (H.1 1830)) X al x y (H.1 1826 67) (H2.1 1826 67) (H.1 1867) (H2.1 1867) r0)) ∧ (∀ (H1 : hp) (l : Nat) (mo : Nat) (v : Nat) (i : Nat), (fr [50, 51, 53, 55, 56, 67, 72] [1855, 1856, 1857, 1861, 1862, 1863, 1864, 1865, 1867, 1868, 1869] H H1) → ((l : Int) < (H.1 1826 19)) → (1 ≤ mo ∧ mo ≤ 6) → (x = (l : Int) ∧ y = (mo : Int)) → (VS (H1.1 1826 1) (H1.1 1861) (H1.1 1862) (H1.1 1863) (LN9 X al mo)) → (NW9 (H1.1 1868) (tot9 X al (tyX X l) mo) (nvX X l) i) → ((H1.1 1826 67) = (l : Int)) → (∀ v : Nat, v < (nvX X l) → 1 ≤ (tot9 X al (tyX X l) mo) v ∧ (tot9 X al (tyX X l) mo) v ≤ 2000) → (tsO (rwO (ma (H.1 1833) (H.1 1830)) X al l (tyX X l) (nvX X l) mo) (i + 1) = (1, i)) → (i < (nRw X al (tyX X l) (nvX X l) mo) ∧ (nRw X al (tyX X l) (nvX X l) mo) ≤ 2000) → (v ≤ (nvX X l) ∧ (nvX X l) ≤ 6) → (∀ u : Nat, u < v → ∀ x, x < ((rwV X al (tyX X l) (nvX X l) mo i) u).length → (H1.1 1867) (7 * u + x) = ga ((rwV X al (tyX X l) (nvX X l) mo i) u) x) → 10000 - 100 * v < w → hG (zs zC) d mt_218 222 [(0, .inr (.inr 1826)), (1, .inl (l : Int)), (2, .inl (mo : Int)), (3, .inl alz), (10, .inl (v : Int))] [] H1 (fun r9 H2 => fr [50, 51, 53, 55, 56, 67, 72] [1855, 1856, 1857, 1861, 1862, 1863, 1864, 1865, 1867, 1868, 1869] H H2 ∧ ∃ r0 : Int, r9 = some (.inl r0) ∧ TRV (ma (H.1 1833) (H.1 1830)) X al x y (H.1 1826 67) (H2.1 1826 67) (H.1 1867) (H2.1 1867) r0)) ∧ (∀ (H1 : hp) (l : Nat) (mo : Nat) (v : Nat) (q : Nat) (x9 : Nat) (i : Nat), (fr [50, 51, 53, 55, 56, 67, 72] [1855, 1856, 1857, 1861, 1862, 1863, 1864, 1865, 1867, 1868, 1869] H H1) → ((l : Int) < (H.1 1826 19)) → (1 ≤ mo ∧ mo ≤ 6) → (x = (l : Int) ∧ y = (mo : Int)) → (VS (H1.1 1826 1) (H1.1 1861) (H1.1 1862) (H1.1 1863) (LN9 X al mo)) → (NW9 (H1.1 1868) (tot9 X al (tyX X l) mo) (nvX X l) i) → ((H1.1 1826 67) = (l : Int)) → (∀ v : Nat, v < (nvX X l) → 1 ≤ (tot9 X al (tyX X l) mo) v ∧ (tot9 X al (tyX X l) mo) v ≤ 2000) → (tsO (rwO (ma (H.1 1833) (H.1 1830)) X al l (tyX X l) (nvX X l) mo) (i + 1) = (1, i)) → (i < (nRw X al (tyX X l) (nvX X l) mo) ∧ (nRw X al (tyX X l) (nvX X l) mo) ≤ 2000) → (v < (nvX X l) ∧ (nvX X l) ≤ 6) → (∀ u : Nat, u < v → ∀ x, x < ((rwV X al (tyX X l) (nvX X l) mo i) u).length → (H1.1 1867) (7 * u + x) = ga ((rwV X al (tyX X l) (nvX X l) mo i) u) x) → (x9 ≤ ((rwV X al (tyX X l) (nvX X l) mo i) v).length) → (q < 12006) → ((H1.1 1862) q = (((rwV X al (tyX X l) (nvX X l) mo i) v).length : Int) ∧ ∀ y, y < ((rwV X al (tyX X l) (nvX X l) mo i) v).length → (H1.1 1861) (7 * q + y) = ga ((rwV X al (tyX X l) (nvX X l) mo i) v) y) → (∀ y, y < x9 → (H1.1 1867) (7 * v + y) = (H1.1 1861) (7 * q + y)) → 10000 - 100 * v - 10 - x9 < w → hG (zs zC) d mt_218 262 [(0, .inr (.inr 1826)), (1, .inl (l : Int)), (2, .inl (mo : Int)), (3, .inl alz), (10, .inl (v : Int)), (11, .inl (q : Int)), (12, .inl (x9 : Int))] [] H1 (fun r9 H2 => fr [50, 51, 53, 55, 56, 67, 72] [1855, 1856, 1857, 1861, 1862, 1863, 1864, 1865, 1867, 1868, 1869] H H2 ∧ ∃ r0 : Int, r9 = some (.inl r0) ∧ TRV (ma (H.1 1833) (H.1 1830)) X al x y (H.1 1826 67) (H2.1 1826 67) (H.1 1867) (H2.1 1867) r0)) ∧ (∀ (H1 : hp) (l : Nat) (mo : Nat) (rw9 : Int) (dn : Int) (i : Nat) (vv9 : Int), (fr [50, 51, 53, 55, 56, 67, 72] [1855, 1856, 1857, 1861, 1862, 1863, 1864, 1865, 1867, 1868, 1869] H H1) → ((l : Int) < (H.1 1826 19)) → (1 ≤ mo ∧ mo ≤ 6) → (x = (l : Int) ∧ y = (mo : Int)) → (VS (H1.1 1826 1) (H1.1 1861) (H1.1 1862) (H1.1 1863) (LN9 X al mo)) → ((H1.1 1826 67) = (H.1 1826 67) ∧ (H1.1 1867) = (H.1 1867)) → (rw9 = (((nRw X al (tyX X l) (nvX X l) mo) : Nat) : Int) ∧ (nRw X al (tyX X l) (nvX X l) mo) ≤ 2000) → (∀ v : Nat, v < (nvX X l) → 1 ≤ (tot9 X al (tyX X l) mo) v ∧ (tot9 X al (tyX X l) mo) v ≤ 2000) → (NX9 (H1.1 1868) (tot9 X al (tyX X l) mo) (nvX X l) i vv9) → (DN9 (rwO (ma (H.1 1833) (H.1 1830)) X al l (tyX X l) (nvX X l) mo) (i + 1) dn) → (i < (nRw X al (tyX X l) (nvX X l) mo)) → (-1 ≤ vv9 ∧ vv9 < ((nvX X l) : Int)) → 50000000 - 20 * i - 10 + (vv9 + 1).toNat < w → hG (zs zC) d mt_218 339 [(0, .inr (.inr 1826)), (1, .inl (l : Int)), (2, .inl (mo : Int)), (3, .inl alz), (4, .inr (.inl rw9)), (7, .inl dn), (8, .inl (i : Int)), (10, .inl vv9)] [] H1 (fun r9 H2 => fr [50, 51, 53, 55, 56, 67, 72] [1855, 1856, 1857, 1861, 1862, 1863, 1864, 1865, 1867, 1868, 1869] H H2 ∧ ∃ r0 : Int, r9 = some (.inl r0) ∧ TRV (ma (H.1 1833) (H.1 1830)) X al x y (H.1 1826 67) (H2.1 1826 67) (H.1 1867) (H2.1 1867) r0)) := by
  intro w
  induction w with
  | zero => exact ⟨fun _ _ _ _ _ _ _ _ _ _ _ _ _ _ _ _ h => absurd h (Nat.not_lt_zero _), fun _ _ _ _ _ _ _ _ _ _ _ _ _ _ _ _ _ _ _ _ h => absurd h (Nat.not_lt_zero _), fun _ _ _ _ _ _ _ _ _ _ _ _ _ _ _ h => absurd h (Nat.not_lt_zero _), fun _ _ _ _ _ _ _ _ _ _ _ _ _ _ _ _ _ h => absurd h (Nat.not_lt_zero _), fun _ _ _ _ _ _ _ _ _ _ _ _ _ _ _ _ _ h => absurd h (Nat.not_lt_zero _), fun _ _ _ _ _ _ _ _ _ _ _ _ _ _ _ _ _ _ _ _ _ _ _ h => absurd h (Nat.not_lt_zero _), fun _ _ _ _ _ _ _ _ _ _ _ _ _ _ _ _ _ _ _ h => absurd h (Nat.not_lt_zero _)⟩
  | succ w ih =>
    refine ⟨?_, ?_, ?_, ?_, ?_, ?_, ?_⟩
    · intro H1 l mo rw9 no v hf hl hmo hxl hAH1 hKH1 hrw hno hv hnz hw
      refine h_rng (fun hrg1 => ?_)
      obtain ⟨⟨pb1, pb2, pb3, pb4, pb5⟩, pw1, pw2, pw3, pw4⟩ := (id hP : PW H (H.1 1826 1) (H.1 1826 3) (H.1 1826 8) (H.1 1826 13) (H.1 1826 19))
      obtain ⟨v9, ⟨lv1, lv2⟩, lv3, lv4⟩ := pw4 l (by omega)
      obtain ⟨hLR, hlv, hlt0⟩ := hLA.2 l (by omega)
      have hXl := hLA.1
      obtain ⟨⟨xr3, xr4⟩, -⟩ := id hR
      have hTW := hTWa l (by omega)
      have hnv9 : v9 = (nvX X l) := by omega
      have hPH1 : PWc H1 := PWc_fr hP hf (by decide) (by decide)
      have cAH1 : (H1.1 1830) = (H.1 1830) := hf.2.1 1830 (by decide) (by decide)
      have fAH1 : (H1.1 1833) = (H.1 1833) := hf.2.1 1833 (by decide) (by decide)
      have lVH1 : (H1.1 1845) = (H.1 1845) := hf.2.1 1845 (by decide) (by decide)
      have lTH1 : (H1.1 1846) = (H.1 1846) := hf.2.1 1846 (by decide) (by decide)
      have tyH1 : (H1.1 1826 1) = (H.1 1826 1) := hf.2.2 1 (by decide)
      have cnH1 : (H1.1 1826 3) = (H.1 1826 3) := hf.2.2 3 (by decide)
      have fnH1 : (H1.1 1826 8) = (H.1 1826 8) := hf.2.2 8 (by decide)
      have lnH1 : (H1.1 1826 19) = (H.1 1826 19) := hf.2.2 19 (by decide)
      have hXH1 := RZ9_fr hX hf (by decide) (by decide)
      have hRH1 : RT9 H1 X := RT_fr hR hf (by decide) (by decide)
      have hLRH1 : LR9 H1 X l := LR_fr hLR hf (by decide)
      have hlv9 := congrFun lVH1 l
      have hrwb := bq_le (prN (tot9 X al (tyX X l) mo) v)
      refine h_run 4 (pc' := 51) (l' := [(0, .inr (.inr 1826)), (1, .inl (l : Int)), (2, .inl (mo : Int)), (3, .inl alz), (4, .inr (.inl rw9)), (6, .inl no), (7, .inl (v : Int))]) (st' := [.inl (l : Int), .inr (.inr 1845), .inl (v : Int)]) rfl ?_
      refine h_ild (c := 1845) (j := l) (i := (l : Int)) rfl rfl (by decide) rfl (by omega) ?_
      have g2 : -2147483648 ≤ (H1.1 1845 l) ∧ (H1.1 1845 l) ≤ 2147483647 := hrg1.2 1845 l 16 .int rfl (by omega)
      have e3 : (H1.1 1845 l) = (H.1 1845 l) := congrFun (hf.2.1 1845 (by decide) (by decide)) l
      refine h_run 0 (pc' := 52) (l' := [(0, .inr (.inr 1826)), (1, .inl (l : Int)), (2, .inl (mo : Int)), (3, .inl alz), (4, .inr (.inl rw9)), (6, .inl no), (7, .inl (v : Int))]) (st' := [.inl (H1.1 1845 l), .inl (v : Int)]) rfl ?_
      refine h_ige (off := 85) (t := 137) rfl rfl (by omega) (by omega) (fun c4 => ?_) (fun c4 => ?_)
      · refine h_run 1 (pc' := 139) (l' := [(0, .inr (.inr 1826)), (1, .inl (l : Int)), (2, .inl (mo : Int)), (3, .inl alz), (4, .inr (.inl rw9)), (6, .inl no), (7, .inl (v : Int))]) (st' := [.inl no]) rfl ?_
        refine h_zeq (off := 5) (t := 144) rfl rfl (by omega) (fun c5 => ?_) (fun c5 => ?_)
        · refine h_run 1 (pc' := 146) (l' := [(0, .inr (.inr 1826)), (1, .inl (l : Int)), (2, .inl (mo : Int)), (3, .inl alz), (4, .inr (.inl rw9)), (6, .inl no), (7, .inl (v : Int))]) (st' := [.inr (.inl rw9)]) rfl ?_
          refine h_ldc2 (i := 517) (z := 2000) rfl rfl rfl ?_
          refine h_run 0 (pc' := 149) (l' := [(0, .inr (.inr 1826)), (1, .inl (l : Int)), (2, .inl (mo : Int)), (3, .inl alz), (4, .inr (.inl rw9)), (6, .inl no), (7, .inl (v : Int))]) (st' := [.inr (.inl 2000), .inr (.inl rw9)]) rfl ?_
          refine h_run 1 (pc' := 150) (l' := [(0, .inr (.inr 1826)), (1, .inl (l : Int)), (2, .inl (mo : Int)), (3, .inl alz), (4, .inr (.inl rw9)), (6, .inl no), (7, .inl (v : Int))]) (st' := [.inl (z_cmp rw9 2000)]) rfl ?_
          have hcm := z_cm (x := rw9) (y := 2000) (by omega) (by decide)
          have hpn : prN (tot9 X al (tyX X l) mo) v = (nRw X al (tyX X l) (nvX X l) mo) := by rw [show v = (nvX X l) by omega]; rfl
          rw [hpn] at hrw
          refine h_zle (off := 6) (t := 156) rfl rfl (z_int _) (fun c6 => ?_) (fun c6 => ?_)
          · have hrw9 : rw9 = (((nRw X al (tyX X l) (nvX X l) mo) : Nat) : Int) ∧ (nRw X al (tyX X l) (nvX X l) mo) ≤ 2000 := by have q9 := bq_2 (x := (nRw X al (tyX X l) (nvX X l) mo)) (by omega); exact ⟨by rw [hrw, q9], by omega⟩
            have htp : ∀ v : Nat, v < (nvX X l) → 1 ≤ (tot9 X al (tyX X l) mo) v ∧ (tot9 X al (tyX X l) mo) v ≤ 2000 := fun v8 h8 => by have q9 := (id hnz : (no = 0 → ∀ u : Nat, u < v → 1 ≤ (tot9 X al (tyX X l) mo) u) ∧ (no ≠ 0 → ∃ u : Nat, u < v ∧ (tot9 X al (tyX X l) mo) u = 0)).1 (by omega); have q8 := prN_1 (tot := (tot9 X al (tyX X l) mo)) (k := (nvX X l)) (fun u9 h9 => q9 u9 (by omega)); have q7 := prN_le q8 v8 h8; exact ⟨q9 v8 (by omega), Nat.le_trans q7 hrw9.2⟩
            refine h_run 3 (pc' := 159) (l' := [(0, .inr (.inr 1826)), (1, .inl (l : Int)), (2, .inl (mo : Int)), (3, .inl alz), (4, .inr (.inl rw9)), (6, .inl no), (7, .inl (v : Int))]) (st' := [.inl alz, .inl (mo : Int), .inr (.inr 1826)]) rfl ?_
            refine h_cv (i := 519) (j := 212) (b := 1826) (M' := mt_212) (xs := [.inl alz, .inl (mo : Int)]) (rest := []) rfl rfl rfl rfl rfl rfl (Nat.le_of_ble_eq_true rfl) (Nat.le_of_ble_eq_true rfl) (by omega) (n_makeValues (X := X) (al := al) (by omega) hPH1 hRH1 (by omega) hal halz) ?_
            rintro _ H7 ⟨rfl, hfH7, hVH7⟩
            refine h_rng (fun hrg8 => ?_)
            have hf9 : fr [50, 51, 53, 55, 56, 67, 72] [1855, 1856, 1857, 1861, 1862, 1863, 1864, 1865, 1867, 1868, 1869] H H7 := fr_t hf hfH7 (by decide) (by decide)
            have hPH7 : PWc H7 := PWc_fr hP hf9 (by decide) (by decide)
            have cAH7 : (H7.1 1830) = (H.1 1830) := hf9.2.1 1830 (by decide) (by decide)
            have fAH7 : (H7.1 1833) = (H.1 1833) := hf9.2.1 1833 (by decide) (by decide)
            have lVH7 : (H7.1 1845) = (H.1 1845) := hf9.2.1 1845 (by decide) (by decide)
            have lTH7 : (H7.1 1846) = (H.1 1846) := hf9.2.1 1846 (by decide) (by decide)
            have tyH7 : (H7.1 1826 1) = (H.1 1826 1) := hf9.2.2 1 (by decide)
            have cnH7 : (H7.1 1826 3) = (H.1 1826 3) := hf9.2.2 3 (by decide)
            have fnH7 : (H7.1 1826 8) = (H.1 1826 8) := hf9.2.2 8 (by decide)
            have lnH7 : (H7.1 1826 19) = (H.1 1826 19) := hf9.2.2 19 (by decide)
            have hXH7 := RZ9_fr hX hf9 (by decide) (by decide)
            have hRH7 : RT9 H7 X := RT_fr hR hf9 (by decide) (by decide)
            have hLRH7 : LR9 H7 X l := LR_fr hLR hf9 (by decide)
            have hKH7 : (H7.1 1826 67) = (H.1 1826 67) ∧ (H7.1 1867) = (H.1 1867) := ⟨(hfH7.2.2 67 (by decide)).trans hKH1.1, (hfH7.2.1 1867 (by decide) (by decide)).trans hKH1.2⟩
            refine h_run 0 (pc' := 162) (l' := [(0, .inr (.inr 1826)), (1, .inl (l : Int)), (2, .inl (mo : Int)), (3, .inl alz), (4, .inr (.inl rw9)), (6, .inl no), (7, .inl (v : Int))]) (st' := []) rfl ?_
            refine h_run 2 (pc' := 165) (l' := [(0, .inr (.inr 1826)), (1, .inl (l : Int)), (2, .inl (mo : Int)), (3, .inl alz), (4, .inr (.inl rw9)), (6, .inl no), (7, .inl 0)]) (st' := []) rfl ?_
            refine h_loc [0, 1, 2, 3, 4, 7] rfl ?_
            exact ih.2.2.1 _ l mo rw9 0 hf9 (by omega) (by omega) (by omega) hVH7 hKH7 hrw9 htp (by omega) (fun _ h9 => absurd h9 (Nat.not_lt_zero _)) (by omega : 80000000 - 0 < w)
          · refine h_run 1 (pc' := 155) (l' := [(0, .inr (.inr 1826)), (1, .inl (l : Int)), (2, .inl (mo : Int)), (3, .inl alz), (4, .inr (.inl rw9)), (6, .inl no), (7, .inl (v : Int))]) (st' := [.inl (-105)]) rfl ?_
            refine h_reti (x := (-105)) rfl rfl ?_
            refine ⟨hf, _, rfl, Or.inr (Or.inr ⟨by omega, by omega, ?_⟩)⟩
            rw [show x.toNat = l by omega, show y.toNat = mo by omega]
            have hq9 : (tst9 (ma (H.1 1833) (H.1 1830)) X al l (tyX X l) (nvX X l) mo) = (-105, 0) := by unfold tst9; rw [if_pos (by have q9 : (nRw X al (tyX X l) (nvX X l) mo) = prN (tot9 X al (tyX X l) mo) (nvX X l) := rfl; have q8 : bq (nRw X al (tyX X l) (nvX X l) mo) ≤ (nRw X al (tyX X l) (nvX X l) mo) := bq_le_self _; omega)]
            rw [hq9]
            exact ⟨rfl, fun q9 => absurd q9 (by decide), fun _ => hKH1⟩
        · have hnR0 : (nRw X al (tyX X l) (nvX X l) mo) = 0 := by obtain ⟨u9, a9, b9⟩ := (id hnz : (no = 0 → ∀ u : Nat, u < v → 1 ≤ (tot9 X al (tyX X l) mo) u) ∧ (no ≠ 0 → ∃ u : Nat, u < v ∧ (tot9 X al (tyX X l) mo) u = 0)).2 (by omega); exact prN_z (show u9 < (nvX X l) by omega) b9
          refine h_run 1 (pc' := 143) (l' := [(0, .inr (.inr 1826)), (1, .inl (l : Int)), (2, .inl (mo : Int)), (3, .inl alz), (4, .inr (.inl rw9)), (6, .inl no), (7, .inl (v : Int))]) (st' := [.inl 0]) rfl ?_
          refine h_reti (x := 0) rfl rfl ?_
          refine ⟨hf, _, rfl, Or.inr (Or.inr ⟨by omega, by omega, ?_⟩)⟩
          rw [show x.toNat = l by omega, show y.toNat = mo by omega]
          have hq9 : (tst9 (ma (H.1 1833) (H.1 1830)) X al l (tyX X l) (nvX X l) mo) = (0, 0) := by unfold tst9; rw [if_neg (by rw [hnR0]; decide), hnR0]; rfl
          rw [hq9]
          exact ⟨rfl, fun q9 => absurd q9 (by decide), fun _ => hKH1⟩
      · refine h_run 4 (pc' := 61) (l' := [(0, .inr (.inr 1826)), (1, .inl (l : Int)), (2, .inl (mo : Int)), (3, .inl alz), (4, .inr (.inl rw9)), (6, .inl no), (7, .inl (v : Int)), (8, .inr (.inl 0)), (10, .inl 1)]) (st' := []) rfl ?_
        exact ih.2.1 _ l mo rw9 no v (0 : Int) 1 hf (by omega) (by omega) (by omega) hAH1 hKH1 hrw hno (by omega) hnz (by show (0 : Int) = ((bq 0 : Nat) : Int); rfl) (by omega) (by omega : 100000000 - 100 * v - 10 - 1 < w)
    · intro H1 l mo rw9 no v n k hf hl hmo hxl hAH1 hKH1 hrw hno hv hnz hn9 hk hw
      refine h_rng (fun hrg10 => ?_)
      obtain ⟨⟨pb1, pb2, pb3, pb4, pb5⟩, pw1, pw2, pw3, pw4⟩ := (id hP : PW H (H.1 1826 1) (H.1 1826 3) (H.1 1826 8) (H.1 1826 13) (H.1 1826 19))
      obtain ⟨v9, ⟨lv1, lv2⟩, lv3, lv4⟩ := pw4 l (by omega)
      obtain ⟨hLR, hlv, hlt0⟩ := hLA.2 l (by omega)
      have hXl := hLA.1
      obtain ⟨⟨xr3, xr4⟩, -⟩ := id hR
      have hTW := hTWa l (by omega)
      have hnv9 : v9 = (nvX X l) := by omega
      have hPH1 : PWc H1 := PWc_fr hP hf (by decide) (by decide)
      have cAH1 : (H1.1 1830) = (H.1 1830) := hf.2.1 1830 (by decide) (by decide)
      have fAH1 : (H1.1 1833) = (H.1 1833) := hf.2.1 1833 (by decide) (by decide)
      have lVH1 : (H1.1 1845) = (H.1 1845) := hf.2.1 1845 (by decide) (by decide)
      have lTH1 : (H1.1 1846) = (H.1 1846) := hf.2.1 1846 (by decide) (by decide)
      have tyH1 : (H1.1 1826 1) = (H.1 1826 1) := hf.2.2 1 (by decide)
      have cnH1 : (H1.1 1826 3) = (H.1 1826 3) := hf.2.2 3 (by decide)
      have fnH1 : (H1.1 1826 8) = (H.1 1826 8) := hf.2.2 8 (by decide)
      have lnH1 : (H1.1 1826 19) = (H.1 1826 19) := hf.2.2 19 (by decide)
      have hXH1 := RZ9_fr hX hf (by decide) (by decide)
      have hRH1 : RT9 H1 X := RT_fr hR hf (by decide) (by decide)
      have hLRH1 : LR9 H1 X l := LR_fr hLR hf (by decide)
      have hlv9 := congrFun lVH1 l
      have hrwb := bq_le (prN (tot9 X al (tyX X l) mo) v)
      have hnb := bq_le (sumN (fun i => (vv X al (i + 1) ((tyX X l) v)).length) (k - 1))
      have hlt9 := lv3 v (by omega)
      have hlt8 := congrFun lTH1 (6 * l + v)
      have hlt7 := hlt0 v (by omega)
      refine h_run 2 (pc' := 64) (l' := [(0, .inr (.inr 1826)), (1, .inl (l : Int)), (2, .inl (mo : Int)), (3, .inl alz), (4, .inr (.inl rw9)), (6, .inl no), (7, .inl (v : Int)), (8, .inr (.inl n)), (10, .inl (k : Int))]) (st' := [.inl (mo : Int), .inl (k : Int)]) rfl ?_
      refine h_igt (off := 40) (t := 104) rfl rfl (by omega) (by omega) (fun c11 => ?_) (fun c11 => ?_)
      · have hn0 : n = ((bq ((tot9 X al (tyX X l) mo) v) : Nat) : Int) := by rw [tot_sum, hn9, show k - 1 = mo by omega]
        have hnz0 := bq_z (x := (tot9 X al (tyX X l) mo) v)
        refine h_run 4 (pc' := 110) (l' := [(0, .inr (.inr 1826)), (1, .inl (l : Int)), (2, .inl (mo : Int)), (3, .inl alz), (4, .inr (.inl rw9)), (6, .inl no), (7, .inl (v : Int)), (8, .inr (.inl n)), (10, .inl (k : Int))]) (st' := [.inl (z_cmp n 0), .inl no]) rfl ?_
        have hcm := z_cm (x := n) (y := 0) (by omega) (by decide)
        refine h_zne (off := 7) (t := 117) rfl rfl (z_int _) (fun c12 => ?_) (fun c12 => ?_)
        · refine h_run 1 (pc' := 118) (l' := [(0, .inr (.inr 1826)), (1, .inl (l : Int)), (2, .inl (mo : Int)), (3, .inl alz), (4, .inr (.inl rw9)), (6, .inl no), (7, .inl (v : Int)), (8, .inr (.inl n)), (10, .inl (k : Int))]) (st' := [.inl 0, .inl no]) rfl ?_
          have hzo := z_or_b (x := no) (y := 0) hno (by decide)
          have hzo9 : (z_or no 0 = 0 → no = 0 ∧ 1 ≤ (tot9 X al (tyX X l) mo) v) ∧ (no = 0 → z_or no 0 ≠ 0 → (tot9 X al (tyX X l) mo) v = 0) := ⟨fun q9 => by have q8 := hzo.2 q9; exact ⟨q8.1, by omega⟩, fun q9 q8 => by by_cases q7 : (tot9 X al (tyX X l) mo) v = 0; { exact q7 }; { exfalso; exact q8 (by rw [q9]; first | rfl | (exfalso; omega)) }⟩
          refine h_run 4 (pc' := 125) (l' := [(0, .inr (.inr 1826)), (1, .inl (l : Int)), (2, .inl (mo : Int)), (3, .inl alz), (4, .inr (.inl rw9)), (6, .inl (z_or no 0)), (7, .inl (v : Int)), (8, .inr (.inl n)), (10, .inl (k : Int))]) (st' := [.inr (.inl n), .inr (.inl rw9)]) rfl ?_
          have hmu := mul_rg (x := rw9) (y := n) (by omega) (by have q9 := bq_le ((tot9 X al (tyX X l) mo) v); omega)
          refine h_run 1 (pc' := 126) (l' := [(0, .inr (.inr 1826)), (1, .inl (l : Int)), (2, .inl (mo : Int)), (3, .inl alz), (4, .inr (.inl rw9)), (6, .inl (z_or no 0)), (7, .inl (v : Int)), (8, .inr (.inl n)), (10, .inl (k : Int))]) (st' := [.inr (.inl (rw9 * n))]) rfl ?_
          refine h_cs (i := 489) (j := 208) (M' := mt_208) (xs := [.inr (.inl (rw9 * n))]) (rest := []) rfl rfl rfl rfl rfl (Nat.le_of_ble_eq_true rfl) (Nat.le_of_ble_eq_true rfl) (by omega) (n_bounded (by omega) (by omega)) ?_
          rintro _ _ ⟨⟨b13, rfl, b13r, b13p⟩, rfl⟩
          refine h_run 0 (pc' := 129) (l' := [(0, .inr (.inr 1826)), (1, .inl (l : Int)), (2, .inl (mo : Int)), (3, .inl alz), (4, .inr (.inl rw9)), (6, .inl (z_or no 0)), (7, .inl (v : Int)), (8, .inr (.inl n)), (10, .inl (k : Int))]) (st' := [.inr (.inl b13)]) rfl ?_
          refine h_run 3 (pc' := 44) (l' := [(0, .inr (.inr 1826)), (1, .inl (l : Int)), (2, .inl (mo : Int)), (3, .inl alz), (4, .inr (.inl b13)), (6, .inl (z_or no 0)), (7, .inl ((v : Int) + 1)), (8, .inr (.inl n)), (10, .inl (k : Int))]) (st' := []) rfl ?_
          refine h_loc [0, 1, 2, 3, 4, 6, 7] rfl ?_
          rw [show ((v : Int) + 1) = (((v + 1) : Nat) : Int) by omega]
          exact ih.1 _ l mo b13 (z_or no 0) (v + 1) hf (by omega) (by omega) (by omega) hAH1 hKH1 (by show _ = ((bq (prN (tot9 X al (tyX X l) mo) v * (tot9 X al (tyX X l) mo) v) : Nat) : Int); exact am_mul hrw hn0 b13p) hzo.1 (by omega) (by obtain ⟨q1, q2⟩ := (id hnz : (no = 0 → ∀ u : Nat, u < v → 1 ≤ (tot9 X al (tyX X l) mo) u) ∧ (no ≠ 0 → ∃ u : Nat, u < v ∧ (tot9 X al (tyX X l) mo) u = 0)); refine ⟨fun q9 u9 h9 => ?_, fun q9 => ?_⟩; { have q8 := hzo9.1 q9; by_cases e9 : u9 = v; { subst e9; have q7 := hn0; omega }; { exact q1 q8.1 u9 (by omega) } }; { by_cases e9 : no = 0; { exact ⟨v, by omega, by have q7 := hzo9.2 e9 q9; omega⟩ }; { obtain ⟨u9, a9, b9⟩ := q2 e9; exact ⟨u9, by omega, b9⟩ } }) (by omega : 100000000 - 100 * (v + 1) < w)
        · refine h_run 2 (pc' := 118) (l' := [(0, .inr (.inr 1826)), (1, .inl (l : Int)), (2, .inl (mo : Int)), (3, .inl alz), (4, .inr (.inl rw9)), (6, .inl no), (7, .inl (v : Int)), (8, .inr (.inl n)), (10, .inl (k : Int))]) (st' := [.inl 1, .inl no]) rfl ?_
          have hzo := z_or_b (x := no) (y := 1) hno (by decide)
          have hzo9 : (z_or no 1 = 0 → no = 0 ∧ 1 ≤ (tot9 X al (tyX X l) mo) v) ∧ (no = 0 → z_or no 1 ≠ 0 → (tot9 X al (tyX X l) mo) v = 0) := ⟨fun q9 => by have q8 := hzo.2 q9; exact ⟨q8.1, by omega⟩, fun q9 q8 => by by_cases q7 : (tot9 X al (tyX X l) mo) v = 0; { exact q7 }; { exfalso; exact q8 (by rw [q9]; first | rfl | (exfalso; omega)) }⟩
          refine h_run 4 (pc' := 125) (l' := [(0, .inr (.inr 1826)), (1, .inl (l : Int)), (2, .inl (mo : Int)), (3, .inl alz), (4, .inr (.inl rw9)), (6, .inl (z_or no 1)), (7, .inl (v : Int)), (8, .inr (.inl n)), (10, .inl (k : Int))]) (st' := [.inr (.inl n), .inr (.inl rw9)]) rfl ?_
          have hmu := mul_rg (x := rw9) (y := n) (by omega) (by have q9 := bq_le ((tot9 X al (tyX X l) mo) v); omega)
          refine h_run 1 (pc' := 126) (l' := [(0, .inr (.inr 1826)), (1, .inl (l : Int)), (2, .inl (mo : Int)), (3, .inl alz), (4, .inr (.inl rw9)), (6, .inl (z_or no 1)), (7, .inl (v : Int)), (8, .inr (.inl n)), (10, .inl (k : Int))]) (st' := [.inr (.inl (rw9 * n))]) rfl ?_
          refine h_cs (i := 489) (j := 208) (M' := mt_208) (xs := [.inr (.inl (rw9 * n))]) (rest := []) rfl rfl rfl rfl rfl (Nat.le_of_ble_eq_true rfl) (Nat.le_of_ble_eq_true rfl) (by omega) (n_bounded (by omega) (by omega)) ?_
          rintro _ _ ⟨⟨b14, rfl, b14r, b14p⟩, rfl⟩
          refine h_run 0 (pc' := 129) (l' := [(0, .inr (.inr 1826)), (1, .inl (l : Int)), (2, .inl (mo : Int)), (3, .inl alz), (4, .inr (.inl rw9)), (6, .inl (z_or no 1)), (7, .inl (v : Int)), (8, .inr (.inl n)), (10, .inl (k : Int))]) (st' := [.inr (.inl b14)]) rfl ?_
          refine h_run 3 (pc' := 44) (l' := [(0, .inr (.inr 1826)), (1, .inl (l : Int)), (2, .inl (mo : Int)), (3, .inl alz), (4, .inr (.inl b14)), (6, .inl (z_or no 1)), (7, .inl ((v : Int) + 1)), (8, .inr (.inl n)), (10, .inl (k : Int))]) (st' := []) rfl ?_
          refine h_loc [0, 1, 2, 3, 4, 6, 7] rfl ?_
          rw [show ((v : Int) + 1) = (((v + 1) : Nat) : Int) by omega]
          exact ih.1 _ l mo b14 (z_or no 1) (v + 1) hf (by omega) (by omega) (by omega) hAH1 hKH1 (by show _ = ((bq (prN (tot9 X al (tyX X l) mo) v * (tot9 X al (tyX X l) mo) v) : Nat) : Int); exact am_mul hrw hn0 b14p) hzo.1 (by omega) (by obtain ⟨q1, q2⟩ := (id hnz : (no = 0 → ∀ u : Nat, u < v → 1 ≤ (tot9 X al (tyX X l) mo) u) ∧ (no ≠ 0 → ∃ u : Nat, u < v ∧ (tot9 X al (tyX X l) mo) u = 0)); refine ⟨fun q9 u9 h9 => ?_, fun q9 => ?_⟩; { have q8 := hzo9.1 q9; by_cases e9 : u9 = v; { subst e9; have q7 := hn0; omega }; { exact q1 q8.1 u9 (by omega) } }; { by_cases e9 : no = 0; { exact ⟨v, by omega, by have q7 := hzo9.2 e9 q9; omega⟩ }; { obtain ⟨u9, a9, b9⟩ := q2 e9; exact ⟨u9, by omega, b9⟩ } }) (by omega : 100000000 - 100 * (v + 1) < w)
      · refine h_run 11 (pc' := 86) (l' := [(0, .inr (.inr 1826)), (1, .inl (l : Int)), (2, .inl (mo : Int)), (3, .inl alz), (4, .inr (.inl rw9)), (6, .inl no), (7, .inl (v : Int)), (8, .inr (.inl n)), (10, .inl (k : Int))]) (st' := [.inl ((6 * (l : Int)) + (v : Int)), .inr (.inr 1846), .inl 8, .inr (.inr 1864), .inr (.inl n)]) rfl ?_
        refine h_ild (c := 1846) (j := ((6 * l) + v)) (i := ((6 * (l : Int)) + (v : Int))) rfl rfl (by decide) (by omega) (by omega) ?_
        have g15 : -2147483648 ≤ (H1.1 1846 ((6 * l) + v)) ∧ (H1.1 1846 ((6 * l) + v)) ≤ 2147483647 := hrg10.2 1846 ((6 * l) + v) 96 .int rfl (by omega)
        have e16 : (H1.1 1846 ((6 * l) + v)) = (H.1 1846 ((6 * l) + v)) := congrFun (hf.2.1 1846 (by decide) (by decide)) ((6 * l) + v)
        refine h_run 0 (pc' := 87) (l' := [(0, .inr (.inr 1826)), (1, .inl (l : Int)), (2, .inl (mo : Int)), (3, .inl alz), (4, .inr (.inl rw9)), (6, .inl no), (7, .inl (v : Int)), (8, .inr (.inl n)), (10, .inl (k : Int))]) (st' := [.inl (H1.1 1846 ((6 * l) + v)), .inl 8, .inr (.inr 1864), .inr (.inl n)]) rfl ?_
        refine h_run 3 (pc' := 91) (l' := [(0, .inr (.inr 1826)), (1, .inl (l : Int)), (2, .inl (mo : Int)), (3, .inl alz), (4, .inr (.inl rw9)), (6, .inl no), (7, .inl (v : Int)), (8, .inr (.inl n)), (10, .inl (k : Int))]) (st' := [.inl ((8 * (H1.1 1846 ((6 * l) + v))) + (k : Int)), .inr (.inr 1864), .inr (.inl n)]) rfl ?_
        refine h_lld (c := 1864) (j := (((8 * (H1.1 1846 ((6 * l) + v))) + (k : Int))).toNat) (i := ((8 * (H1.1 1846 ((6 * l) + v))) + (k : Int))) rfl rfl (by decide) (by omega) (by omega) ?_
        have g17 : -9223372036854775808 ≤ (H1.1 1864 (((8 * (H1.1 1846 ((6 * l) + v))) + (k : Int))).toNat) ∧ (H1.1 1864 (((8 * (H1.1 1846 ((6 * l) + v))) + (k : Int))).toNat) ≤ 9223372036854775807 := hrg10.2 1864 (((8 * (H1.1 1846 ((6 * l) + v))) + (k : Int))).toNat 48 .long rfl (by omega)
        refine h_run 0 (pc' := 92) (l' := [(0, .inr (.inr 1826)), (1, .inl (l : Int)), (2, .inl (mo : Int)), (3, .inl alz), (4, .inr (.inl rw9)), (6, .inl no), (7, .inl (v : Int)), (8, .inr (.inl n)), (10, .inl (k : Int))]) (st' := [.inr (.inl (H1.1 1864 (((8 * (H1.1 1846 ((6 * l) + v))) + (k : Int))).toNat)), .inr (.inl n)]) rfl ?_
        have hame : (H1.1 1864 (((8 * (H1.1 1846 ((6 * l) + v))) + (k : Int))).toNat) = ((bq ((fun i => (vv X al (i + 1) ((tyX X l) v)).length) (k - 1)) : Nat) : Int) := by rw [show (fun i => (vv X al (i + 1) ((tyX X l) v)).length) (k - 1) = (vv X al k ((tyX X l) v)).length by show (vv X al (k - 1 + 1) ((tyX X l) v)).length = _; rw [show k - 1 + 1 = k by omega], ← hlt7, ← hlt8]; exact AX_at hAH1 (by omega) (by omega) rfl
        have ham : 0 ≤ (H1.1 1864 (((8 * (H1.1 1846 ((6 * l) + v))) + (k : Int))).toNat) ∧ (H1.1 1864 (((8 * (H1.1 1846 ((6 * l) + v))) + (k : Int))).toNat) ≤ 1000000 := by rw [hame]; have q9 := bq_le ((fun i => (vv X al (i + 1) ((tyX X l) v)).length) (k - 1)); omega
        refine h_run 1 (pc' := 93) (l' := [(0, .inr (.inr 1826)), (1, .inl (l : Int)), (2, .inl (mo : Int)), (3, .inl alz), (4, .inr (.inl rw9)), (6, .inl no), (7, .inl (v : Int)), (8, .inr (.inl n)), (10, .inl (k : Int))]) (st' := [.inr (.inl (n + (H1.1 1864 (((8 * (H1.1 1846 ((6 * l) + v))) + (k : Int))).toNat)))]) rfl ?_
        refine h_cs (i := 489) (j := 208) (M' := mt_208) (xs := [.inr (.inl (n + (H1.1 1864 (((8 * (H1.1 1846 ((6 * l) + v))) + (k : Int))).toNat)))]) (rest := []) rfl rfl rfl rfl rfl (Nat.le_of_ble_eq_true rfl) (Nat.le_of_ble_eq_true rfl) (by omega) (n_bounded (by omega) (by omega)) ?_
        rintro _ _ ⟨⟨b18, rfl, b18r, b18p⟩, rfl⟩
        refine h_run 0 (pc' := 96) (l' := [(0, .inr (.inr 1826)), (1, .inl (l : Int)), (2, .inl (mo : Int)), (3, .inl alz), (4, .inr (.inl rw9)), (6, .inl no), (7, .inl (v : Int)), (8, .inr (.inl n)), (10, .inl (k : Int))]) (st' := [.inr (.inl b18)]) rfl ?_
        refine h_run 3 (pc' := 61) (l' := [(0, .inr (.inr 1826)), (1, .inl (l : Int)), (2, .inl (mo : Int)), (3, .inl alz), (4, .inr (.inl rw9)), (6, .inl no), (7, .inl (v : Int)), (8, .inr (.inl b18)), (10, .inl ((k : Int) + 1))]) (st' := []) rfl ?_
        rw [show ((k : Int) + 1) = (((k + 1) : Nat) : Int) by omega]
        exact ih.2.1 _ l mo rw9 no v b18 (k + 1) hf (by omega) (by omega) (by omega) hAH1 hKH1 hrw hno (by omega) hnz (by obtain ⟨k9, rfl⟩ : ∃ k9, k = k9 + 1 := ⟨k - 1, by omega⟩; rw [Nat.add_sub_cancel]; rw [Nat.add_sub_cancel] at hn9; exact am_up (by omega) hn9 hame b18p) (by omega) (by omega : 100000000 - 100 * v - 10 - (k + 1) < w)
    · intro H1 l mo rw9 v hf hl hmo hxl hVH1 hKH1 hrw htp hv hz0 hw
      refine h_rng (fun hrg19 => ?_)
      obtain ⟨⟨pb1, pb2, pb3, pb4, pb5⟩, pw1, pw2, pw3, pw4⟩ := (id hP : PW H (H.1 1826 1) (H.1 1826 3) (H.1 1826 8) (H.1 1826 13) (H.1 1826 19))
      obtain ⟨v9, ⟨lv1, lv2⟩, lv3, lv4⟩ := pw4 l (by omega)
      obtain ⟨hLR, hlv, hlt0⟩ := hLA.2 l (by omega)
      have hXl := hLA.1
      obtain ⟨⟨xr3, xr4⟩, -⟩ := id hR
      have hTW := hTWa l (by omega)
      have hnv9 : v9 = (nvX X l) := by omega
      have hPH1 : PWc H1 := PWc_fr hP hf (by decide) (by decide)
      have cAH1 : (H1.1 1830) = (H.1 1830) := hf.2.1 1830 (by decide) (by decide)
      have fAH1 : (H1.1 1833) = (H.1 1833) := hf.2.1 1833 (by decide) (by decide)
      have lVH1 : (H1.1 1845) = (H.1 1845) := hf.2.1 1845 (by decide) (by decide)
      have lTH1 : (H1.1 1846) = (H.1 1846) := hf.2.1 1846 (by decide) (by decide)
      have tyH1 : (H1.1 1826 1) = (H.1 1826 1) := hf.2.2 1 (by decide)
      have cnH1 : (H1.1 1826 3) = (H.1 1826 3) := hf.2.2 3 (by decide)
      have fnH1 : (H1.1 1826 8) = (H.1 1826 8) := hf.2.2 8 (by decide)
      have lnH1 : (H1.1 1826 19) = (H.1 1826 19) := hf.2.2 19 (by decide)
      have hXH1 := RZ9_fr hX hf (by decide) (by decide)
      have hRH1 : RT9 H1 X := RT_fr hR hf (by decide) (by decide)
      have hLRH1 : LR9 H1 X l := LR_fr hLR hf (by decide)
      have hlv9 := congrFun lVH1 l
      refine h_run 2 (pc' := 169) (l' := [(0, .inr (.inr 1826)), (1, .inl (l : Int)), (2, .inl (mo : Int)), (3, .inl alz), (4, .inr (.inl rw9)), (7, .inl (v : Int))]) (st' := [.inl 6, .inl (v : Int)]) rfl ?_
      refine h_ige (off := 17) (t := 186) rfl rfl (by omega) (by decide) (fun c20 => ?_) (fun c20 => ?_)
      · refine h_run 4 (pc' := 192) (l' := [(0, .inr (.inr 1826)), (1, .inl (l : Int)), (2, .inl (mo : Int)), (3, .inl alz), (4, .inr (.inl rw9)), (7, .inl 1), (8, .inl 0)]) (st' := []) rfl ?_
        exact ih.2.2.2.1 _ l mo rw9 (1 : Int) 0 hf (by omega) (by omega) (by omega) hVH1 hKH1 hrw htp (fun v8 h8 => by rw [hz0 v8 (by omega), dgt_z]; rfl) ⟨rfl, by decide⟩ (by omega) (by omega : 50000000 - 20 * 0 < w)
      · refine h_run 4 (pc' := 179) (l' := [(0, .inr (.inr 1826)), (1, .inl (l : Int)), (2, .inl (mo : Int)), (3, .inl alz), (4, .inr (.inl rw9)), (7, .inl (v : Int))]) (st' := [.inl 0, .inl (v : Int), .inr (.inr 1868)]) rfl ?_
        refine h_ist (c := 1868) (j := v) (i := (v : Int)) (x := 0) rfl rfl (by decide) (by decide) rfl (by omega) (by decide) ?_
        refine h_run 2 (pc' := 165) (l' := [(0, .inr (.inr 1826)), (1, .inl (l : Int)), (2, .inl (mo : Int)), (3, .inl alz), (4, .inr (.inl rw9)), (7, .inl ((v : Int) + 1))]) (st' := []) rfl ?_
        rw [show ((v : Int) + 1) = (((v + 1) : Nat) : Int) by omega]
        exact ih.2.2.1 _ l mo rw9 (v + 1) (fr_a hf (by decide)) (by omega) (by omega) (by omega) hVH1 hKH1 hrw htp (by omega) (z0_up hz0) (by omega : 80000000 - (v + 1) < w)
    · intro H1 l mo rw9 dn i hf hl hmo hxl hVH1 hKH1 hrw htp hNW hDN hi hw
      refine h_rng (fun hrg21 => ?_)
      obtain ⟨⟨pb1, pb2, pb3, pb4, pb5⟩, pw1, pw2, pw3, pw4⟩ := (id hP : PW H (H.1 1826 1) (H.1 1826 3) (H.1 1826 8) (H.1 1826 13) (H.1 1826 19))
      obtain ⟨v9, ⟨lv1, lv2⟩, lv3, lv4⟩ := pw4 l (by omega)
      obtain ⟨hLR, hlv, hlt0⟩ := hLA.2 l (by omega)
      have hXl := hLA.1
      obtain ⟨⟨xr3, xr4⟩, -⟩ := id hR
      have hTW := hTWa l (by omega)
      have hnv9 : v9 = (nvX X l) := by omega
      have hPH1 : PWc H1 := PWc_fr hP hf (by decide) (by decide)
      have cAH1 : (H1.1 1830) = (H.1 1830) := hf.2.1 1830 (by decide) (by decide)
      have fAH1 : (H1.1 1833) = (H.1 1833) := hf.2.1 1833 (by decide) (by decide)
      have lVH1 : (H1.1 1845) = (H.1 1845) := hf.2.1 1845 (by decide) (by decide)
      have lTH1 : (H1.1 1846) = (H.1 1846) := hf.2.1 1846 (by decide) (by decide)
      have tyH1 : (H1.1 1826 1) = (H.1 1826 1) := hf.2.2 1 (by decide)
      have cnH1 : (H1.1 1826 3) = (H.1 1826 3) := hf.2.2 3 (by decide)
      have fnH1 : (H1.1 1826 8) = (H.1 1826 8) := hf.2.2 8 (by decide)
      have lnH1 : (H1.1 1826 19) = (H.1 1826 19) := hf.2.2 19 (by decide)
      have hXH1 := RZ9_fr hX hf (by decide) (by decide)
      have hRH1 : RT9 H1 X := RT_fr hR hf (by decide) (by decide)
      have hLRH1 : LR9 H1 X l := LR_fr hLR hf (by decide)
      have hlv9 := congrFun lVH1 l
      obtain ⟨hdn1, hdn2⟩ := id hDN
      refine h_run 4 (pc' := 198) (l' := [(0, .inr (.inr 1826)), (1, .inl (l : Int)), (2, .inl (mo : Int)), (3, .inl alz), (4, .inr (.inl rw9)), (7, .inl dn), (8, .inl (i : Int))]) (st' := [.inl (z_cmp (z_i2l (i : Int)) rw9)]) rfl ?_
      have hcm := z_cm (x := z_i2l (i : Int)) (y := rw9) (z_long _) (by omega)
      have hil := z_i2l_e (x := (i : Int)) (by omega)
      refine h_zge (off := 207) (t := 405) rfl rfl (z_int _) (fun c22 => ?_) (fun c22 => ?_)
      · refine h_run 1 (pc' := 407) (l' := [(0, .inr (.inr 1826)), (1, .inl (l : Int)), (2, .inl (mo : Int)), (3, .inl alz), (4, .inr (.inl rw9)), (7, .inl dn), (8, .inl (i : Int))]) (st' := [.inl dn]) rfl ?_
        refine h_zeq (off := 7) (t := 414) rfl rfl (by omega) (fun c23 => ?_) (fun c23 => ?_)
        · refine h_run 1 (pc' := 415) (l' := [(0, .inr (.inr 1826)), (1, .inl (l : Int)), (2, .inl (mo : Int)), (3, .inl alz), (4, .inr (.inl rw9)), (7, .inl dn), (8, .inl (i : Int))]) (st' := [.inl 2]) rfl ?_
          refine h_reti (x := 2) rfl rfl ?_
          refine ⟨hf, _, rfl, Or.inr (Or.inr ⟨by omega, by omega, ?_⟩)⟩
          rw [show x.toNat = l by omega, show y.toNat = mo by omega]
          have hq9 := tst_of (ar := (ma (H.1 1833) (H.1 1830))) (X := X) (al := al) (l := l) (ty := (tyX X l)) (nv := (nvX X l)) (n := mo) (k := i) (by omega) (by omega) (Or.inr (by omega))
          rw [hq9]
          obtain ⟨hd1, hd2⟩ := id hDN
          exact ⟨by rw [hd1]; split <;> omega, fun q9 => absurd q9 (by decide), fun _ => hKH1⟩
        · refine h_run 2 (pc' := 415) (l' := [(0, .inr (.inr 1826)), (1, .inl (l : Int)), (2, .inl (mo : Int)), (3, .inl alz), (4, .inr (.inl rw9)), (7, .inl dn), (8, .inl (i : Int))]) (st' := [.inl 0]) rfl ?_
          refine h_reti (x := 0) rfl rfl ?_
          refine ⟨hf, _, rfl, Or.inr (Or.inr ⟨by omega, by omega, ?_⟩)⟩
          rw [show x.toNat = l by omega, show y.toNat = mo by omega]
          have hq9 := tst_of (ar := (ma (H.1 1833) (H.1 1830))) (X := X) (al := al) (l := l) (ty := (tyX X l)) (nv := (nvX X l)) (n := mo) (k := i) (by omega) (by omega) (Or.inr (by omega))
          rw [hq9]
          obtain ⟨hd1, hd2⟩ := id hDN
          exact ⟨by rw [hd1]; split <;> omega, fun q9 => absurd q9 (by decide), fun _ => hKH1⟩
      · refine h_run 2 (pc' := 203) (l' := [(0, .inr (.inr 1826)), (1, .inl (l : Int)), (2, .inl (mo : Int)), (3, .inl alz), (4, .inr (.inl rw9)), (7, .inl dn), (8, .inl (i : Int))]) (st' := [.inl (l : Int), .inr (.inr 1826)]) rfl ?_
        have hEL : ∀ v : Nat, (v : Int) < (H.1 1845) l → (LN9 X al mo ((H.1 1846) (6 * l + v)).toNat)[((H1.1 1868) v).toNat]? = some ((rwV X al (tyX X l) (nvX X l) mo i) v) := fun v9 h9 => LN_get (hlt0 v9 (by omega)) (lv3 v9 (by omega)).1 (hNW v9 (by omega)) (htp v9 (by omega))
        refine h_cv (i := 522) (j := 219) (b := 1826) (M' := mt_219) (xs := [.inl (l : Int)]) (rest := []) rfl rfl rfl rfl rfl rfl (Nat.le_of_ble_eq_true rfl) (Nat.le_of_ble_eq_true rfl) (by omega) (n_row (X := X) (Ls := LN9 X al mo) (vs := (rwV X al (tyX X l) (nvX X l) mo i)) (l := l) (by omega) hPH1 hXH1 (by omega) hLRH1 hVH1 (fun v9 h9 => by rw [lVH1] at h9; rw [lTH1]; have q9 := hNW v9 (by omega); exact ⟨by omega, hEL v9 h9⟩) (by rw [fAH1, cAH1, cnH1, fnH1]; exact fun s9 h9 => tm_flX hTW (by omega) h9 (fun v9 h8 => (htp v9 h8).1)) (fun v9 h9 => by rw [lVH1] at h9; exact rwV_6 (by omega) (htp v9 (by omega)).1)) ?_
        rintro _ H24 ⟨hfH24, rH24, rfl, eH24⟩
        refine h_rng (fun hrg25 => ?_)
        have hf26 : fr [50, 51, 53, 55, 56, 67, 72] [1855, 1856, 1857, 1861, 1862, 1863, 1864, 1865, 1867, 1868, 1869] H H24 := fr_t hf hfH24 (by decide) (by decide)
        have hPH24 : PWc H24 := PWc_fr hP hf26 (by decide) (by decide)
        have cAH24 : (H24.1 1830) = (H.1 1830) := hf26.2.1 1830 (by decide) (by decide)
        have fAH24 : (H24.1 1833) = (H.1 1833) := hf26.2.1 1833 (by decide) (by decide)
        have lVH24 : (H24.1 1845) = (H.1 1845) := hf26.2.1 1845 (by decide) (by decide)
        have lTH24 : (H24.1 1846) = (H.1 1846) := hf26.2.1 1846 (by decide) (by decide)
        have tyH24 : (H24.1 1826 1) = (H.1 1826 1) := hf26.2.2 1 (by decide)
        have cnH24 : (H24.1 1826 3) = (H.1 1826 3) := hf26.2.2 3 (by decide)
        have fnH24 : (H24.1 1826 8) = (H.1 1826 8) := hf26.2.2 8 (by decide)
        have lnH24 : (H24.1 1826 19) = (H.1 1826 19) := hf26.2.2 19 (by decide)
        have hXH24 := RZ9_fr hX hf26 (by decide) (by decide)
        have hRH24 : RT9 H24 X := RT_fr hR hf26 (by decide) (by decide)
        have hLRH24 : LR9 H24 X l := LR_fr hLR hf26 (by decide)
        have hVH24 : VS (H24.1 1826 1) (H24.1 1861) (H24.1 1862) (H24.1 1863) (LN9 X al mo) := VS_fr hVH1 hfH24 (by decide) (by decide)
        have hKH24 : (H24.1 1826 67) = (H.1 1826 67) ∧ (H24.1 1867) = (H.1 1867) := ⟨(hfH24.2.2 67 (by decide)).trans hKH1.1, (hfH24.2.1 1867 (by decide) (by decide)).trans hKH1.2⟩
        have hNWH24 : NW9 (H24.1 1868) (tot9 X al (tyX X l) mo) (nvX X l) i := by rw [hfH24.2.1 1868 (by decide) (by decide)]; exact hNW
        rw [fAH1, cAH1] at eH24
        have eH24 : rH24 = (rwO (ma (H.1 1833) (H.1 1830)) X al l (tyX X l) (nvX X l) mo) i := eH24
        have oH24 : (rwO (ma (H.1 1833) (H.1 1830)) X al l (tyX X l) (nvX X l) mo) i = 0 ∨ (rwO (ma (H.1 1833) (H.1 1830)) X al l (tyX X l) (nvX X l) mo) i = 1 ∨ (rwO (ma (H.1 1833) (H.1 1830)) X al l (tyX X l) (nvX X l) mo) i = 2 := rO_3 _ _
        refine h_run 0 (pc' := 206) (l' := [(0, .inr (.inr 1826)), (1, .inl (l : Int)), (2, .inl (mo : Int)), (3, .inl alz), (4, .inr (.inl rw9)), (7, .inl dn), (8, .inl (i : Int))]) (st' := [.inl rH24]) rfl ?_
        refine h_run 3 (pc' := 211) (l' := [(0, .inr (.inr 1826)), (1, .inl (l : Int)), (2, .inl (mo : Int)), (3, .inl alz), (4, .inr (.inl rw9)), (7, .inl dn), (8, .inl (i : Int)), (9, .inl rH24)]) (st' := [.inl 1, .inl rH24]) rfl ?_
        refine h_ine (off := 103) (t := 314) rfl rfl (by omega) (by decide) (fun c27 => ?_) (fun c27 => ?_)
        · refine h_run 2 (pc' := 318) (l' := [(0, .inr (.inr 1826)), (1, .inl (l : Int)), (2, .inl (mo : Int)), (3, .inl alz), (4, .inr (.inl rw9)), (7, .inl dn), (8, .inl (i : Int)), (9, .inl rH24)]) (st' := [.inl rH24, .inl dn]) rfl ?_
          refine h_zne (off := 7) (t := 325) rfl rfl (by omega) (fun c28 => ?_) (fun c28 => ?_)
          · refine h_run 1 (pc' := 326) (l' := [(0, .inr (.inr 1826)), (1, .inl (l : Int)), (2, .inl (mo : Int)), (3, .inl alz), (4, .inr (.inl rw9)), (7, .inl dn), (8, .inl (i : Int)), (9, .inl rH24)]) (st' := [.inl 0, .inl dn]) rfl ?_
            have hdn9 := z_and_b (x := dn) (y := 0) hdn2 (by decide)
            have hdnx := z_and_1 (x := dn) (y := 0) hdn2 (by decide)
            have hDN9 : DN9 (rwO (ma (H.1 1833) (H.1 1830)) X al l (tyX X l) (nvX X l) mo) (i + 1) (z_and dn 0) := DN_up hDN (by rw [← eH24]; omega) oH24 (by rw [← eH24]; split <;> omega) hdnx
            refine h_run 5 (pc' := 334) (l' := [(0, .inr (.inr 1826)), (1, .inl (l : Int)), (2, .inl (mo : Int)), (3, .inl alz), (4, .inr (.inl rw9)), (7, .inl (z_and dn 0)), (8, .inl (i : Int)), (9, .inl rH24)]) (st' := [.inl (l : Int), .inr (.inr 1845)]) rfl ?_
            refine h_ild (c := 1845) (j := l) (i := (l : Int)) rfl rfl (by decide) rfl (by omega) ?_
            have g29 : -2147483648 ≤ (H24.1 1845 l) ∧ (H24.1 1845 l) ≤ 2147483647 := hrg25.2 1845 l 16 .int rfl (by omega)
            have e30 : (H24.1 1845 l) = (H1.1 1845 l) := congrFun (hfH24.2.1 1845 (by decide) (by decide)) l
            have e31 : (H1.1 1845 l) = (H.1 1845 l) := congrFun (hf.2.1 1845 (by decide) (by decide)) l
            refine h_run 0 (pc' := 335) (l' := [(0, .inr (.inr 1826)), (1, .inl (l : Int)), (2, .inl (mo : Int)), (3, .inl alz), (4, .inr (.inl rw9)), (7, .inl (z_and dn 0)), (8, .inl (i : Int)), (9, .inl rH24)]) (st' := [.inl (H24.1 1845 l)]) rfl ?_
            refine h_run 3 (pc' := 339) (l' := [(0, .inr (.inr 1826)), (1, .inl (l : Int)), (2, .inl (mo : Int)), (3, .inl alz), (4, .inr (.inl rw9)), (7, .inl (z_and dn 0)), (8, .inl (i : Int)), (9, .inl rH24), (10, .inl ((H24.1 1845 l) - 1))]) (st' := []) rfl ?_
            refine h_loc [0, 1, 2, 3, 4, 7, 8, 10] rfl ?_
            exact ih.2.2.2.2.2.2 _ l mo rw9 (z_and dn 0) i ((H24.1 1845 l) - 1) hf26 (by omega) (by omega) (by omega) hVH24 hKH24 hrw htp (NX_0 hNWH24 (by omega)) hDN9 (by omega) (by omega) (by omega : 50000000 - 20 * i - 10 + (((H24.1 1845 l) - 1) + 1).toNat < w)
          · refine h_run 2 (pc' := 326) (l' := [(0, .inr (.inr 1826)), (1, .inl (l : Int)), (2, .inl (mo : Int)), (3, .inl alz), (4, .inr (.inl rw9)), (7, .inl dn), (8, .inl (i : Int)), (9, .inl rH24)]) (st' := [.inl 1, .inl dn]) rfl ?_
            have hdn9 := z_and_b (x := dn) (y := 1) hdn2 (by decide)
            have hdnx := z_and_1 (x := dn) (y := 1) hdn2 (by decide)
            have hDN9 : DN9 (rwO (ma (H.1 1833) (H.1 1830)) X al l (tyX X l) (nvX X l) mo) (i + 1) (z_and dn 1) := DN_up hDN (by rw [← eH24]; omega) oH24 (by rw [← eH24]; split <;> omega) hdnx
            refine h_run 5 (pc' := 334) (l' := [(0, .inr (.inr 1826)), (1, .inl (l : Int)), (2, .inl (mo : Int)), (3, .inl alz), (4, .inr (.inl rw9)), (7, .inl (z_and dn 1)), (8, .inl (i : Int)), (9, .inl rH24)]) (st' := [.inl (l : Int), .inr (.inr 1845)]) rfl ?_
            refine h_ild (c := 1845) (j := l) (i := (l : Int)) rfl rfl (by decide) rfl (by omega) ?_
            have g32 : -2147483648 ≤ (H24.1 1845 l) ∧ (H24.1 1845 l) ≤ 2147483647 := hrg25.2 1845 l 16 .int rfl (by omega)
            have e33 : (H24.1 1845 l) = (H1.1 1845 l) := congrFun (hfH24.2.1 1845 (by decide) (by decide)) l
            have e34 : (H1.1 1845 l) = (H.1 1845 l) := congrFun (hf.2.1 1845 (by decide) (by decide)) l
            refine h_run 0 (pc' := 335) (l' := [(0, .inr (.inr 1826)), (1, .inl (l : Int)), (2, .inl (mo : Int)), (3, .inl alz), (4, .inr (.inl rw9)), (7, .inl (z_and dn 1)), (8, .inl (i : Int)), (9, .inl rH24)]) (st' := [.inl (H24.1 1845 l)]) rfl ?_
            refine h_run 3 (pc' := 339) (l' := [(0, .inr (.inr 1826)), (1, .inl (l : Int)), (2, .inl (mo : Int)), (3, .inl alz), (4, .inr (.inl rw9)), (7, .inl (z_and dn 1)), (8, .inl (i : Int)), (9, .inl rH24), (10, .inl ((H24.1 1845 l) - 1))]) (st' := []) rfl ?_
            refine h_loc [0, 1, 2, 3, 4, 7, 8, 10] rfl ?_
            exact ih.2.2.2.2.2.2 _ l mo rw9 (z_and dn 1) i ((H24.1 1845 l) - 1) hf26 (by omega) (by omega) (by omega) hVH24 hKH24 hrw htp (NX_0 hNWH24 (by omega)) hDN9 (by omega) (by omega) (by omega : 50000000 - 20 * i - 10 + (((H24.1 1845 l) - 1) + 1).toNat < w)
        · have hhit : tsO (rwO (ma (H.1 1833) (H.1 1830)) X al l (tyX X l) (nvX X l) mo) (i + 1) = (1, i) := tsO_hit (DN_ne hDN) (by rw [← eH24]; omega)
          refine h_run 2 (pc' := 216) (l' := [(0, .inr (.inr 1826)), (1, .inl (l : Int)), (2, .inl (mo : Int)), (3, .inl alz), (4, .inr (.inl rw9)), (7, .inl dn), (8, .inl (i : Int)), (9, .inl rH24)]) (st' := [.inl (l : Int), .inr (.inr 1826)]) rfl ?_
          refine h_puti (i := 131) (ci := 13) (k := 67) (a := 1826) (x := (l : Int)) rfl rfl rfl rfl rfl rfl (by decide) (by omega) ?_
          refine h_run 2 (pc' := 222) (l' := [(0, .inr (.inr 1826)), (1, .inl (l : Int)), (2, .inl (mo : Int)), (3, .inl alz), (4, .inr (.inl rw9)), (7, .inl dn), (8, .inl (i : Int)), (9, .inl rH24), (10, .inl 0)]) (st' := []) rfl ?_
          refine h_loc [0, 1, 2, 3, 10] rfl ?_
          exact ih.2.2.2.2.1 _ l mo 0 (i) (fr_o hf26 (by decide)) (by omega) (by omega) (by omega) hVH24 hNWH24 (by omega : (l : Int) = (l : Int)) htp hhit (by omega) (by omega) (fun _ h9 => absurd h9 (Nat.not_lt_zero _)) (by omega : 10000 - 100 * 0 < w)
    · intro H1 l mo v i hf hl hmo hxl hVH1 hNW htl htp hhit hi hv hTP hw
      refine h_rng (fun hrg35 => ?_)
      obtain ⟨⟨pb1, pb2, pb3, pb4, pb5⟩, pw1, pw2, pw3, pw4⟩ := (id hP : PW H (H.1 1826 1) (H.1 1826 3) (H.1 1826 8) (H.1 1826 13) (H.1 1826 19))
      obtain ⟨v9, ⟨lv1, lv2⟩, lv3, lv4⟩ := pw4 l (by omega)
      obtain ⟨hLR, hlv, hlt0⟩ := hLA.2 l (by omega)
      have hXl := hLA.1
      obtain ⟨⟨xr3, xr4⟩, -⟩ := id hR
      have hTW := hTWa l (by omega)
      have hnv9 : v9 = (nvX X l) := by omega
      have hPH1 : PWc H1 := PWc_fr hP hf (by decide) (by decide)
      have cAH1 : (H1.1 1830) = (H.1 1830) := hf.2.1 1830 (by decide) (by decide)
      have fAH1 : (H1.1 1833) = (H.1 1833) := hf.2.1 1833 (by decide) (by decide)
      have lVH1 : (H1.1 1845) = (H.1 1845) := hf.2.1 1845 (by decide) (by decide)
      have lTH1 : (H1.1 1846) = (H.1 1846) := hf.2.1 1846 (by decide) (by decide)
      have tyH1 : (H1.1 1826 1) = (H.1 1826 1) := hf.2.2 1 (by decide)
      have cnH1 : (H1.1 1826 3) = (H.1 1826 3) := hf.2.2 3 (by decide)
      have fnH1 : (H1.1 1826 8) = (H.1 1826 8) := hf.2.2 8 (by decide)
      have lnH1 : (H1.1 1826 19) = (H.1 1826 19) := hf.2.2 19 (by decide)
      have hXH1 := RZ9_fr hX hf (by decide) (by decide)
      have hRH1 : RT9 H1 X := RT_fr hR hf (by decide) (by decide)
      have hLRH1 : LR9 H1 X l := LR_fr hLR hf (by decide)
      have hlv9 := congrFun lVH1 l
      refine h_run 4 (pc' := 229) (l' := [(0, .inr (.inr 1826)), (1, .inl (l : Int)), (2, .inl (mo : Int)), (3, .inl alz), (10, .inl (v : Int))]) (st' := [.inl (l : Int), .inr (.inr 1845), .inl (v : Int)]) rfl ?_
      refine h_ild (c := 1845) (j := l) (i := (l : Int)) rfl rfl (by decide) rfl (by omega) ?_
      have g36 : -2147483648 ≤ (H1.1 1845 l) ∧ (H1.1 1845 l) ≤ 2147483647 := hrg35.2 1845 l 16 .int rfl (by omega)
      have e37 : (H1.1 1845 l) = (H.1 1845 l) := congrFun (hf.2.1 1845 (by decide) (by decide)) l
      refine h_run 0 (pc' := 230) (l' := [(0, .inr (.inr 1826)), (1, .inl (l : Int)), (2, .inl (mo : Int)), (3, .inl alz), (10, .inl (v : Int))]) (st' := [.inl (H1.1 1845 l), .inl (v : Int)]) rfl ?_
      refine h_ige (off := 82) (t := 312) rfl rfl (by omega) (by omega) (fun c38 => ?_) (fun c38 => ?_)
      · refine h_run 1 (pc' := 313) (l' := [(0, .inr (.inr 1826)), (1, .inl (l : Int)), (2, .inl (mo : Int)), (3, .inl alz), (10, .inl (v : Int))]) (st' := [.inl 1]) rfl ?_
        refine h_reti (x := 1) rfl rfl ?_
        refine ⟨hf, _, rfl, Or.inr (Or.inr ⟨by omega, by omega, ?_⟩)⟩
        rw [show x.toNat = l by omega, show y.toNat = mo by omega]
        have hq9 := tst_of (ar := (ma (H.1 1833) (H.1 1830))) (X := X) (al := al) (l := l) (ty := (tyX X l)) (nv := (nvX X l)) (n := mo) (k := i + 1) (by omega) (by omega) (Or.inl (by rw [hhit]))
        rw [hq9, hhit]
        exact ⟨rfl, fun _ => ⟨htl, fun v9 h9 => hTP v9 (by omega)⟩, fun q9 => absurd rfl q9⟩
      · have hlt := lv3 v (by omega)
        have hnw := hNW v (by omega)
        obtain ⟨tt, htt⟩ : ∃ q8 : Nat, (H.1 1846) (6 * l + v) = (q8 : Int) := ⟨((H.1 1846) (6 * l + v)).toNat, by omega⟩
        obtain ⟨nn, hnn⟩ : ∃ q8 : Nat, (H1.1 1868) v = (q8 : Int) := ⟨((H1.1 1868) v).toNat, by omega⟩
        have hget := LN_get (X := X) (al := al) (mo := mo) (l := l) (nv := (nvX X l)) (i := i) (v := v) (hlt0 v (by omega)) hlt.1 hnw (htp v (by omega))
        rw [htt, hnn, Int.toNat_natCast, Int.toNat_natCast] at hget
        obtain ⟨mv1, mv2, mv3⟩ := hVH1 tt (by omega)
        have hnl : nn < (LN9 X al mo tt).length := (List.getElem?_eq_some_iff.mp hget).1
        obtain ⟨kv1, kv2, kv3⟩ := mv3 nn _ hget
        have hlt8 := congrFun lTH1 (6 * l + v)
        refine h_run 8 (pc' := 247) (l' := [(0, .inr (.inr 1826)), (1, .inl (l : Int)), (2, .inl (mo : Int)), (3, .inl alz), (10, .inl (v : Int))]) (st' := [.inl ((6 * (l : Int)) + (v : Int)), .inr (.inr 1846), .inl 2001]) rfl ?_
        refine h_ild (c := 1846) (j := ((6 * l) + v)) (i := ((6 * (l : Int)) + (v : Int))) rfl rfl (by decide) (by omega) (by omega) ?_
        have g39 : -2147483648 ≤ (H1.1 1846 ((6 * l) + v)) ∧ (H1.1 1846 ((6 * l) + v)) ≤ 2147483647 := hrg35.2 1846 ((6 * l) + v) 96 .int rfl (by omega)
        have e40 : (H1.1 1846 ((6 * l) + v)) = (H.1 1846 ((6 * l) + v)) := congrFun (hf.2.1 1846 (by decide) (by decide)) ((6 * l) + v)
        refine h_run 0 (pc' := 248) (l' := [(0, .inr (.inr 1826)), (1, .inl (l : Int)), (2, .inl (mo : Int)), (3, .inl alz), (10, .inl (v : Int))]) (st' := [.inl (H1.1 1846 ((6 * l) + v)), .inl 2001]) rfl ?_
        refine h_run 4 (pc' := 255) (l' := [(0, .inr (.inr 1826)), (1, .inl (l : Int)), (2, .inl (mo : Int)), (3, .inl alz), (10, .inl (v : Int))]) (st' := [.inl (v : Int), .inr (.inr 1868), .inl (2001 * (H1.1 1846 ((6 * l) + v)))]) rfl ?_
        refine h_ild (c := 1868) (j := v) (i := (v : Int)) rfl rfl (by decide) rfl (by omega) ?_
        have g41 : -2147483648 ≤ (H1.1 1868 v) ∧ (H1.1 1868 v) ≤ 2147483647 := hrg35.2 1868 v 6 .int rfl (by omega)
        refine h_run 0 (pc' := 256) (l' := [(0, .inr (.inr 1826)), (1, .inl (l : Int)), (2, .inl (mo : Int)), (3, .inl alz), (10, .inl (v : Int))]) (st' := [.inl (H1.1 1868 v), .inl (2001 * (H1.1 1846 ((6 * l) + v)))]) rfl ?_
        refine h_run 4 (pc' := 262) (l' := [(0, .inr (.inr 1826)), (1, .inl (l : Int)), (2, .inl (mo : Int)), (3, .inl alz), (10, .inl (v : Int)), (11, .inl ((2001 * (H1.1 1846 ((6 * l) + v))) + (H1.1 1868 v))), (12, .inl 0)]) (st' := []) rfl ?_
        have g42 : -2147483648 ≤ (H1.1 1826 67) ∧ (H1.1 1826 67) ≤ 2147483647 := hrg35.1 1826 13 67 _ .int rfl rfl
        rw [show ((2001 * (H1.1 1846 ((6 * l) + v))) + (H1.1 1868 v)) = (((((2001 * (H1.1 1846 ((6 * l) + v))) + (H1.1 1868 v))).toNat : Nat) : Int) by omega]
        exact ih.2.2.2.2.2.1 _ l mo v (((2001 * (H1.1 1846 ((6 * l) + v))) + (H1.1 1868 v))).toNat 0 (i) hf (by omega) (by omega) (by omega) hVH1 hNW (by omega : (H1.1 1826 67) = (l : Int)) htp hhit (by omega) (by omega) hTP (by omega) (by omega) (by rw [show (2001 * _ + _ : Int).toNat = 2001 * tt + nn by omega]; exact ⟨kv2, kv3⟩) (fun _ h8 => absurd h8 (Nat.not_lt_zero _)) (by omega : 10000 - 100 * v - 10 - 0 < w)
    · intro H1 l mo v q x9 i hf hl hmo hxl hVH1 hNW htl htp hhit hi hv hTP hx hq hvq hcp hw
      refine h_rng (fun hrg43 => ?_)
      obtain ⟨⟨pb1, pb2, pb3, pb4, pb5⟩, pw1, pw2, pw3, pw4⟩ := (id hP : PW H (H.1 1826 1) (H.1 1826 3) (H.1 1826 8) (H.1 1826 13) (H.1 1826 19))
      obtain ⟨v9, ⟨lv1, lv2⟩, lv3, lv4⟩ := pw4 l (by omega)
      obtain ⟨hLR, hlv, hlt0⟩ := hLA.2 l (by omega)
      have hXl := hLA.1
      obtain ⟨⟨xr3, xr4⟩, -⟩ := id hR
      have hTW := hTWa l (by omega)
      have hnv9 : v9 = (nvX X l) := by omega
      have hPH1 : PWc H1 := PWc_fr hP hf (by decide) (by decide)
      have cAH1 : (H1.1 1830) = (H.1 1830) := hf.2.1 1830 (by decide) (by decide)
      have fAH1 : (H1.1 1833) = (H.1 1833) := hf.2.1 1833 (by decide) (by decide)
      have lVH1 : (H1.1 1845) = (H.1 1845) := hf.2.1 1845 (by decide) (by decide)
      have lTH1 : (H1.1 1846) = (H.1 1846) := hf.2.1 1846 (by decide) (by decide)
      have tyH1 : (H1.1 1826 1) = (H.1 1826 1) := hf.2.2 1 (by decide)
      have cnH1 : (H1.1 1826 3) = (H.1 1826 3) := hf.2.2 3 (by decide)
      have fnH1 : (H1.1 1826 8) = (H.1 1826 8) := hf.2.2 8 (by decide)
      have lnH1 : (H1.1 1826 19) = (H.1 1826 19) := hf.2.2 19 (by decide)
      have hXH1 := RZ9_fr hX hf (by decide) (by decide)
      have hRH1 : RT9 H1 X := RT_fr hR hf (by decide) (by decide)
      have hLRH1 : LR9 H1 X l := LR_fr hLR hf (by decide)
      have hlv9 := congrFun lVH1 l
      obtain ⟨hvq1, hvq2⟩ := id hvq
      have hv66 := rwV_6 (X := X) (al := al) (ty := (tyX X l)) (nv := (nvX X l)) (N := mo) (r := i) (v := v) (by omega) (htp v (by omega)).1
      refine h_run 4 (pc' := 270) (l' := [(0, .inr (.inr 1826)), (1, .inl (l : Int)), (2, .inl (mo : Int)), (3, .inl alz), (10, .inl (v : Int)), (11, .inl (q : Int)), (12, .inl (x9 : Int))]) (st' := [.inl (q : Int), .inr (.inr 1862), .inl (x9 : Int)]) rfl ?_
      refine h_ild (c := 1862) (j := q) (i := (q : Int)) rfl rfl (by decide) rfl (by omega) ?_
      have g44 : -2147483648 ≤ (H1.1 1862 q) ∧ (H1.1 1862 q) ≤ 2147483647 := hrg43.2 1862 q 12006 .int rfl (by omega)
      refine h_run 0 (pc' := 271) (l' := [(0, .inr (.inr 1826)), (1, .inl (l : Int)), (2, .inl (mo : Int)), (3, .inl alz), (10, .inl (v : Int)), (11, .inl (q : Int)), (12, .inl (x9 : Int))]) (st' := [.inl (H1.1 1862 q), .inl (x9 : Int)]) rfl ?_
      refine h_ige (off := 35) (t := 306) rfl rfl (by omega) (by omega) (fun c45 => ?_) (fun c45 => ?_)
      · refine h_run 2 (pc' := 222) (l' := [(0, .inr (.inr 1826)), (1, .inl (l : Int)), (2, .inl (mo : Int)), (3, .inl alz), (10, .inl ((v : Int) + 1)), (11, .inl (q : Int)), (12, .inl (x9 : Int))]) (st' := []) rfl ?_
        have g46 : -2147483648 ≤ (H1.1 1826 67) ∧ (H1.1 1826 67) ≤ 2147483647 := hrg43.1 1826 13 67 _ .int rfl rfl
        refine h_loc [0, 1, 2, 3, 10] rfl ?_
        rw [show ((v : Int) + 1) = (((v + 1) : Nat) : Int) by omega]
        exact ih.2.2.2.2.1 _ l mo (v + 1) (i) hf (by omega) (by omega) (by omega) hVH1 hNW (by omega : (H1.1 1826 67) = (l : Int)) htp hhit (by omega) (by omega) (fun u8 h8 x8 h7 => by by_cases e8 : u8 = v; { subst e8; rw [hcp x8 (by omega)]; exact hvq.2 x8 h7 }; { exact hTP u8 (by omega) x8 h7 }) (by omega : 10000 - 100 * (v + 1) < w)
      · refine h_run 14 (pc' := 298) (l' := [(0, .inr (.inr 1826)), (1, .inl (l : Int)), (2, .inl (mo : Int)), (3, .inl alz), (10, .inl (v : Int)), (11, .inl (q : Int)), (12, .inl (x9 : Int))]) (st' := [.inl ((7 * (q : Int)) + (x9 : Int)), .inr (.inr 1861), .inl ((7 * (v : Int)) + (x9 : Int)), .inr (.inr 1867)]) rfl ?_
        refine h_ild (c := 1861) (j := ((7 * q) + x9)) (i := ((7 * (q : Int)) + (x9 : Int))) rfl rfl (by decide) (by omega) (by omega) ?_
        have g47 : -2147483648 ≤ (H1.1 1861 ((7 * q) + x9)) ∧ (H1.1 1861 ((7 * q) + x9)) ≤ 2147483647 := hrg43.2 1861 ((7 * q) + x9) 84042 .int rfl (by omega)
        refine h_run 0 (pc' := 299) (l' := [(0, .inr (.inr 1826)), (1, .inl (l : Int)), (2, .inl (mo : Int)), (3, .inl alz), (10, .inl (v : Int)), (11, .inl (q : Int)), (12, .inl (x9 : Int))]) (st' := [.inl (H1.1 1861 ((7 * q) + x9)), .inl ((7 * (v : Int)) + (x9 : Int)), .inr (.inr 1867)]) rfl ?_
        refine h_ist (c := 1867) (j := ((7 * v) + x9)) (i := ((7 * (v : Int)) + (x9 : Int))) (x := (H1.1 1861 ((7 * q) + x9))) rfl rfl (by decide) (by decide) (by omega) (by omega) (by omega) ?_
        refine h_run 2 (pc' := 262) (l' := [(0, .inr (.inr 1826)), (1, .inl (l : Int)), (2, .inl (mo : Int)), (3, .inl alz), (10, .inl (v : Int)), (11, .inl (q : Int)), (12, .inl ((x9 : Int) + 1))]) (st' := []) rfl ?_
        have g48 : -2147483648 ≤ (H1.1 1826 67) ∧ (H1.1 1826 67) ≤ 2147483647 := hrg43.1 1826 13 67 _ .int rfl rfl
        rw [show ((x9 : Int) + 1) = (((x9 + 1) : Nat) : Int) by omega]
        exact ih.2.2.2.2.2.1 _ l mo v q (x9 + 1) (i) (fr_a hf (by decide)) (by omega) (by omega) (by omega) hVH1 hNW (by omega : (H1.1 1826 67) = (l : Int)) htp hhit (by omega) (by omega) (fun u8 h8 x8 h7 => (up_ne _ _ (by have q9 := (rwV_6 (X := X) (al := al) (ty := (tyX X l)) (nv := (nvX X l)) (N := mo) (r := i) (v := u8) (by omega) (htp u8 (by omega)).1).2; omega)).trans (hTP u8 h8 x8 h7)) (by omega) (by omega) hvq (pv_up hcp rfl rfl) (by omega : 10000 - 100 * v - 10 - (x9 + 1) < w)
    · intro H1 l mo rw9 dn i vv9 hf hl hmo hxl hVH1 hKH1 hrw htp hNX hDN hi hvv hw
      refine h_rng (fun hrg49 => ?_)
      obtain ⟨⟨pb1, pb2, pb3, pb4, pb5⟩, pw1, pw2, pw3, pw4⟩ := (id hP : PW H (H.1 1826 1) (H.1 1826 3) (H.1 1826 8) (H.1 1826 13) (H.1 1826 19))
      obtain ⟨v9, ⟨lv1, lv2⟩, lv3, lv4⟩ := pw4 l (by omega)
      obtain ⟨hLR, hlv, hlt0⟩ := hLA.2 l (by omega)
      have hXl := hLA.1
      obtain ⟨⟨xr3, xr4⟩, -⟩ := id hR
      have hTW := hTWa l (by omega)
      have hnv9 : v9 = (nvX X l) := by omega
      have hPH1 : PWc H1 := PWc_fr hP hf (by decide) (by decide)
      have cAH1 : (H1.1 1830) = (H.1 1830) := hf.2.1 1830 (by decide) (by decide)
      have fAH1 : (H1.1 1833) = (H.1 1833) := hf.2.1 1833 (by decide) (by decide)
      have lVH1 : (H1.1 1845) = (H.1 1845) := hf.2.1 1845 (by decide) (by decide)
      have lTH1 : (H1.1 1846) = (H.1 1846) := hf.2.1 1846 (by decide) (by decide)
      have tyH1 : (H1.1 1826 1) = (H.1 1826 1) := hf.2.2 1 (by decide)
      have cnH1 : (H1.1 1826 3) = (H.1 1826 3) := hf.2.2 3 (by decide)
      have fnH1 : (H1.1 1826 8) = (H.1 1826 8) := hf.2.2 8 (by decide)
      have lnH1 : (H1.1 1826 19) = (H.1 1826 19) := hf.2.2 19 (by decide)
      have hXH1 := RZ9_fr hX hf (by decide) (by decide)
      have hRH1 : RT9 H1 X := RT_fr hR hf (by decide) (by decide)
      have hLRH1 : LR9 H1 X l := LR_fr hLR hf (by decide)
      have hlv9 := congrFun lVH1 l
      obtain ⟨hdn1, hdn2⟩ := id hDN
      refine h_run 1 (pc' := 341) (l' := [(0, .inr (.inr 1826)), (1, .inl (l : Int)), (2, .inl (mo : Int)), (3, .inl alz), (4, .inr (.inl rw9)), (7, .inl dn), (8, .inl (i : Int)), (10, .inl vv9)]) (st' := [.inl vv9]) rfl ?_
      refine h_zlt (off := 58) (t := 399) rfl rfl (by omega) (fun c50 => ?_) (fun c50 => ?_)
      · refine h_run 2 (pc' := 192) (l' := [(0, .inr (.inr 1826)), (1, .inl (l : Int)), (2, .inl (mo : Int)), (3, .inl alz), (4, .inr (.inl rw9)), (7, .inl dn), (8, .inl ((i : Int) + 1)), (10, .inl vv9)]) (st' := []) rfl ?_
        refine h_loc [0, 1, 2, 3, 4, 7, 8] rfl ?_
        rw [show ((i : Int) + 1) = (((i + 1) : Nat) : Int) by omega]
        exact ih.2.2.2.1 _ l mo rw9 dn (i + 1) hf (by omega) (by omega) (by omega) hVH1 hKH1 hrw htp (NX_end hNX (by omega)) hDN (by omega) (by omega : 50000000 - 20 * (i + 1) < w)
      · obtain ⟨v, hv⟩ : ∃ k9 : Nat, vv9 = (k9 : Int) := ⟨(vv9).toNat, by omega⟩
        rw [show vv9 = (v : Int) from hv]
        have hlt := lv3 v (by omega)
        have hlt8 := congrFun lTH1 (6 * l + v)
        have hlt7 := hlt0 v (by omega)
        have hnw := hNX.2.1 v (by omega) (by omega)
        have hdl := dgt_lt (tot := (tot9 X al (tyX X l) mo)) (nv := (nvX X l)) (r := i) (v := v) (htp v (by omega)).1
        obtain ⟨tt, htt⟩ : ∃ q8 : Nat, (H.1 1846) (6 * l + v) = (q8 : Int) := ⟨((H.1 1846) (6 * l + v)).toNat, by omega⟩
        have hvc9 := (hVH1 ((H.1 1846) (6 * l + v)).toNat (by omega)).1
        rw [LN_len hlt7 hlt.1 (htp v (by omega)).2] at hvc9
        have hvq9 : (H1.1 1863) ((H1.1 1846) (6 * l + v)).toNat = (H1.1 1863) ((H.1 1846) (6 * l + v)).toNat := by rw [lTH1]
        have htp1 := htp v (by omega)
        have hNXv : NX9 (H1.1 1868) (tot9 X al (tyX X l) mo) (nvX X l) i (v : Int) := by rw [show (v : Int) = vv9 by omega]; exact hNX
        refine h_run 4 (pc' := 351) (l' := [(0, .inr (.inr 1826)), (1, .inl (l : Int)), (2, .inl (mo : Int)), (3, .inl alz), (4, .inr (.inl rw9)), (7, .inl dn), (8, .inl (i : Int)), (10, .inl (v : Int))]) (st' := [.inl (v : Int), .inr (.inr 1868), .inl (v : Int), .inr (.inr 1868)]) rfl ?_
        refine h_ild (c := 1868) (j := v) (i := (v : Int)) rfl rfl (by decide) rfl (by omega) ?_
        have g51 : -2147483648 ≤ (H1.1 1868 v) ∧ (H1.1 1868 v) ≤ 2147483647 := hrg49.2 1868 v 6 .int rfl (by omega)
        refine h_run 0 (pc' := 352) (l' := [(0, .inr (.inr 1826)), (1, .inl (l : Int)), (2, .inl (mo : Int)), (3, .inl alz), (4, .inr (.inl rw9)), (7, .inl dn), (8, .inl (i : Int)), (10, .inl (v : Int))]) (st' := [.inl (H1.1 1868 v), .inl (v : Int), .inr (.inr 1868)]) rfl ?_
        refine h_run 2 (pc' := 354) (l' := [(0, .inr (.inr 1826)), (1, .inl (l : Int)), (2, .inl (mo : Int)), (3, .inl alz), (4, .inr (.inl rw9)), (7, .inl dn), (8, .inl (i : Int)), (10, .inl (v : Int))]) (st' := [.inl ((H1.1 1868 v) + 1), .inl (v : Int), .inr (.inr 1868)]) rfl ?_
        refine h_ist (c := 1868) (j := v) (i := (v : Int)) (x := ((H1.1 1868 v) + 1)) rfl rfl (by decide) (by decide) rfl (by omega) (by omega) ?_
        refine h_run 3 (pc' := 361) (l' := [(0, .inr (.inr 1826)), (1, .inl (l : Int)), (2, .inl (mo : Int)), (3, .inl alz), (4, .inr (.inl rw9)), (7, .inl dn), (8, .inl (i : Int)), (10, .inl (v : Int))]) (st' := [.inl (v : Int), .inr (.inr 1868)]) rfl ?_
        refine h_ild (c := 1868) (j := v) (i := (v : Int)) rfl rfl (by decide) rfl (by omega) ?_
        rw [show (zu H1 1868 (up (H1.1 1868) v ((H1.1 1868 v) + 1))).1 1868 v = ((H1.1 1868 v) + 1) from (show up _ v _ v = _ from up_eq _ _ _)]
        refine h_run 0 (pc' := 362) (l' := [(0, .inr (.inr 1826)), (1, .inl (l : Int)), (2, .inl (mo : Int)), (3, .inl alz), (4, .inr (.inl rw9)), (7, .inl dn), (8, .inl (i : Int)), (10, .inl (v : Int))]) (st' := [.inl ((H1.1 1868 v) + 1)]) rfl ?_
        refine h_run 9 (pc' := 377) (l' := [(0, .inr (.inr 1826)), (1, .inl (l : Int)), (2, .inl (mo : Int)), (3, .inl alz), (4, .inr (.inl rw9)), (7, .inl dn), (8, .inl (i : Int)), (10, .inl (v : Int))]) (st' := [.inl ((6 * (l : Int)) + (v : Int)), .inr (.inr 1846), .inr (.inr 1863), .inl ((H1.1 1868 v) + 1)]) rfl ?_
        refine h_ild (c := 1846) (j := ((6 * l) + v)) (i := ((6 * (l : Int)) + (v : Int))) rfl rfl (by decide) (by omega) (by omega) ?_
        have g52 : -2147483648 ≤ (H1.1 1846 ((6 * l) + v)) ∧ (H1.1 1846 ((6 * l) + v)) ≤ 2147483647 := hrg49.2 1846 ((6 * l) + v) 96 .int rfl (by omega)
        have e53 : (H1.1 1846 ((6 * l) + v)) = (H.1 1846 ((6 * l) + v)) := congrFun (hf.2.1 1846 (by decide) (by decide)) ((6 * l) + v)
        refine h_run 0 (pc' := 378) (l' := [(0, .inr (.inr 1826)), (1, .inl (l : Int)), (2, .inl (mo : Int)), (3, .inl alz), (4, .inr (.inl rw9)), (7, .inl dn), (8, .inl (i : Int)), (10, .inl (v : Int))]) (st' := [.inl (H1.1 1846 ((6 * l) + v)), .inr (.inr 1863), .inl ((H1.1 1868 v) + 1)]) rfl ?_
        refine h_ild (c := 1863) (j := ((H1.1 1846 ((6 * l) + v))).toNat) (i := (H1.1 1846 ((6 * l) + v))) rfl rfl (by decide) (by omega) (by omega) ?_
        have g54 : -2147483648 ≤ (H1.1 1863 ((H1.1 1846 ((6 * l) + v))).toNat) ∧ (H1.1 1863 ((H1.1 1846 ((6 * l) + v))).toNat) ≤ 2147483647 := hrg49.2 1863 ((H1.1 1846 ((6 * l) + v))).toNat 6 .int rfl (by omega)
        refine h_run 0 (pc' := 379) (l' := [(0, .inr (.inr 1826)), (1, .inl (l : Int)), (2, .inl (mo : Int)), (3, .inl alz), (4, .inr (.inl rw9)), (7, .inl dn), (8, .inl (i : Int)), (10, .inl (v : Int))]) (st' := [.inl (H1.1 1863 ((H1.1 1846 ((6 * l) + v))).toNat), .inl ((H1.1 1868 v) + 1)]) rfl ?_
        refine h_ige (off := 6) (t := 385) rfl rfl (by omega) (by omega) (fun c55 => ?_) (fun c55 => ?_)
        · have hN9 : NX9 (up (up (H1.1 1868) v ((H1.1 1868) v + 1)) v 0) (tot9 X al (tyX X l) mo) (nvX X l) i ((v : Int) - 1) := by rw [up_up]; exact NX_go hNXv (by omega) (by omega) (by omega)
          refine h_run 4 (pc' := 392) (l' := [(0, .inr (.inr 1826)), (1, .inl (l : Int)), (2, .inl (mo : Int)), (3, .inl alz), (4, .inr (.inl rw9)), (7, .inl dn), (8, .inl (i : Int)), (10, .inl (v : Int))]) (st' := [.inl 0, .inl (v : Int), .inr (.inr 1868)]) rfl ?_
          refine h_ist (c := 1868) (j := v) (i := (v : Int)) (x := 0) rfl rfl (by decide) (by decide) rfl (by omega) (by decide) ?_
          refine h_run 2 (pc' := 339) (l' := [(0, .inr (.inr 1826)), (1, .inl (l : Int)), (2, .inl (mo : Int)), (3, .inl alz), (4, .inr (.inl rw9)), (7, .inl dn), (8, .inl (i : Int)), (10, .inl ((v : Int) + (-1)))]) (st' := []) rfl ?_
          exact ih.2.2.2.2.2.2 _ l mo rw9 dn i ((v : Int) + (-1)) (fr_a (fr_a hf (by decide)) (by decide)) (by omega) (by omega) (by omega) hVH1 hKH1 hrw htp hN9 hDN (by omega) (by omega) (by omega : 50000000 - 20 * i - 10 + (((v : Int) + (-1)) + 1).toNat < w)
        · have hN9 := NX_hit (z := (H1.1 1868) v + 1) hNXv (by omega) (by omega) (by omega) (by omega)
          refine h_run 3 (pc' := 192) (l' := [(0, .inr (.inr 1826)), (1, .inl (l : Int)), (2, .inl (mo : Int)), (3, .inl alz), (4, .inr (.inl rw9)), (7, .inl dn), (8, .inl ((i : Int) + 1)), (10, .inl (v : Int))]) (st' := []) rfl ?_
          refine h_loc [0, 1, 2, 3, 4, 7, 8] rfl ?_
          rw [show ((i : Int) + 1) = (((i + 1) : Nat) : Int) by omega]
          exact ih.2.2.2.1 _ l mo rw9 dn (i + 1) (fr_a hf (by decide)) (by omega) (by omega) (by omega) hVH1 hKH1 hrw htp hN9 hDN (by omega) (by omega : 50000000 - 20 * (i + 1) < w)
set_option maxRecDepth 100000 in
theorem n_test {zC : Nat → Option zsh} {d : Nat} (hd : 12 ≤ d) {H : hp} {X : rx} {al : Bool} {R : Nat} {x y alz : Int} (hP : PWc H) (hX : RZ9 H X) (hR : RT9 H X) (hLA : LA9 H X) (hTWa : ∀ l : Nat, (l : Int) < (H.1 1826 19) → TW9 (ma (H.1 1833) (H.1 1830)) (H.1 1826 3) (H.1 1826 8) X (nvX X l) l R) (hal : hid ((al = false → alz = 0) ∧ (al = true → alz = 1))) (halz : 0 ≤ alz ∧ alz ≤ 1) (hx : -2147483648 ≤ x ∧ x ≤ 2147483647) (hy : -2147483648 ≤ y ∧ y ≤ 2147483647) : hG (zs zC) d mt_218 0 (zargs 0 [.inr (.inr 1826), .inl x, .inl y, .inl alz]) [] H (fun r9 H2 => fr [50, 51, 53, 55, 56, 67, 72] [1855, 1856, 1857, 1861, 1862, 1863, 1864, 1865, 1867, 1868, 1869] H H2 ∧ ∃ r0 : Int, r9 = some (.inl r0) ∧ TRV (ma (H.1 1833) (H.1 1830)) X al x y (H.1 1826 67) (H2.1 1826 67) (H.1 1867) (H2.1 1867) r0) := by
  refine h_rng (fun hrg0 => ?_)
  refine h_run 0 (pc' := 0) (l' := [(0, .inr (.inr 1826)), (1, .inl x), (2, .inl y), (3, .inl alz)]) (st' := []) rfl ?_
  obtain ⟨⟨pb1, pb2, pb3, pb4, pb5⟩, pw1, pw2, pw3, pw4⟩ := (id hP : PW H (H.1 1826 1) (H.1 1826 3) (H.1 1826 8) (H.1 1826 13) (H.1 1826 19))
  have hXl := hLA.1
  refine h_run 1 (pc' := 1) (l' := [(0, .inr (.inr 1826)), (1, .inl x), (2, .inl y), (3, .inl alz)]) (st' := [.inl x]) rfl ?_
  refine h_zlt (off := 11) (t := 12) rfl rfl (by omega) (fun c56 => ?_) (fun c56 => ?_)
  · refine h_run 1 (pc' := 14) (l' := [(0, .inr (.inr 1826)), (1, .inl x), (2, .inl y), (3, .inl alz)]) (st' := [.inl (-101)]) rfl ?_
    refine h_reti (x := (-101)) rfl rfl ?_
    exact ⟨(fr_rf _ _ _), _, rfl, Or.inl ⟨by omega, rfl, rfl, rfl⟩⟩
  · refine h_run 3 (pc' := 9) (l' := [(0, .inr (.inr 1826)), (1, .inl x), (2, .inl y), (3, .inl alz)]) (st' := [.inl (H.1 1826 19), .inl x]) rfl ?_
    have g57 : -2147483648 ≤ (H.1 1826 19) ∧ (H.1 1826 19) ≤ 2147483647 := hrg0.1 1826 13 19 _ .int rfl rfl
    refine h_ilt (off := 6) (t := 15) rfl rfl (by omega) (by omega) (fun c58 => ?_) (fun c58 => ?_)
    · refine h_run 2 (pc' := 17) (l' := [(0, .inr (.inr 1826)), (1, .inl x), (2, .inl y), (3, .inl alz)]) (st' := [.inl 1, .inl y]) rfl ?_
      refine h_ilt (off := 9) (t := 26) rfl rfl (by omega) (by decide) (fun c59 => ?_) (fun c59 => ?_)
      · refine h_run 1 (pc' := 28) (l' := [(0, .inr (.inr 1826)), (1, .inl x), (2, .inl y), (3, .inl alz)]) (st' := [.inl (-102)]) rfl ?_
        refine h_reti (x := (-102)) rfl rfl ?_
        exact ⟨(fr_rf _ _ _), _, rfl, Or.inr (Or.inl ⟨by omega, by omega, rfl, rfl, rfl⟩)⟩
      · refine h_run 2 (pc' := 23) (l' := [(0, .inr (.inr 1826)), (1, .inl x), (2, .inl y), (3, .inl alz)]) (st' := [.inl 6, .inl y]) rfl ?_
        refine h_ile (off := 6) (t := 29) rfl rfl (by omega) (by decide) (fun c60 => ?_) (fun c60 => ?_)
        · obtain ⟨l, rfl⟩ : ∃ k9 : Nat, x = (k9 : Int) := ⟨(x).toNat, by omega⟩
          obtain ⟨mo, rfl⟩ : ∃ k9 : Nat, y = (k9 : Int) := ⟨(y).toNat, by omega⟩
          obtain ⟨⟨pb1, pb2, pb3, pb4, pb5⟩, pw1, pw2, pw3, pw4⟩ := (id hP : PW H (H.1 1826 1) (H.1 1826 3) (H.1 1826 8) (H.1 1826 13) (H.1 1826 19))
          obtain ⟨v9, ⟨lv1, lv2⟩, lv3, lv4⟩ := pw4 l (by omega)
          obtain ⟨hLR, hlv, hlt0⟩ := hLA.2 l (by omega)
          have hXl := hLA.1
          obtain ⟨⟨xr3, xr4⟩, -⟩ := id hR
          have hTW := hTWa l (by omega)
          have hnv9 : v9 = (nvX X l) := by omega
          refine h_run 3 (pc' := 32) (l' := [(0, .inr (.inr 1826)), (1, .inl (l : Int)), (2, .inl (mo : Int)), (3, .inl alz)]) (st' := [.inl alz, .inl (mo : Int), .inr (.inr 1826)]) rfl ?_
          refine h_cv (i := 514) (j := 209) (b := 1826) (M' := mt_209) (xs := [.inl alz, .inl (mo : Int)]) (rest := []) rfl rfl rfl rfl rfl rfl (Nat.le_of_ble_eq_true rfl) (Nat.le_of_ble_eq_true rfl) (by omega) (n_countValues (X := X) (al := al) (by omega) hP hR (by omega) hal halz) ?_
          rintro _ H61 ⟨rfl, hfH61, hAH61⟩
          refine h_rng (fun hrg62 => ?_)
          have hf63 : fr [50, 51, 53, 55, 56, 67, 72] [1855, 1856, 1857, 1861, 1862, 1863, 1864, 1865, 1867, 1868, 1869] H H61 := fr_t (fr_rf _ _ _) hfH61 (by decide) (by decide)
          have hPH61 : PWc H61 := PWc_fr hP hf63 (by decide) (by decide)
          have cAH61 : (H61.1 1830) = (H.1 1830) := hf63.2.1 1830 (by decide) (by decide)
          have fAH61 : (H61.1 1833) = (H.1 1833) := hf63.2.1 1833 (by decide) (by decide)
          have lVH61 : (H61.1 1845) = (H.1 1845) := hf63.2.1 1845 (by decide) (by decide)
          have lTH61 : (H61.1 1846) = (H.1 1846) := hf63.2.1 1846 (by decide) (by decide)
          have tyH61 : (H61.1 1826 1) = (H.1 1826 1) := hf63.2.2 1 (by decide)
          have cnH61 : (H61.1 1826 3) = (H.1 1826 3) := hf63.2.2 3 (by decide)
          have fnH61 : (H61.1 1826 8) = (H.1 1826 8) := hf63.2.2 8 (by decide)
          have lnH61 : (H61.1 1826 19) = (H.1 1826 19) := hf63.2.2 19 (by decide)
          have hXH61 := RZ9_fr hX hf63 (by decide) (by decide)
          have hRH61 : RT9 H61 X := RT_fr hR hf63 (by decide) (by decide)
          have hLRH61 : LR9 H61 X l := LR_fr hLR hf63 (by decide)
          have hKH61 : (H61.1 1826 67) = (H.1 1826 67) ∧ (H61.1 1867) = (H.1 1867) := ⟨hfH61.2.2 67 (by decide), hfH61.2.1 1867 (by decide) (by decide)⟩
          refine h_run 0 (pc' := 35) (l' := [(0, .inr (.inr 1826)), (1, .inl (l : Int)), (2, .inl (mo : Int)), (3, .inl alz)]) (st' := []) rfl ?_
          refine h_run 6 (pc' := 44) (l' := [(0, .inr (.inr 1826)), (1, .inl (l : Int)), (2, .inl (mo : Int)), (3, .inl alz), (4, .inr (.inl 1)), (6, .inl 0), (7, .inl 0)]) (st' := []) rfl ?_
          exact (n_test_cut hd hP hX hR hLA hTWa hal halz hx hy _).1 _ l mo (1 : Int) (0 : Int) 0 hf63 (by omega) (by omega) (by omega) hAH61 hKH61 rfl (by decide) (by omega) ⟨fun _ u9 h9 => absurd h9 (Nat.not_lt_zero _), fun q9 => absurd rfl q9⟩ (Nat.lt_succ_self _)
        · refine h_run 1 (pc' := 28) (l' := [(0, .inr (.inr 1826)), (1, .inl x), (2, .inl y), (3, .inl alz)]) (st' := [.inl (-102)]) rfl ?_
          refine h_reti (x := (-102)) rfl rfl ?_
          exact ⟨(fr_rf _ _ _), _, rfl, Or.inr (Or.inl ⟨by omega, by omega, rfl, rfl, rfl⟩)⟩
    · refine h_run 1 (pc' := 14) (l' := [(0, .inr (.inr 1826)), (1, .inl x), (2, .inl y), (3, .inl alz)]) (st' := [.inl (-101)]) rfl ?_
      refine h_reti (x := (-101)) rfl rfl ?_
      exact ⟨(fr_rf _ _ _), _, rfl, Or.inl ⟨by omega, rfl, rfl, rfl⟩⟩
