/-! names: their bytes, both ways -/
def bC (x s : Int) : Int := z_l2i (z_land (z_lshr x s) 255)
/-- how many of a name's bytes are none -/
def cC (x : Int) : Nat → Int
  | 0 => 0
  | n + 1 => cC x n + (if bC x (40 - 8 * (n : Int)) = 0 then 0 else 1)
theorem cC_b (x : Int) : ∀ n : Nat, 0 ≤ cC x n ∧ cC x n ≤ n
  | 0 => ⟨Int.le_refl _, Int.le_refl _⟩
  | n + 1 => by
    have h := cC_b x n
    unfold cC
    split <;> omega
def bR (x s : Int) : Int := z_and (z_l2i (z_lushr x s)) 255
def cR (x : Int) : Nat → Int
  | 0 => 0
  | n + 1 => cR x n + (if 0 < bR x (56 - 8 * (n : Int)) then 1 else 0)
theorem cR_b (x : Int) : ∀ n : Nat, 0 ≤ cR x n ∧ cR x n ≤ n
  | 0 => ⟨Int.le_refl _, Int.le_refl _⟩
  | n + 1 => by
    have h := cR_b x n
    unfold cR
    split <;> omega
theorem i64_nat {n : Nat} (h : n < 9223372036854775808) : (Int64.ofInt (n : Int)).toBitVec.toNat = n := by
  rw [Int64.toBitVec_ofInt, BitVec.toNat_ofInt]
  omega
theorem i64_int {a : Int64} (h : a.toBitVec.toNat < 9223372036854775808) : a.toInt = (a.toBitVec.toNat : Int) := BitVec.toInt_eq_toNat_of_lt (by omega)
theorem i32_nat {n : Nat} (h : n < 2147483648) : (Int32.ofInt (n : Int)).toBitVec.toNat = n := by
  rw [Int32.toBitVec_ofInt, BitVec.toNat_ofInt]
  omega
theorem i32_int {a : Int32} (h : a.toBitVec.toNat < 2147483648) : a.toInt = (a.toBitVec.toNat : Int) := BitVec.toInt_eq_toNat_of_lt (by omega)
theorem msb_no {x : BitVec 64} (h : x.toNat < 9223372036854775808) : x.msb = false := by
  rw [BitVec.msb_eq_decide]
  exact decide_eq_false (by omega)
theorem sh_no {n : Nat} (s : Nat) (h : n < 281474976710656) : n >>> s < 9223372036854775808 := by
  rw [Nat.shiftRight_eq_div_pow]
  exact Nat.lt_of_le_of_lt (Nat.div_le_self _ _) (by omega)
theorem lshr_n {n : Nat} (h : n < 281474976710656) {s : Int} {b : Nat} (hb : (((Int32.ofInt s).toInt64 &&& 63).toBitVec.smod 64#64).toNat = b) : z_lshr (n : Int) s = ((n >>> b : Nat) : Int) := by
  have e : ((Int64.ofInt (n : Int)) >>> ((Int32.ofInt s).toInt64 &&& 63)).toBitVec.toNat = n >>> b := by
    show ((Int64.ofInt (n : Int)).toBitVec.sshiftRight' (((Int32.ofInt s).toInt64 &&& 63).toBitVec.smod 64#64)).toNat = n >>> b
    rw [BitVec.toNat_sshiftRight'_of_msb_false (msb_no (by rw [i64_nat (by omega)]; omega)), i64_nat (by omega), hb]
  unfold z_lshr
  rw [i64_int (by rw [e]; exact sh_no b h), e]
theorem lushr_n {n : Nat} (h : n < 281474976710656) {s : Int} {b : Nat} (hb : ((Int32.ofInt s).toInt64.toUInt64 &&& Int64.toUInt64 63).toBitVec.toNat % 64 = b) : z_lushr (n : Int) s = ((n >>> b : Nat) : Int) := by
  have e : (((Int64.ofInt (n : Int)).toUInt64 >>> ((Int32.ofInt s).toInt64.toUInt64 &&& Int64.toUInt64 63)).toInt64).toBitVec.toNat = n >>> b := by
    show ((Int64.ofInt (n : Int)).toUInt64 >>> ((Int32.ofInt s).toInt64.toUInt64 &&& Int64.toUInt64 63)).toNat = n >>> b
    rw [UInt64.toNat_shiftRight]
    have e1 : ((Int64.ofInt (n : Int)).toUInt64).toNat = n := i64_nat (by omega)
    rw [e1, ← hb]
    rfl
  unfold z_lushr
  rw [i64_int (by rw [e]; exact sh_no b h), e]
theorem land_n {n : Nat} (h : n < 9223372036854775808) : z_land (n : Int) 255 = ((n % 256 : Nat) : Int) := by
  have e : ((Int64.ofInt (n : Int)) &&& (Int64.ofInt 255)).toBitVec.toNat = n % 256 := by
    show ((Int64.ofInt (n : Int)).toBitVec &&& (Int64.ofInt 255).toBitVec).toNat = n % 256
    rw [BitVec.toNat_and, i64_nat h, show (Int64.ofInt 255).toBitVec.toNat = 2 ^ 8 - 1 from rfl, Nat.and_two_pow_sub_one_eq_mod]
  unfold z_land
  rw [i64_int (by rw [e]; omega), e]
theorem and_n {n : Nat} (h : n < 2147483648) : z_and (n : Int) 255 = ((n % 256 : Nat) : Int) := by
  have e : ((Int32.ofInt (n : Int)) &&& (Int32.ofInt 255)).toBitVec.toNat = n % 256 := by
    show ((Int32.ofInt (n : Int)).toBitVec &&& (Int32.ofInt 255).toBitVec).toNat = n % 256
    rw [BitVec.toNat_and, i32_nat h, show (Int32.ofInt 255).toBitVec.toNat = 2 ^ 8 - 1 from rfl, Nat.and_two_pow_sub_one_eq_mod]
  unfold z_and
  rw [i32_int (by rw [e]; omega), e]
theorem l2i_n {n : Nat} (h : n < 9223372036854775808) : (z_l2i (n : Int)) = (Int32.ofNat n).toInt := by
  unfold z_l2i
  congr 1
  apply Int32.toBitVec_inj.1
  rw [Int64.toBitVec_toInt32, Int64.toBitVec_ofInt]
  apply BitVec.eq_of_toNat_eq
  rw [BitVec.signExtend_eq_setWidth_of_le _ (by decide), BitVec.toNat_setWidth, BitVec.toNat_ofInt, Int32.toBitVec_ofNat', BitVec.toNat_ofNat]
  omega
theorem l2i_and {n : Nat} (h : n < 9223372036854775808) : z_and (z_l2i (n : Int)) 255 = ((n % 256 : Nat) : Int) := by
  rw [l2i_n h]
  have e : ((Int32.ofInt (Int32.ofNat n).toInt) &&& (Int32.ofInt 255)).toBitVec.toNat = n % 256 := by
    rw [Int32.ofInt_toInt]
    show ((Int32.ofNat n).toBitVec &&& (Int32.ofInt 255).toBitVec).toNat = n % 256
    rw [BitVec.toNat_and, Int32.toBitVec_ofNat', BitVec.toNat_ofNat, show (Int32.ofInt 255).toBitVec.toNat = 2 ^ 8 - 1 from rfl, Nat.and_two_pow_sub_one_eq_mod]
    omega
  unfold z_and
  rw [i32_int (by rw [e]; omega), e]
theorem l2i_s {n : Nat} (h : n < 256) : z_l2i (n : Int) = (n : Int) := by
  rw [l2i_n (by omega), i32_int (by rw [Int32.toBitVec_ofNat', BitVec.toNat_ofNat]; omega), Int32.toBitVec_ofNat', BitVec.toNat_ofNat]
  omega
theorem bC_n {n : Nat} (h : n < 281474976710656) {s : Int} {b : Nat} (hb : (((Int32.ofInt s).toInt64 &&& 63).toBitVec.smod 64#64).toNat = b) : bC (n : Int) s = ((n >>> b % 256 : Nat) : Int) := by
  unfold bC
  rw [lshr_n h hb, land_n (sh_no b h), l2i_s (Nat.mod_lt _ (by decide))]
theorem bR_n {n : Nat} (h : n < 281474976710656) {s : Int} {b : Nat} (hb : ((Int32.ofInt s).toInt64.toUInt64 &&& Int64.toUInt64 63).toBitVec.toNat % 64 = b) : bR (n : Int) s = ((n >>> b % 256 : Nat) : Int) := by
  unfold bR
  rw [lushr_n h hb, l2i_and (sh_no b h)]
/-- a name: both count the same bytes, and at least one -/
def gn (x : Int) : Prop := cR x 8 = cC x 6 ∧ 1 ≤ cR x 8
theorem gn_of {n : Nat} (h : n < 281474976710656) (h0 : n % 256 ≠ 0) : gn (n : Int) := by
  have c40 := bC_n h (s := 40) (b := 40) rfl
  have c32 := bC_n h (s := 32) (b := 32) rfl
  have c24 := bC_n h (s := 24) (b := 24) rfl
  have c16 := bC_n h (s := 16) (b := 16) rfl
  have c8 := bC_n h (s := 8) (b := 8) rfl
  have c0 := bC_n h (s := 0) (b := 0) rfl
  have r56 := bR_n h (s := 56) (b := 56) rfl
  have r48 := bR_n h (s := 48) (b := 48) rfl
  have r40 := bR_n h (s := 40) (b := 40) rfl
  have r32 := bR_n h (s := 32) (b := 32) rfl
  have r24 := bR_n h (s := 24) (b := 24) rfl
  have r16 := bR_n h (s := 16) (b := 16) rfl
  have r8 := bR_n h (s := 8) (b := 8) rfl
  have r0 := bR_n h (s := 0) (b := 0) rfl
  have z56 : n >>> 56 = 0 := by rw [Nat.shiftRight_eq_div_pow]; exact Nat.div_eq_of_lt (by omega)
  have z48 : n >>> 48 = 0 := by rw [Nat.shiftRight_eq_div_pow]; exact Nat.div_eq_of_lt (by omega)
  rw [z56] at r56
  rw [z48] at r48
  rw [Nat.shiftRight_zero] at c0 r0
  have q : ∀ m : Nat, (if 0 < (((m % 256 : Nat)) : Int) then (1 : Int) else 0) = (if (((m % 256 : Nat)) : Int) = 0 then 0 else 1) := by
    intro m
    by_cases e : m % 256 = 0
    · rw [e]
      rfl
    · rw [if_pos (by omega), if_neg (by omega)]
  have eR : cR (n : Int) 8 = 0 + (if 0 < bR (n : Int) 56 then 1 else 0) + (if 0 < bR (n : Int) 48 then 1 else 0) + (if 0 < bR (n : Int) 40 then 1 else 0) + (if 0 < bR (n : Int) 32 then 1 else 0) + (if 0 < bR (n : Int) 24 then 1 else 0) + (if 0 < bR (n : Int) 16 then 1 else 0) + (if 0 < bR (n : Int) 8 then 1 else 0) + (if 0 < bR (n : Int) 0 then 1 else 0) := rfl
  have eC : cC (n : Int) 6 = 0 + (if bC (n : Int) 40 = 0 then 0 else 1) + (if bC (n : Int) 32 = 0 then 0 else 1) + (if bC (n : Int) 24 = 0 then 0 else 1) + (if bC (n : Int) 16 = 0 then 0 else 1) + (if bC (n : Int) 8 = 0 then 0 else 1) + (if bC (n : Int) 0 = 0 then 0 else 1) := rfl
  rw [r56, r48, r40, r32, r24, r16, r8, r0] at eR
  rw [c40, c32, c24, c16, c8, c0] at eC
  rw [q, q, q, q, q, q, q] at eR
  have e9 : (if (((n % 256 : Nat)) : Int) = 0 then (0 : Int) else 1) = 1 := if_neg (by omega)
  have p : ∀ m : Nat, 0 ≤ (if (((m % 256 : Nat)) : Int) = 0 then (0 : Int) else 1) := by
    intro m
    split <;> decide
  have p1 := p (n >>> 40)
  have p2 := p (n >>> 32)
  have p3 := p (n >>> 24)
  have p4 := p (n >>> 16)
  have p5 := p (n >>> 8)
  have z0 : (if (((0 % 256 : Nat)) : Int) = 0 then (0 : Int) else 1) = 0 := rfl
  rw [z0] at eR
  refine ⟨by rw [eR, eC]; omega, by rw [eR, e9]; omega⟩
/-- one byte more -/
theorem nm_go {n y : Nat} (hn : n < 1099511627776) (hy : y < 256) : z_lor (z_lshl (n : Int) 8) (z_i2l (y : Int)) = ((256 * n + y : Nat) : Int) := by
  have e1 : ((Int64.ofInt (n : Int)) <<< ((Int32.ofInt 8).toInt64 &&& 63)).toBitVec.toNat = n * 256 := by
    show ((Int64.ofInt (n : Int)).toBitVec <<< (((Int32.ofInt 8).toInt64 &&& 63).toBitVec.smod 64#64)).toNat = n * 256
    rw [BitVec.shiftLeft_eq', show (((Int32.ofInt 8).toInt64 &&& 63).toBitVec.smod 64#64).toNat = 8 from rfl, BitVec.toNat_shiftLeft, i64_nat (by omega), Nat.shiftLeft_eq]
    omega
  have e2 : z_lshl (n : Int) 8 = ((n * 256 : Nat) : Int) := by
    unfold z_lshl
    rw [i64_int (by rw [e1]; omega), e1]
  have e3 : z_i2l (y : Int) = (y : Int) := by
    unfold z_i2l
    have q : ((Int32.ofInt (y : Int)).toInt64).toInt = (Int32.ofInt (y : Int)).toInt := Int32.toInt_toInt64 _
    rw [q, i32_int (by rw [i32_nat (by omega)]; omega), i32_nat (by omega)]
  rw [e2, e3]
  have e4 : ((Int64.ofInt ((n * 256 : Nat) : Int)) ||| (Int64.ofInt (y : Int))).toBitVec.toNat = 256 * n + y := by
    show ((Int64.ofInt ((n * 256 : Nat) : Int)).toBitVec ||| (Int64.ofInt (y : Int)).toBitVec).toNat = 256 * n + y
    rw [BitVec.toNat_or, i64_nat (by omega), i64_nat (by omega), Nat.mul_comm n 256]
    have q := Nat.two_pow_add_eq_or_of_lt (i := 8) (b := y) (by omega) n
    rw [show (2 : Nat) ^ 8 = 256 from rfl] at q
    exact q.symm
  unfold z_lor
  rw [i64_int (by rw [e4]; omega), e4]
theorem nmz_n {b : Nat → Int} {s : Nat} : ∀ {k : Nat}, k ≤ 6 → (∀ j, j < k → 1 ≤ b (s + j) ∧ b (s + j) < 256) → ∃ n : Nat, nmz b s k = (n : Int) ∧ n < 256 ^ k ∧ (1 ≤ k → n % 256 ≠ 0)
  | 0, _, _ => ⟨0, rfl, by decide, fun q => absurd q (by decide)⟩
  | k + 1, hk, h => by
    obtain ⟨n, h1, h2, -⟩ := nmz_n (b := b) (s := s) (k := k) (by omega) (fun j hj => h j (by omega))
    obtain ⟨y, hy⟩ : ∃ y : Nat, b (s + k) = (y : Int) := ⟨(b (s + k)).toNat, by have := h k (by omega); omega⟩
    have hy2 := h k (by omega)
    rw [hy] at hy2
    have hn : n < 1099511627776 := Nat.lt_of_lt_of_le h2 (by
      have q := Nat.pow_le_pow_right (n := 256) (by decide) (show k ≤ 5 by omega)
      exact Nat.le_trans q (by decide))
    refine ⟨256 * n + y, ?_, ?_, fun _ => by omega⟩
    · show z_lor (z_lshl (nmz b s k) 8) (z_i2l (b (s + k))) = _
      rw [h1, hy, nm_go hn (by omega)]
    · rw [Nat.pow_succ]
      omega
theorem gn_nmz {b : Nat → Int} {s k : Nat} (hk : 1 ≤ k ∧ k ≤ 6) (h : ∀ j, j < k → cW (b (s + j))) : gn (nmz b s k) := by
  obtain ⟨n, h1, h2, h3⟩ := nmz_n (b := b) (s := s) (k := k) hk.2 (fun j hj => by have q := h j hj; unfold cW cL at q; omega)
  rw [h1]
  refine gn_of (Nat.lt_of_lt_of_le h2 ?_) (h3 hk.1)
  have q := Nat.pow_le_pow_right (n := 256) (by decide) hk.2
  exact Nat.le_trans q (by decide)
theorem wnd_W {b : Nat → Int} : ∀ (f i j : Nat), i ≤ j → j < wnd b f i → cW (b j)
  | 0, i, j, h1, h2 => absurd (show j < i from h2) (by omega)
  | f + 1, i, j, h1, h2 => by
    unfold wnd at h2
    split at h2
    · rename_i hw
      by_cases e : j = i
      · rw [e]
        exact hw
      · exact wnd_W f (i + 1) j (by omega) h2
    · omega
/-- a name's token -/
theorem gn_tn {Y : yx} {i : Nat} (h : tk Y i = 2 ∨ tk Y i = 3) : gn (tn Y i) := by
  unfold tk tKd at h
  have hs : ¬ Y.2 ≤ tS Y.1 Y.2 i := by
    intro q
    rw [if_pos q] at h
    omega
  rw [if_neg hs] at h
  have hl : cL (Y.1 (tS Y.1 Y.2 i)) := by
    by_cases q : cL (Y.1 (tS Y.1 Y.2 i))
    · exact q
    · rw [if_neg q] at h
      split at h
      · rename_i q2
        unfold cS at q2
        omega
      · omega
  rw [if_pos hl] at h
  have h6 : ¬ 6 < wnd Y.1 (Y.2 - tS Y.1 Y.2 i) (tS Y.1 Y.2 i) - tS Y.1 Y.2 i := by
    intro q
    rw [if_pos q] at h
    omega
  have e : tEd Y.1 Y.2 (tS Y.1 Y.2 i) = wnd Y.1 (Y.2 - tS Y.1 Y.2 i) (tS Y.1 Y.2 i) := by
    unfold tEd
    rw [if_neg hs, if_pos hl]
  have h1 := tEd_lt (b := Y.1) (n := Y.2) (s := tS Y.1 Y.2 i) (by omega)
  show gn (nmz Y.1 (tS Y.1 Y.2 i) (tEd Y.1 Y.2 (tS Y.1 Y.2 i) - tS Y.1 Y.2 i))
  rw [e] at h1 ⊢
  exact gn_nmz ⟨by omega, by omega⟩ (fun j hj => wnd_W (Y.2 - tS Y.1 Y.2 i) (tS Y.1 Y.2 i) _ (by omega) (by omega))
/-- the names told are such -/
def NI (X : rx) : Prop := (0 ≤ X 0 4 ∧ 0 ≤ X 0 5) ∧ (∀ k : Nat, (k : Int) < X 0 4 → gn (X 2 k)) ∧ ∀ k : Nat, (k : Int) < X 0 5 → gn (X 6 k)
theorem NI_u {X X1 : rx} (h : NI X) (e4 : X1 0 4 = X 0 4) (e5 : X1 0 5 = X 0 5) (e2 : X1 2 = X 2) (e6 : X1 6 = X 6) : NI X1 := by
  unfold NI
  rw [e4, e5, e2, e6]
  exact h
theorem NI_x {X : rx} {c j : Nat} {z : Int} (h : NI X) (hc : (c ≠ 0 ∧ c ≠ 2 ∧ c ≠ 6) ∨ (c = 0 ∧ j ≠ 4 ∧ j ≠ 5)) : NI (xu X c j z) := NI_u h (xu_0 _ _ (fun q => by omega)) (xu_0 _ _ (fun q => by omega)) (xu_ne _ _ _ (by omega)) (xu_ne _ _ _ (by omega))
theorem NI_sd {X : rx} {s : Nat} (h : NI X) : NI (xsd X s) := h
theorem NI_adv {X : rx} (h : NI X) : NI (adv X) := NI_x h (by omega)
theorem NI_put {X : rx} {s : Int} (h : NI X) : NI (xput X s) := NI_adv (NI_x (NI_x h (by omega)) (by omega))
theorem NI_var {X : rx} {x ty : Int} (h : NI X) : NI (xvar X x ty) := NI_x (NI_x (NI_x h (by omega)) (by omega)) (by omega)
theorem NI_typ {X : rx} {x : Int} (h : NI X) : NI (xtyp X x) := NI_adv (NI_x (NI_x h (by omega)) (by omega))
theorem NI_car {X : rx} {c ty : Int} (h : NI X) : NI (xcar X c ty) := NI_adv (NI_x (NI_x h (by omega)) (by omega))
theorem NI_far {X : rx} {f : Int} (h : NI X) : NI (xfar X f) := NI_adv (NI_x (NI_x h (by omega)) (by omega))
theorem NI_st {X : rx} {a : Int} (h : NI X) : NI (xst X a) := NI_x (NI_x (NI_x h (by omega)) (by omega)) (by omega)
theorem NI_con {X : rx} {x ty : Int} (h : NI X) (hx : gn x) : NI (xcon X x ty) := by
  obtain ⟨x1, x2, x3, x4, x5⟩ := xcon_s X x ty
  have e5 : xcon X x ty 0 5 = X 0 5 := xcon_0 X x ty (by decide) (by decide)
  have e6 : xcon X x ty 6 = X 6 := xcon_r X x ty (by decide) (by decide) (by decide) (by decide)
  obtain ⟨h1, h2, h3⟩ := h
  refine ⟨by omega, fun k hk => ?_, fun k hk => by rw [e6]; exact h3 k (by omega)⟩
  rw [x3]
  by_cases e : k = (X 0 4).toNat
  · rw [e, up_eq]
    exact hx
  · rw [up_ne _ _ e]
    exact h2 k (by omega)
theorem NI_fun {X : rx} {x : Int} (h : NI X) (hx : gn x) : NI (xfun X x) := by
  obtain ⟨x1, x2, x3, x4, x5⟩ := xfun_s X x
  have e5 : xfun X x 0 4 = X 0 4 := xfun_0 X x (by decide) (by decide)
  have e6 : xfun X x 2 = X 2 := xfun_r X x (by decide) (by decide) (by decide) (by decide)
  obtain ⟨h1, h2, h3⟩ := h
  refine ⟨by omega, fun k hk => by rw [e6]; exact h2 k (by omega), fun k hk => ?_⟩
  rw [x3]
  by_cases e : k = (X 0 5).toNat
  · rw [e, up_eq]
    exact hx
  · rw [up_ne _ _ e]
    exact h3 k (by omega)
theorem N_step {Y : yx} {q : cf} (h : NI q.2) : NI (step Y q).2 := by
  obtain ⟨K, X⟩ := q
  have h : NI X := h
  cases K with
  | nil => exact h
  | cons p K =>
    obtain ⟨t, a, b, c⟩ := p
    match t with
    | 0 => exact h
    | 1 =>
      show NI (if tk Y (xi X) = a then (K, adv X) else miss Y X).2
      unfold miss
      split
      · exact NI_adv h
      · exact h
    | 2 =>
      show NI (stTerm Y a b c K X).2
      unfold stTerm stApp stVar miss
      repeat' split
      all_goals first
        | exact h
        | exact NI_put h
        | exact NI_put (NI_var h)
        | exact NI_adv h
    | 3 =>
      show NI (if b < ar X a then ((2, aty9 X a b, c, 1) :: (3, a, b + 1, c) :: K, X) else (K, X)).2
      split <;> exact h
    | 4 =>
      show NI (stPat Y a b K X).2
      unfold stPat stPcon miss
      repeat' split
      all_goals first
        | exact h
        | exact NI_adv h
        | exact NI_put h
        | exact NI_put (NI_var h)
        | exact NI_put (NI_adv h)
    | 5 =>
      show NI (if b < ar X a then ((4, aty9 X a b, c, 0) :: (5, a, b + 1, c) :: K, X) else (K, X)).2
      split <;> exact h
    | 6 =>
      show NI (stDec Y a K X).2
      unfold stDec miss
      repeat' split
      all_goals first
        | exact h
        | exact NI_adv h
        | exact NI_x h (by omega)
        | exact NI_typ (NI_adv h)
        | exact NI_fun (NI_adv h) (gn_tn (Or.inl (by omega)))
        | exact NI_put (NI_st (NI_adv h))
        | exact NI_adv (NI_st (NI_x (NI_adv h) (by omega)))
    | 7 =>
      show NI (if tk Y (xi X) ≠ 3 then miss Y X else if 0 ≤ cfd Y X then fl Y X 3 else if 16 ≤ X 0 4 then fl Y X 5 else ((8, X 0 4, 0, 0) :: K, xcon X (tn Y (xi X)) a)).2
      unfold miss
      repeat' split
      all_goals first
        | exact h
        | exact NI_con h (gn_tn (Or.inr (by omega)))
    | 8 =>
      show NI (if tk Y (xi X) = 3 then (if tfd Y X < 0 then fl Y X 3 else if b = 3 then fl Y X 5 else ((8, a, b + 1, 0) :: K, xcar X a (tfd Y X))) else (K, X)).2
      repeat' split
      all_goals first
        | exact h
        | exact NI_car h
    | 9 =>
      show NI (if tk Y (xi X) = 124 then ((7, a, 0, 0) :: (9, a, 0, 0) :: K, adv X) else (K, X)).2
      split
      · exact NI_adv h
      · exact h
    | 10 =>
      show NI (if tk Y (xi X) ≠ 3 then miss Y X else if tfd Y X < 0 then fl Y X 3 else (K, adv (xu X 7 a.toNat (tfd Y X)))).2
      unfold miss
      repeat' split
      all_goals first
        | exact h
        | exact NI_adv (NI_x h (by omega))
    | 11 =>
      show NI (if tk Y (xi X) = 62 then (if b = 4 then fl Y X 5 else ((10, a, 0, 0) :: (11, a, b + 1, 0) :: K, xfar X a)) else (K, X)).2
      repeat' split
      all_goals first
        | exact h
        | exact NI_far h
    | 12 => exact NI_x (NI_sd h) (by omega)
    | 13 => exact NI_x (NI_sd h) (by omega)
    | 14 => exact NI_x (NI_sd h) (by omega)
    | n + 15 => exact NI_x (NI_sd h) (by omega)
theorem N_rch {Y : yx} {q q' : cf} (h : NI q.2) (r : rch Y q q') : NI q'.2 := by
  obtain ⟨m, rfl⟩ := r
  induction m generalizing q with
  | zero => exact h
  | succ m ih => exact ih (N_step h)
