/-! the reference: what may change, terms -/
/-- all that may change: these fields of the reference's object, these arrays -/
def fr (ob ar : List Nat) (H H' : hp) : Prop := H'.2 = H.2 ∧ (∀ c, c ≠ 1826 → c ∉ ar → H'.1 c = H.1 c) ∧ ∀ j, j ∉ ob → H'.1 1826 j = H.1 1826 j
theorem fr_rf (ob ar : List Nat) (H : hp) : fr ob ar H H := ⟨rfl, fun _ _ _ => rfl, fun _ _ => rfl⟩
theorem fr_o {ob ar : List Nat} {H H1 : hp} {k : Nat} {z : Int} (h : fr ob ar H H1) (hk : k ∈ ob) : fr ob ar H (zu H1 1826 (up (H1.1 1826) k z)) := by
  refine ⟨h.1, fun c hc hr => ?_, fun j hj => ?_⟩
  · rw [zu_ne _ _ hc]
    exact h.2.1 c hc hr
  · rw [zu_eq, up_ne _ _ (fun e => hj (by rw [e]; exact hk))]
    exact h.2.2 j hj
theorem fr_a {ob ar : List Nat} {H H1 : hp} {c : Nat} {f : Nat → Int} (h : fr ob ar H H1) (hk : c ∈ ar ∧ c ≠ 1826) : fr ob ar H (zu H1 c f) := by
  refine ⟨h.1, fun k hc hr => ?_, fun j hj => ?_⟩
  · rw [zu_ne _ _ (fun e => hr (by rw [e]; exact hk.1))]
    exact h.2.1 k hc hr
  · rw [zu_ne _ _ (fun e => hk.2 e.symm)]
    exact h.2.2 j hj
theorem fr_t {ob ar ob2 ar2 : List Nat} {H H1 H2 : hp} (h : fr ob ar H H1) (h2 : fr ob2 ar2 H1 H2) (s1 : ob2.all (fun x => ob.contains x) = true) (s2 : ar2.all (fun x => ar.contains x) = true) : fr ob ar H H2 := by
  have t1 : ∀ x, x ∈ ob2 → x ∈ ob := fun x hx => List.contains_iff_mem.mp (List.all_eq_true.mp s1 x hx)
  have t2 : ∀ x, x ∈ ar2 → x ∈ ar := fun x hx => List.contains_iff_mem.mp (List.all_eq_true.mp s2 x hx)
  exact ⟨h2.1.trans h.1, fun c hc hr => (h2.2.1 c hc (fun q => hr (t2 c q))).trans (h.2.1 c hc hr), fun j hj => (h2.2.2 j (fun q => hj (t1 j q))).trans (h.2.2 j hj)⟩
/-- how many arguments a sign has -/
def ma (fA cA : Nat → Int) (s : Int) : Int := if 1000 ≤ s ∨ s = 0 then 0 else if 100 ≤ s then fA (s - 100).toNat else cA (s - 1).toNat
theorem ma_0 {fA cA : Nat → Int} {s : Int} (h : 1000 ≤ s ∨ s = 0) : ma fA cA s = 0 := if_pos h
theorem ma_f {fA cA : Nat → Int} {s : Int} (h : 100 ≤ s ∧ s < 1000) : ma fA cA s = fA (s - 100).toNat := by
  unfold ma
  rw [if_neg (by omega), if_pos h.1]
theorem ma_c {fA cA : Nat → Int} {s : Int} (h : 1 ≤ s ∧ s < 100) : ma fA cA s = cA (s - 1).toNat := by
  unfold ma
  rw [if_neg (by omega), if_neg (by omega)]
/-- signs that the arrays have room for -/
def sg0 (s : Int) : Prop := s = 0 ∨ (1 ≤ s ∧ s ≤ 16) ∨ (100 ≤ s ∧ s ≤ 115) ∨ (1000 ≤ s ∧ s ≤ 3000)
/-- k signs from i on are n terms -/
def tm (ar : Int → Int) (ok : Int → Prop) (a : Nat → Int) : Nat → Nat → Nat → Prop
  | 0, _, n => n = 0
  | k + 1, i, n => n ≠ 0 ∧ ok (a i) ∧ ∃ m : Nat, ar (a i) = m ∧ m ≤ 4 ∧ tm ar ok a k (i + 1) (n - 1 + m)
theorem tm_le {ar : Int → Int} {ok : Int → Prop} {a : Nat → Int} : ∀ {k i n : Nat}, tm ar ok a k i n → n ≤ k
  | 0, _, n, h => by
    have h : n = 0 := h
    omega
  | k + 1, i, n, h => by
    obtain ⟨h0, -, m, -, -, h2⟩ := h
    have := tm_le h2
    omega
theorem tm_z {ar : Int → Int} {ok : Int → Prop} {a : Nat → Int} : ∀ {k i : Nat}, tm ar ok a k i 0 → k = 0
  | 0, _, _ => rfl
  | _ + 1, _, h => absurd rfl h.1
theorem tm_mono {ar ar' : Int → Int} {ok ok' : Int → Prop} {a b : Nat → Int} : ∀ {k i n : Nat}, tm ar ok a k i n → (∀ j, i ≤ j → j < i + k → ok (a j) → b j = a j ∧ ok' (a j) ∧ ar' (a j) = ar (a j)) → tm ar' ok' b k i n
  | 0, _, _, h, _ => h
  | k + 1, i, n, h, g => by
    obtain ⟨h0, h1, m, h2, h3, h4⟩ := h
    obtain ⟨e1, e2, e3⟩ := g i (Nat.le_refl _) (by omega) h1
    refine ⟨h0, by rw [e1]; exact e2, m, by rw [e1, e3]; exact h2, h3, tm_mono h4 (fun j hj hj2 => g j (by omega) (by omega))⟩
/-- the same signs at another place -/
theorem tm_at {ar : Int → Int} {ok : Int → Prop} {a b : Nat → Int} : ∀ {k i j n : Nat}, tm ar ok a k i n → (∀ x, x < k → b (j + x) = a (i + x)) → tm ar ok b k j n
  | 0, _, _, _, h, _ => h
  | k + 1, i, j, n, h, g => by
    obtain ⟨h0, h1, m, h2, h3, h4⟩ := h
    have e1 : b j = a i := g 0 (by omega)
    refine ⟨h0, by rw [e1]; exact h1, m, by rw [e1]; exact h2, h3, tm_at h4 (fun x hx => ?_)⟩
    have := g (x + 1) (by omega)
    rw [show j + 1 + x = j + (x + 1) by omega, show i + 1 + x = i + (x + 1) by omega]
    exact this
/-- one behind the other -/
theorem tm_app {ar : Int → Int} {ok : Int → Prop} {a : Nat → Int} : ∀ {k i n k2 n2 : Nat}, tm ar ok a k i n → tm ar ok a k2 (i + k) n2 → tm ar ok a (k + k2) i (n + n2)
  | 0, i, n, k2, n2, h, h2 => by
    have h : n = 0 := h
    subst h
    rw [Nat.zero_add, Nat.zero_add]
    exact h2
  | k + 1, i, n, k2, n2, h, h2 => by
    obtain ⟨h0, h1, m, h3, h4, h5⟩ := h
    rw [show k + 1 + k2 = (k + k2) + 1 by omega]
    refine ⟨by omega, h1, m, h3, h4, ?_⟩
    rw [show n + n2 - 1 + m = (n - 1 + m) + n2 by omega]
    exact tm_app h5 (by rw [show i + 1 + k = i + (k + 1) by omega]; exact h2)
/-- the first n of n + n2 terms -/
theorem tm_split {ar : Int → Int} {ok : Int → Prop} {a : Nat → Int} : ∀ {k i n n2 : Nat}, tm ar ok a k i (n + n2) → ∃ k1 k2 : Nat, k = k1 + k2 ∧ tm ar ok a k1 i n ∧ tm ar ok a k2 (i + k1) n2
  | 0, i, n, n2, h => by
    have h : n + n2 = 0 := h
    exact ⟨0, 0, rfl, (by show n = 0; omega), (by show n2 = 0; omega)⟩
  | k + 1, i, n, n2, h => by
    by_cases hn : n = 0
    · subst hn
      refine ⟨0, k + 1, by omega, rfl, ?_⟩
      rw [Nat.zero_add] at h
      exact h
    · obtain ⟨h0, h1, m, h3, h4, h5⟩ := h
      rw [show n + n2 - 1 + m = (n - 1 + m) + n2 by omega] at h5
      obtain ⟨k1, k2, e, g1, g2⟩ := tm_split h5
      refine ⟨k1 + 1, k2, by omega, ⟨hn, h1, m, h3, h4, g1⟩, ?_⟩
      rw [show i + (k1 + 1) = i + 1 + k1 by omega]
      exact g2
theorem z_long (x : Int64) : -9223372036854775808 ≤ x.toInt ∧ x.toInt ≤ 9223372036854775807 := by
  have h1 := Int64.le_toInt x
  have h2 := Int64.toInt_lt x
  constructor
  · exact h1
  · exact Int.le_of_lt_add_one h2
theorem z_int (x : Int32) : -2147483648 ≤ x.toInt ∧ x.toInt ≤ 2147483647 := by
  have h1 := Int32.le_toInt x
  have h2 := Int32.toInt_lt x
  constructor
  · exact h1
  · exact Int.le_of_lt_add_one h2
theorem z_and_le (x : Int) (m : Nat) (hm : m < 2147483648) : 0 ≤ z_and x m ∧ z_and x m ≤ m := by
  have h1 : (Int32.ofInt x &&& Int32.ofInt (m : Int)).toBitVec.toNat ≤ m := by
    rw [Int32.toBitVec_and, BitVec.toNat_and]
    refine Nat.le_trans Nat.and_le_right ?_
    rw [Int32.ofInt_eq_ofNat]
    show (BitVec.ofNat 32 m).toNat ≤ m
    rw [BitVec.toNat_ofNat]
    exact Nat.mod_le _ _
  have h2 : z_and x m = ((Int32.ofInt x &&& Int32.ofInt (m : Int)).toBitVec.toNat : Int) := by
    unfold z_and
    exact BitVec.toInt_eq_toNat_of_lt (by omega)
  rw [h2]
  omega
theorem z_and_255 (x : Int) : 0 ≤ z_and x 255 ∧ z_and x 255 ≤ 255 := z_and_le x 255 (by decide)
theorem z_t64 {x : Int} (h : -9223372036854775808 ≤ x ∧ x ≤ 9223372036854775807) : (Int64.ofInt x).toInt = x := Int64.toInt_ofInt_of_le (by omega) (by omega)
theorem z_cmp_0 {x y : Int} (hx : -9223372036854775808 ≤ x ∧ x ≤ 9223372036854775807) (hy : -9223372036854775808 ≤ y ∧ y ≤ 9223372036854775807) : z_cmp x y = 0 ↔ x = y := by
  have e : Int64.ofInt x = Int64.ofInt y ↔ x = y := by
    constructor
    · intro h
      have := congrArg Int64.toInt h
      rw [z_t64 hx, z_t64 hy] at this
      exact this
    · intro h
      rw [h]
  rw [← e]
  unfold z_cmp lg_cmp
  split
  · rename_i h
    constructor
    · intro q
      exact absurd q (by decide)
    · intro q
      rw [q] at h
      exact absurd h Int64.lt_irrefl
  · split
    · rename_i h2
      exact ⟨fun _ => h2, fun _ => rfl⟩
    · rename_i h2
      exact ⟨fun q => absurd q (by decide), fun q => absurd q h2⟩
theorem z_less {f : Nat → Int} {x : Int} {i : Nat} (h : ∀ k : Nat, k < i → f k ≠ x) (h2 : f i ≠ x) : ∀ k : Nat, k < i + 1 → f k ≠ x := by
  intro k hk
  by_cases e : k = i
  · rw [e]
    exact h2
  · exact h k (by omega)
