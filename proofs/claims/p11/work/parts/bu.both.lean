/-! class and reference, call by call -/
theorem am_find_lt {α : Type} {c m : Nat} {x : α} : ∀ {l : List (Nat × α)}, l.all (fun q => Nat.blt q.1 m) = true → am_find c l = some x → c < m
  | [], _, h => by cases h
  | q :: l, ha, h => by
    rw [List.all_cons, Bool.and_eq_true] at ha
    rw [am_find_cons] at h
    by_cases e : q.1 = c
    · have := Nat.le_of_ble_eq_true ha.1
      omega
    · rw [if_neg e] at h
      exact am_find_lt ha.2 h
theorem kK_lt {c : Nat} {x : kx} (h : kK c = some x) : c < 1826 := by
  unfold kK at h
  split at h
  · rename_i y e
    exact am_find_lt (m := 1826) (l := kFX) rfl e
  · split at h
    · rename_i y e
      exact am_find_lt (m := 1826) (l := kOT) rfl e
    · split at h
      · rename_i y e
        have := am_find_lt (m := 1825) (l := kOT) rfl e
        omega
      · by_cases e : c < 1824
        · omega
        · rw [if_neg (by omega), if_neg (by omega), if_neg (by omega), if_neg (by omega), if_neg (by omega), if_neg (by omega), if_neg (by omega), if_neg e] at h
          cases h
theorem Inv_cl {H K : hp} (h : Inv H) (g : cl H K) : Inv K := by
  intro c x hx
  have h1 := h c x hx
  rw [g.1, g.2 c (kK_lt hx)]
  exact h1
def rst (H : hp) : hp := (fun c => bif Nat.ble 1826 c then H.1 c else fun _ => 0, fun _ _ => 0)
theorem GI_rst (H : hp) : GI (rst H) = GI H := rfl
theorem GI_up {H K : hp} (h : GI H) (g : ∀ c, 1826 ≤ c → K.1 c = H.1 c) : GI K := by
  have e : rst K = rst H := by
    unfold rst
    refine Prod.ext (funext fun c => ?_) rfl
    show (bif Nat.ble 1826 c then K.1 c else fun _ => 0) = (bif Nat.ble 1826 c then H.1 c else fun _ => 0)
    cases e : Nat.ble 1826 c
    · rfl
    · show K.1 c = H.1 c
      exact g c (Nat.le_of_ble_eq_true e)
  rw [← GI_rst K, e, GI_rst H]
  exact h
theorem fq_up {ob : List (Nat × Nat)} {ar : List Nat} {gl : Bool} {H K : hp} (f : fq ob ar gl H K) (h1 : ob.all (fun q => Nat.blt q.1 1826) = true) (h2 : ar.all (fun q => Nat.blt q 1826) = true) : ∀ c, 1826 ≤ c → K.1 c = H.1 c := by
  intro c hc
  funext j
  refine (f.1 c j ?_ ?_ ?_).1
  · unfold fx
    rw [Nat.ble_eq_true_of_le hc]
    rfl
  · intro hm
    have h3 := List.all_eq_true.mp h2 c hm
    have := Nat.le_of_ble_eq_true h3
    omega
  · intro hm
    have h3 := List.all_eq_true.mp h1 (c, j) hm
    have := Nat.le_of_ble_eq_true h3
    omega
def BJ (s t : Int) (r9 : Option zv) (K : hp) : Prop := (∃ r0 : Int, r9 = some (.inl r0)) ∧ Inv K ∧ GI K ∧ K.1 2 1 = s ∧ K.1 1826 28 = t
theorem GQ_BJ {H K : hp} {t : Int} {r9 : Option zv} (hI : Inv H) (h : GQ H t r9 K) : BJ (H.1 2 1) t r9 K := ⟨h.1, Inv_cl hI h.2.2.1, h.2.1, by rw [h.2.2.1.2 2 (by decide)], h.2.2.2⟩
theorem fq_BJ {ob : List (Nat × Nat)} {ar : List Nat} {gl : Bool} {H K : hp} {s z : Int} {r9 : Option zv} (hG9 : GI H) (hr : r9 = some (.inl z)) (hI : Inv K) (f : fq ob ar gl H K) (hs : K.1 2 1 = s) (h1 : ob.all (fun q => Nat.blt q.1 1826) = true) (h2 : ar.all (fun q => Nat.blt q 1826) = true) : BJ s (H.1 1826 28) r9 K := ⟨⟨z, hr⟩, hI, GI_up hG9 (fq_up f h1 h2), hs, by rw [fq_up f h1 h2 1826 (by decide)]⟩

theorem c_read {d : Nat} (hd : 50 ≤ d) {H : hp} (hI : Inv H) (hG9 : GI H)   : hG (zs zK) d mt_3 0 (zargs 0 [.inr (.inr 1)]) [] H (BJ 0 (H.1 1826 28)) := by
  refine h_mono (k_read (by omega) hI ) (fun r K h => ?_)
  obtain ⟨z, h1, ⟨-, h2⟩, h3, f⟩ := h
  exact fq_BJ hG9 h1 h3 f h2 rfl rfl
theorem c_work {d : Nat} (hd : 50 ≤ d) {H : hp} (hI : Inv H) (hG9 : GI H) {a : Int} (ha : -2147483648 ≤ a ∧ a ≤ 2147483647) : hG (zs zK) d mt_7 0 (zargs 0 [.inr (.inr 1), .inl a]) [] H (BJ 0 (H.1 1826 28)) := by
  refine h_mono (k_work (by omega) hI ha) (fun r K h => ?_)
  obtain ⟨z, h1, ⟨-, h2⟩, h3, f⟩ := h
  exact fq_BJ hG9 h1 h3 f h2 rfl rfl
theorem c_fault {d : Nat} (hd : 50 ≤ d) {H : hp} (hI : Inv H) (hG9 : GI H)   : hG (zs zK) d mt_4 0 (zargs 0 [.inr (.inr 1)]) [] H (BJ (H.1 2 1) (H.1 1826 28)) := by
  refine h_mono (k_fault (by omega) hI ) (fun r K h => ?_)
  obtain ⟨z, h1, -, rfl⟩ := h
  exact ⟨⟨z, h1⟩, hI, hG9, rfl, rfl⟩
theorem c_count {d : Nat} (hd : 50 ≤ d) {H : hp} (hI : Inv H) (hG9 : GI H) {a : Int} (ha : -2147483648 ≤ a ∧ a ≤ 2147483647) : hG (zs zK) d mt_5 0 (zargs 0 [.inr (.inr 1), .inl a]) [] H (BJ (H.1 2 1) (H.1 1826 28)) := by
  refine h_mono (k_count (by omega) hI ha) (fun r K h => ?_)
  obtain ⟨z, h1, -, rfl⟩ := h
  exact ⟨⟨z, h1⟩, hI, hG9, rfl, rfl⟩
theorem c_about {d : Nat} (hd : 50 ≤ d) {H : hp} (hI : Inv H) (hG9 : GI H) {a : Int} {b : Int} (ha : -2147483648 ≤ a ∧ a ≤ 2147483647) (hb : -2147483648 ≤ b ∧ b ≤ 2147483647) : hG (zs zK) d mt_6 0 (zargs 0 [.inr (.inr 1), .inl a, .inl b]) [] H (BJ (H.1 2 1) (H.1 1826 28)) := by
  refine h_mono (k_about (by omega) hI ha hb) (fun r K h => ?_)
  obtain ⟨z, h1, -, rfl⟩ := h
  exact ⟨⟨z, h1⟩, hI, hG9, rfl, rfl⟩
theorem c_steps {d : Nat} (hd : 50 ≤ d) {H : hp} (hI : Inv H) (hG9 : GI H)   : hG (zs zK) d mt_8 0 (zargs 0 [.inr (.inr 1)]) [] H (BJ (H.1 2 1) (H.1 1826 28)) := by
  refine h_mono (k_steps (by omega) hI ) (fun r K h => ?_)
  obtain ⟨z, h1, -, rfl⟩ := h
  exact ⟨⟨z, h1⟩, hI, hG9, rfl, rfl⟩
theorem c_test {d : Nat} (hd : 50 ≤ d) {H : hp} (hI : Inv H) (hG9 : GI H) {a : Int} {b : Int} {c : Int} (ha : -2147483648 ≤ a ∧ a ≤ 2147483647) (hb : -2147483648 ≤ b ∧ b ≤ 2147483647) (hc : 0 ≤ c ∧ c ≤ 1) : hG (zs zK) d mt_9 0 (zargs 0 [.inr (.inr 1), .inl a, .inl b, .inl c]) [] H (BJ (H.1 2 1) (H.1 1826 28)) := by
  refine h_mono (k_test (by omega) hI ha hb hc) (fun r K h => ?_)
  obtain ⟨z, h1, -, h3, f⟩ := h
  exact fq_BJ hG9 h1 h3 f (f.1 2 1 rfl (by decide) (by decide)).1 rfl rfl
theorem c_told {d : Nat} (hd : 50 ≤ d) {H : hp} (hI : Inv H) (hG9 : GI H) {a : Int} (ha : -2147483648 ≤ a ∧ a ≤ 2147483647) : hG (zs zK) d mt_10 0 (zargs 0 [.inr (.inr 1), .inl a]) [] H (BJ (H.1 2 1) (H.1 1826 28)) := by
  refine h_mono (k_told (by omega) hI ha) (fun r K h => ?_)
  obtain ⟨z, h1, -, h3, f⟩ := h
  exact fq_BJ hG9 h1 h3 f (f.1 2 1 rfl (by decide) (by decide)).1 rfl rfl
theorem c_begin {d : Nat} (hd : 50 ≤ d) {H : hp} (hI : Inv H) (hG9 : GI H) {a : Int} {b : Int} (ha : -2147483648 ≤ a ∧ a ≤ 2147483647) (hb : 0 ≤ b ∧ b ≤ 1) : hG (zs zK) d mt_11 0 (zargs 0 [.inr (.inr 1), .inl a, .inl b]) [] H (BJ (H.1 2 1) (H.1 1826 28)) := by
  refine h_mono (k_begin (by omega) hI ha hb) (fun r K h => ?_)
  obtain ⟨z, h1, -, h3, f⟩ := h
  exact fq_BJ hG9 h1 h3 f (f.1 2 1 rfl (by decide) (by decide)).1 rfl rfl
theorem c_unfold {d : Nat} (hd : 50 ≤ d) {H : hp} (hI : Inv H) (hG9 : GI H) {a : Int} {b : Int} (ha : -2147483648 ≤ a ∧ a ≤ 2147483647) (hb : -2147483648 ≤ b ∧ b ≤ 2147483647) : hG (zs zK) d mt_12 0 (zargs 0 [.inr (.inr 1), .inl a, .inl b]) [] H (BJ (H.1 2 1) (H.1 1826 28)) := by
  refine h_mono (k_unfold (by omega) hI ha hb) (fun r K h => ?_)
  obtain ⟨z, h1, -, h3, f⟩ := h
  exact fq_BJ hG9 h1 h3 f (f.1 2 1 rfl (by decide) (by decide)).1 rfl rfl
theorem c_law {d : Nat} (hd : 50 ≤ d) {H : hp} (hI : Inv H) (hG9 : GI H) {a : Int} {b : Int} {c : Int} {e : Int} (ha : -2147483648 ≤ a ∧ a ≤ 2147483647) (hb : 0 ≤ b ∧ b ≤ 1) (hc : -2147483648 ≤ c ∧ c ≤ 2147483647) (he : -2147483648 ≤ e ∧ e ≤ 2147483647) : hG (zs zK) d mt_13 0 (zargs 0 [.inr (.inr 1), .inl a, .inl b, .inl c, .inl e]) [] H (BJ (H.1 2 1) (H.1 1826 28)) := by
  refine h_mono (k_law (by omega) hI ha hb hc he) (fun r K h => ?_)
  obtain ⟨z, h1, -, h3, f⟩ := h
  exact fq_BJ hG9 h1 h3 f (f.1 2 1 rfl (by decide) (by decide)).1 rfl rfl
theorem c_hypothesis {d : Nat} (hd : 50 ≤ d) {H : hp} (hI : Inv H) (hG9 : GI H) {a : Int} {b : Int} {c : Int} {e : Int} (ha : -2147483648 ≤ a ∧ a ≤ 2147483647) (hb : 0 ≤ b ∧ b ≤ 1) (hc : -2147483648 ≤ c ∧ c ≤ 2147483647) (he : -2147483648 ≤ e ∧ e ≤ 2147483647) : hG (zs zK) d mt_14 0 (zargs 0 [.inr (.inr 1), .inl a, .inl b, .inl c, .inl e]) [] H (BJ (H.1 2 1) (H.1 1826 28)) := by
  refine h_mono (k_hypothesis (by omega) hI ha hb hc he) (fun r K h => ?_)
  obtain ⟨z, h1, -, h3, f⟩ := h
  exact fq_BJ hG9 h1 h3 f (f.1 2 1 rfl (by decide) (by decide)).1 rfl rfl
theorem c_induction {d : Nat} (hd : 50 ≤ d) {H : hp} (hI : Inv H) (hG9 : GI H) {a : Int} (ha : -2147483648 ≤ a ∧ a ≤ 2147483647) : hG (zs zK) d mt_15 0 (zargs 0 [.inr (.inr 1), .inl a]) [] H (BJ (H.1 2 1) (H.1 1826 28)) := by
  refine h_mono (k_induction (by omega) hI ha) (fun r K h => ?_)
  obtain ⟨z, h1, -, h3, f⟩ := h
  exact fq_BJ hG9 h1 h3 f (f.1 2 1 rfl (by decide) (by decide)).1 rfl rfl
theorem c_cases {d : Nat} (hd : 50 ≤ d) {H : hp} (hI : Inv H) (hG9 : GI H) {a : Int} {b : Int} (ha : -2147483648 ≤ a ∧ a ≤ 2147483647) (hb : -2147483648 ≤ b ∧ b ≤ 2147483647) : hG (zs zK) d mt_16 0 (zargs 0 [.inr (.inr 1), .inl a, .inl b]) [] H (BJ (H.1 2 1) (H.1 1826 28)) := by
  refine h_mono (k_cases (by omega) hI ha hb) (fun r K h => ?_)
  obtain ⟨z, h1, -, h3, f⟩ := h
  exact fq_BJ hG9 h1 h3 f (f.1 2 1 rfl (by decide) (by decide)).1 rfl rfl
theorem c_same {d : Nat} (hd : 50 ≤ d) {H : hp} (hI : Inv H) (hG9 : GI H)   : hG (zs zK) d mt_17 0 (zargs 0 [.inr (.inr 1)]) [] H (BJ (H.1 2 1) (H.1 1826 28)) := by
  refine h_mono (k_same (by omega) hI ) (fun r K h => ?_)
  obtain ⟨z, h1, -, h3, f⟩ := h
  exact fq_BJ hG9 h1 h3 f (f.1 2 1 rfl (by decide) (by decide)).1 rfl rfl
theorem c_parts {d : Nat} (hd : 50 ≤ d) {H : hp} (hI : Inv H) (hG9 : GI H)   : hG (zs zK) d mt_18 0 (zargs 0 [.inr (.inr 1)]) [] H (BJ (H.1 2 1) (H.1 1826 28)) := by
  refine h_mono (k_parts (by omega) hI ) (fun r K h => ?_)
  obtain ⟨z, h1, -, h3, f⟩ := h
  exact fq_BJ hG9 h1 h3 f (f.1 2 1 rfl (by decide) (by decide)).1 rfl rfl
theorem c_search {d : Nat} (hd : 50 ≤ d) {H : hp} (hI : Inv H) (hG9 : GI H) {a : Int} (ha : -2147483648 ≤ a ∧ a ≤ 2147483647) : hG (zs zK) d mt_19 0 (zargs 0 [.inr (.inr 1), .inl a]) [] H (BJ (H.1 2 1) (H.1 1826 28)) := by
  refine h_mono (k_search (by omega) hI ha) (fun r K h => ?_)
  obtain ⟨z, h1, -, h3, f⟩ := h
  exact fq_BJ hG9 h1 h3 f (f.1 2 1 rfl (by decide) (by decide)).1 rfl rfl
theorem c_show {d : Nat} (hd : 50 ≤ d) {H : hp} (hI : Inv H) (hG9 : GI H) {a : Int} {b : Int} (ha : -2147483648 ≤ a ∧ a ≤ 2147483647) (hb : -2147483648 ≤ b ∧ b ≤ 2147483647) : hG (zs zK) d mt_20 0 (zargs 0 [.inr (.inr 1), .inl a, .inl b]) [] H (BJ (H.1 2 1) (H.1 1826 28)) := by
  refine h_mono (k_show (by omega) hI ha hb) (fun r K h => ?_)
  obtain ⟨z, h1, -, h3, f⟩ := h
  exact fq_BJ hG9 h1 h3 f (f.1 2 1 rfl (by decide) (by decide)).1 rfl rfl
theorem c_showHypothesis {d : Nat} (hd : 50 ≤ d) {H : hp} (hI : Inv H) (hG9 : GI H) {a : Int} {b : Int} (ha : -2147483648 ≤ a ∧ a ≤ 2147483647) (hb : -2147483648 ≤ b ∧ b ≤ 2147483647) : hG (zs zK) d mt_21 0 (zargs 0 [.inr (.inr 1), .inl a, .inl b]) [] H (BJ (H.1 2 1) (H.1 1826 28)) := by
  refine h_mono (k_showHypothesis (by omega) hI ha hb) (fun r K h => ?_)
  obtain ⟨z, h1, -, h3, f⟩ := h
  exact fq_BJ hG9 h1 h3 f (f.1 2 1 rfl (by decide) (by decide)).1 rfl rfl
theorem c_showLaw {d : Nat} (hd : 50 ≤ d) {H : hp} (hI : Inv H) (hG9 : GI H) {a : Int} {b : Int} (ha : -2147483648 ≤ a ∧ a ≤ 2147483647) (hb : -2147483648 ≤ b ∧ b ≤ 2147483647) : hG (zs zK) d mt_22 0 (zargs 0 [.inr (.inr 1), .inl a, .inl b]) [] H (BJ (H.1 2 1) (H.1 1826 28)) := by
  refine h_mono (k_showLaw (by omega) hI ha hb) (fun r K h => ?_)
  obtain ⟨z, h1, -, h3, f⟩ := h
  exact fq_BJ hG9 h1 h3 f (f.1 2 1 rfl (by decide) (by decide)).1 rfl rfl
theorem c_printed {d : Nat} (hd : 50 ≤ d) {H : hp} (hI : Inv H) (hG9 : GI H) {a : Int} (ha : -2147483648 ≤ a ∧ a ≤ 2147483647) : hG (zs zK) d mt_23 0 (zargs 0 [.inr (.inr 1), .inl a]) [] H (BJ (H.1 2 1) (H.1 1826 28)) := by
  refine h_mono (k_printed (by omega) hI ha) (fun r K h => ?_)
  obtain ⟨z, h1, -, rfl⟩ := h
  exact ⟨⟨z, h1⟩, hI, hG9, rfl, rfl⟩
theorem r_read {d : Nat} (hd : 50 ≤ d) {H : hp} (hK : Inv H) (hI : GI H)  : hG (zs zK) d mt_192 0 (zargs 0 [.inr (.inr 1826)]) [] H (BJ (H.1 2 1) 0) := h_mono (g_read (by omega) hI ) (fun _ _ h => GQ_BJ hK h)
theorem r_work {d : Nat} (hd : 50 ≤ d) {H : hp} (hK : Inv H) (hI : GI H) {x : Int} (hx : -2147483648 ≤ x ∧ x ≤ 2147483647) : hG (zs zK) d mt_201 0 (zargs 0 [.inr (.inr 1826), .inl x]) [] H (BJ (H.1 2 1) 0) := h_mono (g_work (by omega) hI hx) (fun _ _ h => GQ_BJ hK h)
theorem r_fault {d : Nat} (hd : 50 ≤ d) {H : hp} (hK : Inv H) (hI : GI H)  : hG (zs zK) d mt_193 0 (zargs 0 [.inr (.inr 1826)]) [] H (BJ (H.1 2 1) (H.1 1826 28)) := h_mono (g_fault (by omega) hI ) (fun _ _ h => GQ_BJ hK h)
theorem r_count {d : Nat} (hd : 50 ≤ d) {H : hp} (hK : Inv H) (hI : GI H) {x : Int} (hx : -2147483648 ≤ x ∧ x ≤ 2147483647) : hG (zs zK) d mt_194 0 (zargs 0 [.inr (.inr 1826), .inl x]) [] H (BJ (H.1 2 1) (H.1 1826 28)) := h_mono (g_count (by omega) hI hx) (fun _ _ h => GQ_BJ hK h)
theorem r_about {d : Nat} (hd : 50 ≤ d) {H : hp} (hK : Inv H) (hI : GI H) {x y : Int} (hx : -2147483648 ≤ x ∧ x ≤ 2147483647) (hy : -2147483648 ≤ y ∧ y ≤ 2147483647) : hG (zs zK) d mt_195 0 (zargs 0 [.inr (.inr 1826), .inl x, .inl y]) [] H (BJ (H.1 2 1) (H.1 1826 28)) := h_mono (g_about (by omega) hI hx hy) (fun _ _ h => GQ_BJ hK h)
theorem r_steps {d : Nat} (hd : 50 ≤ d) {H : hp} (hK : Inv H) (hI : GI H)  : hG (zs zK) d mt_202 0 (zargs 0 [.inr (.inr 1826)]) [] H (BJ (H.1 2 1) (H.1 1826 28)) := h_mono (g_steps (by omega) hI ) (fun _ _ h => GQ_BJ hK h)
theorem r_test {d : Nat} (hd : 50 ≤ d) {H : hp} (hK : Inv H) (hI : GI H) {x y b : Int} (hx : -2147483648 ≤ x ∧ x ≤ 2147483647) (hy : -2147483648 ≤ y ∧ y ≤ 2147483647) (hb : 0 ≤ b ∧ b ≤ 1) : hG (zs zK) d mt_218 0 (zargs 0 [.inr (.inr 1826), .inl x, .inl y, .inl b]) [] H (BJ (H.1 2 1) (H.1 1826 28)) := h_mono (g_test (by omega) hI hx hy hb) (fun _ _ h => GQ_BJ hK h)
theorem r_told {d : Nat} (hd : 50 ≤ d) {H : hp} (hK : Inv H) (hI : GI H) {x : Int} (hx : -2147483648 ≤ x ∧ x ≤ 2147483647) : hG (zs zK) d mt_220 0 (zargs 0 [.inr (.inr 1826), .inl x]) [] H (BJ (H.1 2 1) (H.1 1826 28)) := h_mono (g_told (by omega) hI hx) (fun _ _ h => GQ_BJ hK h)
theorem r_begin {d : Nat} (hd : 50 ≤ d) {H : hp} (hK : Inv H) (hI : GI H) {x b : Int} (hx : -2147483648 ≤ x ∧ x ≤ 2147483647) (hb : 0 ≤ b ∧ b ≤ 1) : hG (zs zK) d mt_227 0 (zargs 0 [.inr (.inr 1826), .inl x, .inl b]) [] H (BJ (H.1 2 1) (H.1 1826 28)) := h_mono (g_begin (by omega) hI hx hb) (fun _ _ h => GQ_BJ hK h)
theorem r_unfold {d : Nat} (hd : 50 ≤ d) {H : hp} (hK : Inv H) (hI : GI H) {s y : Int} (hs : -2147483648 ≤ s ∧ s ≤ 2147483647) (hy : -2147483648 ≤ y ∧ y ≤ 2147483647) : hG (zs zK) d mt_237 0 (zargs 0 [.inr (.inr 1826), .inl s, .inl y]) [] H (BJ (H.1 2 1) (H.1 1826 28)) := h_mono (g_unfold (by omega) hI hs hy) (fun _ _ h => GQ_BJ hK h)
theorem r_law {d : Nat} (hd : 50 ≤ d) {H : hp} (hK : Inv H) (hI : GI H) {x b s y : Int} (hx : -2147483648 ≤ x ∧ x ≤ 2147483647) (hb : 0 ≤ b ∧ b ≤ 1) (hs : -2147483648 ≤ s ∧ s ≤ 2147483647) (hy : -2147483648 ≤ y ∧ y ≤ 2147483647) : hG (zs zK) d mt_243 0 (zargs 0 [.inr (.inr 1826), .inl x, .inl b, .inl s, .inl y]) [] H (BJ (H.1 2 1) (H.1 1826 28)) := h_mono (g_law (by omega) hI hx hb hs hy) (fun _ _ h => GQ_BJ hK h)
theorem r_hypothesis {d : Nat} (hd : 50 ≤ d) {H : hp} (hK : Inv H) (hI : GI H) {x b s y : Int} (hx : -2147483648 ≤ x ∧ x ≤ 2147483647) (hb : 0 ≤ b ∧ b ≤ 1) (hs : -2147483648 ≤ s ∧ s ≤ 2147483647) (hy : -2147483648 ≤ y ∧ y ≤ 2147483647) : hG (zs zK) d mt_245 0 (zargs 0 [.inr (.inr 1826), .inl x, .inl b, .inl s, .inl y]) [] H (BJ (H.1 2 1) (H.1 1826 28)) := h_mono (g_hypothesis (by omega) hI hx hb hs hy) (fun _ _ h => GQ_BJ hK h)
theorem r_induction {d : Nat} (hd : 50 ≤ d) {H : hp} (hK : Inv H) (hI : GI H) {v : Int} (hv : -2147483648 ≤ v ∧ v ≤ 2147483647) : hG (zs zK) d mt_252 0 (zargs 0 [.inr (.inr 1826), .inl v]) [] H (BJ (H.1 2 1) (H.1 1826 28)) := h_mono (g_induction (by omega) hI hv) (fun _ _ h => GQ_BJ hK h)
theorem r_cases {d : Nat} (hd : 50 ≤ d) {H : hp} (hK : Inv H) (hI : GI H) {s y : Int} (hs : -2147483648 ≤ s ∧ s ≤ 2147483647) (hy : -2147483648 ≤ y ∧ y ≤ 2147483647) : hG (zs zK) d mt_255 0 (zargs 0 [.inr (.inr 1826), .inl s, .inl y]) [] H (BJ (H.1 2 1) (H.1 1826 28)) := h_mono (g_cases (by omega) hI hs hy) (fun _ _ h => GQ_BJ hK h)
theorem r_same {d : Nat} (hd : 50 ≤ d) {H : hp} (hK : Inv H) (hI : GI H)  : hG (zs zK) d mt_261 0 (zargs 0 [.inr (.inr 1826)]) [] H (BJ (H.1 2 1) (H.1 1826 28)) := h_mono (g_same (by omega) hI ) (fun _ _ h => GQ_BJ hK h)
theorem r_parts {d : Nat} (hd : 50 ≤ d) {H : hp} (hK : Inv H) (hI : GI H)  : hG (zs zK) d mt_262 0 (zargs 0 [.inr (.inr 1826)]) [] H (BJ (H.1 2 1) (H.1 1826 28)) := h_mono (g_parts (by omega) hI ) (fun _ _ h => GQ_BJ hK h)
theorem r_search {d : Nat} (hd : 50 ≤ d) {H : hp} (hK : Inv H) (hI : GI H) {x : Int} (hx : -2147483648 ≤ x ∧ x ≤ 2147483647) : hG (zs zK) d mt_266 0 (zargs 0 [.inr (.inr 1826), .inl x]) [] H (BJ (H.1 2 1) (H.1 1826 28)) := h_mono (g_search (by omega) hI hx) (fun _ _ h => GQ_BJ hK h)
theorem r_show {d : Nat} (hd : 50 ≤ d) {H : hp} (hK : Inv H) (hI : GI H) {k s : Int} (hk : -2147483648 ≤ k ∧ k ≤ 2147483647) (hs : -2147483648 ≤ s ∧ s ≤ 2147483647) : hG (zs zK) d mt_270 0 (zargs 0 [.inr (.inr 1826), .inl k, .inl s]) [] H (BJ (H.1 2 1) (H.1 1826 28)) := h_mono (g_show (by omega) hI hk hs) (fun _ _ h => GQ_BJ hK h)
theorem r_showHypothesis {d : Nat} (hd : 50 ≤ d) {H : hp} (hK : Inv H) (hI : GI H) {k s : Int} (hk : -2147483648 ≤ k ∧ k ≤ 2147483647) (hs : -2147483648 ≤ s ∧ s ≤ 2147483647) : hG (zs zK) d mt_271 0 (zargs 0 [.inr (.inr 1826), .inl k, .inl s]) [] H (BJ (H.1 2 1) (H.1 1826 28)) := h_mono (g_showHypothesis (by omega) hI hk hs) (fun _ _ h => GQ_BJ hK h)
theorem r_showLaw {d : Nat} (hd : 50 ≤ d) {H : hp} (hK : Inv H) (hI : GI H) {l s : Int} (hl : -2147483648 ≤ l ∧ l ≤ 2147483647) (hs : -2147483648 ≤ s ∧ s ≤ 2147483647) : hG (zs zK) d mt_272 0 (zargs 0 [.inr (.inr 1826), .inl l, .inl s]) [] H (BJ (H.1 2 1) (H.1 1826 28)) := h_mono (g_showLaw (by omega) hI hl hs) (fun _ _ h => GQ_BJ hK h)
theorem r_printed {d : Nat} (hd : 50 ≤ d) {H : hp} (hK : Inv H) (hI : GI H) {x : Int} (hx : -2147483648 ≤ x ∧ x ≤ 2147483647) : hG (zs zK) d mt_207 0 (zargs 0 [.inr (.inr 1826), .inl x]) [] H (BJ (H.1 2 1) (H.1 1826 28)) := h_mono (g_printed (by omega) hI hx) (fun _ _ h => GQ_BJ hK h)