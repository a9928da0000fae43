/-! the reference: the goals in their order, and those that a row makes -/
theorem h_nrm {zC : Nat → Option zsh} {d : Nat} {M : am_M} {pc : Nat} {l : zl} {st : List zv} {H : hp} {Q : Option zv → hp → Prop} {z : Int} (k : ∀ y : Int, -2147483648 ≤ y ∧ y ≤ 2147483647 → hG (zs zC) d M pc l (.inl y :: st) H Q) : hG (zs zC) d M pc l (.inl z :: st) H Q := by
  intro S lc hS hl
  have h := k _ (z_int (Int32.ofInt z)) S lc hS hl
  have e : (List.map zc (Sum.inl (Int32.ofInt z).toInt :: st)) = List.map zc (.inl z :: st) := by
    show Value.int _ :: _ = Value.int _ :: _
    rw [z_nrm]
  rw [e] at h
  exact h
/-- n goals in their order, m fresh ones in F: different slots, and all that are used; those in the order are good -/
def RS (P H : hp) (F : Nat → Int) (n m : Nat) : Prop := ((H.1 1826 77) = (n : Int) ∧ 1 ≤ n ∧ n ≤ 12 ∧ m ≤ 18) ∧ (∀ k, k < n → ∃ g : Nat, (H.1 1871) k = (g : Int) ∧ g < 40 ∧ (H.1 1872) g = 1 ∧ gok P H g) ∧ (∀ k, k < m → ∃ g : Nat, F k = (g : Int) ∧ g < 40 ∧ (H.1 1872) g = 1) ∧ (∀ i j, i < n → j < n → (H.1 1871) i = (H.1 1871) j → i = j) ∧ (∀ i j, i < m → j < m → F i = F j → i = j) ∧ (∀ i j, i < n → j < m → (H.1 1871) i ≠ F j) ∧ ∀ g : Nat, g < 40 → (H.1 1872) g ≠ 0 → (∃ k, k < n ∧ (H.1 1871) k = (g : Int)) ∨ ∃ k, k < m ∧ F k = (g : Int)
def OS (P H : hp) (n : Nat) : Prop := RS P H (fun _ => 0) n 0
theorem RS_0 {P H : hp} {F F' : Nat → Int} {n : Nat} (h : RS P H F n 0) : RS P H F' n 0 := by
  obtain ⟨h1, h2, h3, h4, h5, h6, h7⟩ := h
  refine ⟨h1, h2, fun k hk => absurd hk (Nat.not_lt_zero _), h4, fun i j hi => absurd hi (Nat.not_lt_zero _), fun i j _ hj => absurd hj (Nat.not_lt_zero _), fun g hg hu => ?_⟩
  rcases h7 g hg hu with q | ⟨k, hk, -⟩
  · exact Or.inl q
  · exact absurd hk (Nat.not_lt_zero _)
theorem RS_free {P H : hp} {F : Nat → Int} {n m : Nat} (h : RS P H F n m) : ∃ g, g < 40 ∧ (H.1 1872) g = 0 := by
  obtain ⟨h1, h2, h3, h4, h5, h6, h7⟩ := h
  obtain ⟨g, hg, hn⟩ := pigeon 40 ((List.range n).map (fun k => ((H.1 1871) k).toNat) ++ (List.range m).map (fun k => (F k).toNat)) (by
    rw [List.length_append, List.length_map, List.length_map, List.length_range, List.length_range]
    omega)
  refine ⟨g, hg, ?_⟩
  by_cases e : (H.1 1872) g = 0
  · exact e
  · refine absurd ?_ hn
    rw [List.mem_append]
    rcases h7 g hg e with ⟨k, hk, q⟩ | ⟨k, hk, q⟩
    · exact Or.inl (List.mem_map.mpr ⟨k, List.mem_range.mpr hk, by rw [q]; rfl⟩)
    · exact Or.inr (List.mem_map.mpr ⟨k, List.mem_range.mpr hk, by rw [q]; rfl⟩)
/-- one slot more -/
theorem RS_new {P H K : hp} {F : Nat → Int} {n m g : Nat} (h : RS P H F n m) (hm : m < 18) (hg : g < 40) (hu : (H.1 1872) g = 0) (e1 : (K.1 1826 77) = (H.1 1826 77)) (e2 : (K.1 1871) = (H.1 1871)) (e3 : (K.1 1872) = up (H.1 1872) g 1) (e4 : ∀ x, x ≠ g → sS H K x ∧ sH H K x) : RS P K (up F m (g : Int)) n (m + 1) := by
  obtain ⟨h1, h2, h3, h4, h5, h6, h7⟩ := h
  have ho : ∀ k, k < n → (H.1 1871) k ≠ (g : Int) := by
    intro k hk q
    obtain ⟨x, a1, a2, a3, -⟩ := h2 k hk
    rw [a1] at q
    have : x = g := by omega
    rw [this] at a3
    omega
  have hF : ∀ k, k < m → F k ≠ (g : Int) := by
    intro k hk q
    obtain ⟨x, a1, a2, a3⟩ := h3 k hk
    rw [a1] at q
    have : x = g := by omega
    rw [this] at a3
    omega
  refine ⟨⟨by rw [e1]; exact h1.1, h1.2.1, h1.2.2.1, by omega⟩, fun k hk => ?_, fun k hk => ?_, fun i j hi hj q => h4 i j hi hj (by rw [e2] at q; exact q), fun i j hi hj q => ?_, fun i j hi hj q => ?_, fun x hx q => ?_⟩
  · obtain ⟨x, a1, a2, a3, a4⟩ := h2 k hk
    have hx : x ≠ g := fun q => ho k hk (by rw [a1, q])
    exact ⟨x, by rw [e2]; exact a1, a2, by rw [e3, up_ne _ _ hx]; exact a3, gok_s a4 (e4 x hx).1 (e4 x hx).2⟩
  · by_cases q : k = m
    · exact ⟨g, by rw [q, up_eq], hg, by rw [e3, up_eq]⟩
    · obtain ⟨x, a1, a2, a3⟩ := h3 k (by omega)
      have hx : x ≠ g := fun q9 => hF k (by omega) (by rw [a1, q9])
      exact ⟨x, by rw [up_ne _ _ q]; exact a1, a2, by rw [e3, up_ne _ _ hx]; exact a3⟩
  · by_cases qi : i = m
    · by_cases qj : j = m
      · omega
      · rw [qi, up_eq, up_ne _ _ qj] at q
        exact absurd q.symm (hF j (by omega))
    · by_cases qj : j = m
      · rw [qj, up_eq, up_ne _ _ qi] at q
        exact absurd q (hF i (by omega))
      · rw [up_ne _ _ qi, up_ne _ _ qj] at q
        exact h5 i j (by omega) (by omega) q
  · rw [e2] at q
    by_cases qj : j = m
    · rw [qj, up_eq] at q
      exact ho i hi q
    · rw [up_ne _ _ qj] at q
      exact h6 i j hi (by omega) q
  · by_cases qx : x = g
    · exact Or.inr ⟨m, by omega, by rw [up_eq, qx]⟩
    · rw [e3, up_ne _ _ qx] at q
      rcases h7 x hx q with ⟨k, hk, a⟩ | ⟨k, hk, a⟩
      · exact Or.inl ⟨k, hk, by rw [e2]; exact a⟩
      · exact Or.inr ⟨k, by omega, by rw [up_ne _ _ (by omega)]; exact a⟩
/-- what a fresh slot holds changes -/
theorem RS_k {P H K : hp} {F : Nat → Int} {n m j g : Nat} (h : RS P H F n m) (hj : j < m) (hF : F j = (g : Int)) (e1 : (K.1 1826 77) = (H.1 1826 77)) (e2 : (K.1 1871) = (H.1 1871)) (e3 : (K.1 1872) = (H.1 1872)) (e4 : ∀ x, x ≠ g → sS H K x ∧ sH H K x) : RS P K F n m := by
  obtain ⟨h1, h2, h3, h4, h5, h6, h7⟩ := h
  refine ⟨by rw [e1]; exact h1, fun k hk => ?_, fun k hk => ?_, fun i j hi hj q => h4 i j hi hj (by rw [e2] at q; exact q), h5, fun i j hi hj q => h6 i j hi hj (by rw [e2] at q; exact q), fun x hx q => ?_⟩
  · obtain ⟨x, a1, a2, a3, a4⟩ := h2 k hk
    have hx : x ≠ g := fun q => h6 k j hk hj (by rw [a1, hF, q])
    exact ⟨x, by rw [e2]; exact a1, a2, by rw [e3]; exact a3, gok_s a4 (e4 x hx).1 (e4 x hx).2⟩
  · obtain ⟨x, a1, a2, a3⟩ := h3 k hk
    exact ⟨x, a1, a2, by rw [e3]; exact a3⟩
  · rw [e3] at q
    rcases h7 x hx q with ⟨k, hk, a⟩ | ⟨k, hk, a⟩
    · exact Or.inl ⟨k, hk, by rw [e2]; exact a⟩
    · exact Or.inr ⟨k, hk, a⟩
/-- nothing of it changes -/
theorem RS_s {P H K : hp} {F : Nat → Int} {n m : Nat} (h : RS P H F n m) (e1 : (K.1 1826 77) = (H.1 1826 77)) (e2 : (K.1 1871) = (H.1 1871)) (e3 : (K.1 1872) = (H.1 1872)) (e4 : ∀ x, sS H K x ∧ sH H K x) : RS P K F n m := by
  obtain ⟨h1, h2, h3, h4, h5, h6, h7⟩ := h
  refine ⟨by rw [e1]; exact h1, fun k hk => ?_, fun k hk => ?_, fun i j hi hj q => h4 i j hi hj (by rw [e2] at q; exact q), h5, fun i j hi hj q => h6 i j hi hj (by rw [e2] at q; exact q), fun x hx q => ?_⟩
  · obtain ⟨x, a1, a2, a3, a4⟩ := h2 k hk
    exact ⟨x, by rw [e2]; exact a1, a2, by rw [e3]; exact a3, gok_s a4 (e4 x).1 (e4 x).2⟩
  · obtain ⟨x, a1, a2, a3⟩ := h3 k hk
    exact ⟨x, a1, a2, by rw [e3]; exact a3⟩
  · rw [e3] at q
    rcases h7 x hx q with ⟨k, hk, a⟩ | ⟨k, hk, a⟩
    · exact Or.inl ⟨k, hk, by rw [e2]; exact a⟩
    · exact Or.inr ⟨k, hk, a⟩
/-- the first j fresh ones are good -/
def GF (P H : hp) (F : Nat → Int) (j : Nat) : Prop := ∀ k, k < j → ∃ g : Nat, F k = (g : Int) ∧ gok P H g
theorem GF_0 (P H : hp) (F : Nat → Int) : GF P H F 0 := fun k hk => absurd hk (Nat.not_lt_zero _)
theorem GF_new {P H K : hp} {F : Nat → Int} {n m g : Nat} (h : RS P H F n m) (hG : GF P H F m) (hu : (H.1 1872) g = 0) (hg : gok P K g) (e4 : ∀ x, x ≠ g → sS H K x ∧ sH H K x) : GF P K (up F m (g : Int)) (m + 1) := by
  intro k hk
  by_cases q : k = m
  · exact ⟨g, by rw [q, up_eq], hg⟩
  · obtain ⟨x, a1, a2⟩ := hG k (by omega)
    obtain ⟨y, b1, -, b3⟩ := h.2.2.1 k (by omega)
    have hx : x ≠ g := by
      intro q9
      have : y = g := by omega
      rw [this] at b3
      omega
    exact ⟨x, by rw [up_ne _ _ q]; exact a1, gok_s a2 (e4 x hx).1 (e4 x hx).2⟩
theorem GF_k {P H K : hp} {F : Nat → Int} {n m g j : Nat} (h : RS P H F n m) (hG : GF P H F j) (hj : j < m) (hF : F j = (g : Int)) (e4 : ∀ x, x ≠ g → sS H K x ∧ sH H K x) : GF P K F j := by
  intro k hk
  obtain ⟨x, a1, a2⟩ := hG k hk
  have hx : x ≠ g := by
    intro q9
    have := h.2.2.2.2.1 k j (by omega) hj (by rw [a1, hF, q9])
    omega
  exact ⟨x, a1, gok_s a2 (e4 x hx).1 (e4 x hx).2⟩
theorem GF_up {P H : hp} {F : Nat → Int} {g j : Nat} (hG : GF P H F j) (hF : F j = (g : Int)) (hg : gok P H g) : GF P H F (j + 1) := by
  intro k hk
  by_cases q : k = j
  · exact ⟨g, by rw [q]; exact hF, hg⟩
  · exact hG k (by omega)
theorem GF_s {P H K : hp} {F : Nat → Int} {j : Nat} (hG : GF P H F j) (e4 : ∀ x, sS H K x ∧ sH H K x) : GF P K F j := by
  intro k hk
  obtain ⟨x, a1, a2⟩ := hG k hk
  exact ⟨x, a1, gok_s a2 (e4 x).1 (e4 x).2⟩
theorem GF_le {P H : hp} {F : Nat → Int} {j k : Nat} (hG : GF P H F j) (h : k ≤ j) : GF P H F k := fun x hx => hG x (by omega)

/-! newGoal -/
set_option maxRecDepth 100000 in
theorem m_newGoal {zC : Nat → Option zsh} {d : Nat} (hd : 3 ≤ d) {H : hp} {P : hp} {f g0 m : Nat} (hg0 : g0 < 40 ∧ (H.1 1872) g0 = 0) (hf9 : f < 40 ∧ (H.1 1872) f = 1) (hg : gok P H f) (hm : (H.1 1826 95) = (m : Int) ∧ m < 24) : hG (zs zC) d mt_233 0 (zargs 0 [.inr (.inr 1826), .inl (f : Int)]) [] H (fun r9 H2 => ∃ g : Nat, r9 = some (.inl (g : Int)) ∧ g < 40 ∧ (H.1 1872) g = 0 ∧ fr [95] [1873, 1874, 1875, 1876, 1877, 1879, 1880, 1881, 1872, 1885] H H2 ∧ (H2.1 1872) = up (H.1 1872) g 1 ∧ (H2.1 1885) = up (H.1 1885) m g ∧ (H2.1 1826 95) = (m : Int) + 1 ∧ gok P H2 g ∧ ∀ x, x ≠ g → sS H H2 x ∧ sH H H2 x) := by
  refine h_rng (fun hrg0 => ?_)
  refine h_run 0 (pc' := 0) (l' := [(0, .inr (.inr 1826)), (1, .inl (f : Int))]) (st' := []) rfl ?_
  refine h_run 1 (pc' := 1) (l' := [(0, .inr (.inr 1826)), (1, .inl (f : Int))]) (st' := [.inr (.inr 1826)]) rfl ?_
  refine h_cv (i := 538) (j := 224) (b := 1826) (M' := mt_224) (xs := []) (rest := []) rfl rfl rfl rfl rfl rfl (Nat.le_of_ble_eq_true rfl) (Nat.le_of_ble_eq_true rfl) (by omega) (m_free (by omega) hg0) ?_
  rintro _ H2 ⟨g1, rfl, g1l, g1u, rfl⟩
  refine h_run 0 (pc' := 4) (l' := [(0, .inr (.inr 1826)), (1, .inl (f : Int))]) (st' := [.inl (g1 : Int)]) rfl ?_
  have hne : f ≠ g1 := fun e9 => by have h9 := hf9.2; rw [e9] at h9; omega
  refine h_run 4 (pc' := 8) (l' := [(0, .inr (.inr 1826)), (1, .inl (f : Int)), (2, .inl (g1 : Int))]) (st' := [.inl (g1 : Int), .inl (f : Int), .inr (.inr 1826)]) rfl ?_
  refine h_cv (i := 550) (j := 225) (b := 1826) (M' := mt_225) (xs := [.inl (g1 : Int), .inl (f : Int)]) (rest := []) rfl rfl rfl rfl rfl rfl (Nat.le_of_ble_eq_true rfl) (Nat.le_of_ble_eq_true rfl) (by omega) (m_copyGoal (by omega) (by omega) hg) ?_
  rintro _ H3 ⟨rfl, hfH3, hgH3, hoH3⟩
  refine h_rng (fun hrg4 => ?_)
  have hf5 : fr [95] [1873, 1874, 1875, 1876, 1877, 1879, 1880, 1881, 1872, 1885] H H3 := fr_t (fr_a (fr_rf _ _ _) (by decide)) hfH3 (by decide) (by decide)
  refine h_run 0 (pc' := 11) (l' := [(0, .inr (.inr 1826)), (1, .inl (f : Int)), (2, .inl (g1 : Int))]) (st' := []) rfl ?_
  refine h_run 3 (pc' := 16) (l' := [(0, .inr (.inr 1826)), (1, .inl (f : Int)), (2, .inl (g1 : Int))]) (st' := [.inr (.inr 1826), .inr (.inr 1885)]) rfl ?_
  refine h_run 1 (pc' := 19) (l' := [(0, .inr (.inr 1826)), (1, .inl (f : Int)), (2, .inl (g1 : Int))]) (st' := [.inl (H3.1 1826 95), .inr (.inr 1885)]) rfl ?_
  have g6 : -2147483648 ≤ (H3.1 1826 95) ∧ (H3.1 1826 95) ≤ 2147483647 := hrg4.1 1826 13 95 _ .int rfl rfl
  have e7 : (H3.1 1826 95) = (H.1 1826 95) := hfH3.2.2 95 (by decide)
  refine h_run 1 (pc' := 20) (l' := [(0, .inr (.inr 1826)), (1, .inl (f : Int)), (2, .inl (g1 : Int))]) (st' := [.inl (g1 : Int), .inl (H3.1 1826 95), .inr (.inr 1885)]) rfl ?_
  refine h_ist (c := 1885) (j := ((H3.1 1826 95)).toNat) (i := (H3.1 1826 95)) (x := (g1 : Int)) rfl rfl (by decide) (by decide) (by omega) (by omega) (by omega) ?_
  refine h_run 3 (pc' := 26) (l' := [(0, .inr (.inr 1826)), (1, .inl (f : Int)), (2, .inl (g1 : Int))]) (st' := [.inl (H3.1 1826 95), .inr (.inr 1826)]) rfl ?_
  refine h_run 2 (pc' := 28) (l' := [(0, .inr (.inr 1826)), (1, .inl (f : Int)), (2, .inl (g1 : Int))]) (st' := [.inl ((H3.1 1826 95) + 1), .inr (.inr 1826)]) rfl ?_
  refine h_puti (i := 553) (ci := 13) (k := 95) (a := 1826) (x := ((H3.1 1826 95) + 1)) rfl rfl rfl rfl rfl rfl (by decide) (by omega) ?_
  refine h_run 1 (pc' := 32) (l' := [(0, .inr (.inr 1826)), (1, .inl (f : Int)), (2, .inl (g1 : Int))]) (st' := [.inl (g1 : Int)]) rfl ?_
  refine h_reti (x := (g1 : Int)) rfl rfl ?_
  refine ⟨_, rfl, g1l, g1u, (fr_o (fr_a hf5 (by decide)) (by decide)), ?_, ?_, (by omega : ((H3.1 1826 95) + 1) = (m : Int) + 1), hgH3, fun x hx => hoH3 x hx⟩
  · exact hfH3.2.1 1872 (by decide) (by decide)
  · show up (H3.1 1885) _ _ = _
    rw [show (H3.1 1885) = (H.1 1885) from hfH3.2.1 1885 (by decide) (by decide), show (((H3.1 1826 95)).toNat) = m by omega]
