/-! the reference: places -/
theorem z_div_10 {x y : Int} (hx : 0 ≤ x ∧ x ≤ 2147483647) (hy : 1 ≤ y ∧ y ≤ 2147483647) (h : 9 < z_div x y) : 10 * y ≤ x := by
  rw [z_div_eq hx hy] at h
  exact (Int.le_ediv_iff_mul_le (by omega)).mp (by omega)
theorem z_div_m {x y : Int} (hx : 0 ≤ x ∧ x ≤ 2147483647) (hy : 1 ≤ y ∧ y ≤ 2147483647) : (0 ≤ z_div x y ∧ z_div x y ≤ x) ∧ 0 ≤ x - z_div x y * y ∧ x - z_div x y * y ≤ x := by
  rw [z_div_eq hx hy]
  have h1 := Int.ediv_nonneg hx.1 (by omega : 0 ≤ y)
  have h2 := Int.ediv_le_self y hx.1
  have h3 := Int.ediv_mul_le x (by omega : y ≠ 0)
  have h4 := Int.mul_nonneg h1 (by omega : 0 ≤ y)
  omega

/-! placeOf -/
set_option maxRecDepth 100000 in
theorem m_placeOf_cut {zC : Nat → Option zsh} {d : Nat} (hd : 3 ≤ d) {H : hp} {q N : Nat} {ok : Int → Prop} (hq : q ≤ 2147483647) (hok : ∀ s, ok s → sg0 s) (hT : tm (ma (H.1 1833) (H.1 1830)) ok (H.1 1884) N 0 1) (hN : N ≤ 128) : ∀ w : Nat, (∀ (t : Nat), (1 ≤ t ∧ t ≤ 2147483647) → 3000000000000 + (2147483648 - t) < w → hG (zs zC) d mt_230 4 [(0, .inr (.inr 1826)), (1, .inl (q : Int)), (2, .inl 0), (3, .inl (t : Int))] [] H (fun r9 H2 => (r9 = some (.inl (-1)) ∨ ∃ i : Nat, r9 = some (.inl (i : Int)) ∧ i < N) ∧ H = H2)) ∧ (∀ (i : Nat) (t : Nat) (p : Int) (kk : Nat), (t ≤ 2147483647) → (0 ≤ p ∧ p ≤ 2147483647) → (tm (ma (H.1 1833) (H.1 1830)) ok (H.1 1884) kk i 1) → (i + kk ≤ N) → 1000 * t + 500 < w → hG (zs zC) d mt_230 23 [(0, .inr (.inr 1826)), (1, .inl (q : Int)), (2, .inl (i : Int)), (3, .inl (t : Int)), (4, .inl p)] [] H (fun r9 H2 => (r9 = some (.inl (-1)) ∨ ∃ i : Nat, r9 = some (.inl (i : Int)) ∧ i < N) ∧ H = H2)) ∧ (∀ (i : Nat) (t : Nat) (p : Int) (dd : Int) (j : Nat) (kk : Nat) (mm : Nat), (1 ≤ t ∧ t ≤ 2147483647) → (0 ≤ p ∧ p ≤ 2147483647) → (1 ≤ dd ∧ dd ≤ 4) → (1 ≤ j ∧ (j : Int) ≤ dd) → (tm (ma (H.1 1833) (H.1 1830)) ok (H.1 1884) kk i mm) → (dd - j + 1 ≤ mm) → (i + kk ≤ N) → 1000 * t + (5 - j) < w → hG (zs zC) d mt_230 75 [(0, .inr (.inr 1826)), (1, .inl (q : Int)), (2, .inl (i : Int)), (3, .inl (t : Int)), (4, .inl p), (5, .inl dd), (6, .inl (j : Int))] [] H (fun r9 H2 => (r9 = some (.inl (-1)) ∨ ∃ i : Nat, r9 = some (.inl (i : Int)) ∧ i < N) ∧ H = H2)) := by
  intro w
  induction w with
  | zero => exact ⟨fun _ _ h => absurd h (Nat.not_lt_zero _), fun _ _ _ _ _ _ _ _ h => absurd h (Nat.not_lt_zero _), fun _ _ _ _ _ _ _ _ _ _ _ _ _ _ h => absurd h (Nat.not_lt_zero _)⟩
  | succ w ih =>
    refine ⟨?_, ?_, ?_⟩
    · intro t ht hw
      refine h_rng (fun hrg1 => ?_)
      refine h_run 2 (pc' := 6) (l' := [(0, .inr (.inr 1826)), (1, .inl (q : Int)), (2, .inl 0), (3, .inl (t : Int))]) (st' := [.inl (t : Int), .inl (q : Int)]) rfl ?_
      refine h_idiv (x := (q : Int)) (y := (t : Int)) rfl (by omega) (by omega) (by omega : (t : Int) ≠ 0) ?_
      refine h_run 0 (pc' := 7) (l' := [(0, .inr (.inr 1826)), (1, .inl (q : Int)), (2, .inl 0), (3, .inl (t : Int))]) (st' := [.inl (z_div (q : Int) (t : Int))]) rfl ?_
      refine h_run 1 (pc' := 9) (l' := [(0, .inr (.inr 1826)), (1, .inl (q : Int)), (2, .inl 0), (3, .inl (t : Int))]) (st' := [.inl 9, .inl (z_div (q : Int) (t : Int))]) rfl ?_
      refine h_ile (off := 11) (t := 20) rfl rfl (z_int _) (by decide) (fun c2 => ?_) (fun c2 => ?_)
      · refine h_run 2 (pc' := 23) (l' := [(0, .inr (.inr 1826)), (1, .inl (q : Int)), (2, .inl 0), (3, .inl (t : Int)), (4, .inl (q : Int))]) (st' := []) rfl ?_
        exact ih.2.1 0 t (q : Int) (N) (by omega) (by omega) hT (by omega) (by omega : 1000 * t + 500 < w)
      · have h10 := z_div_10 (x := (q : Int)) (y := (t : Int)) (by omega) (by omega) (by omega)
        refine h_run 5 (pc' := 4) (l' := [(0, .inr (.inr 1826)), (1, .inl (q : Int)), (2, .inl 0), (3, .inl ((t : Int) * 10))]) (st' := []) rfl ?_
        rw [show ((t : Int) * 10) = (((t * 10) : Nat) : Int) by omega]
        exact ih.1 (t * 10) (by omega) (by omega : 3000000000000 + (2147483648 - (t * 10)) < w)
    · intro i t p kk ht hp hTi hik hw
      refine h_rng (fun hrg3 => ?_)
      refine h_run 1 (pc' := 24) (l' := [(0, .inr (.inr 1826)), (1, .inl (q : Int)), (2, .inl (i : Int)), (3, .inl (t : Int)), (4, .inl p)]) (st' := [.inl (t : Int)]) rfl ?_
      refine h_zle (off := 82) (t := 106) rfl rfl (by omega) (fun c4 => ?_) (fun c4 => ?_)
      · refine h_run 1 (pc' := 107) (l' := [(0, .inr (.inr 1826)), (1, .inl (q : Int)), (2, .inl (i : Int)), (3, .inl (t : Int)), (4, .inl p)]) (st' := [.inl (i : Int)]) rfl ?_
        refine h_reti (x := (i : Int)) rfl rfl ?_
        exact ⟨Or.inr ⟨i, rfl, by have := tm_le hTi; omega⟩, rfl⟩
      · refine h_run 1 (pc' := 28) (l' := [(0, .inr (.inr 1826)), (1, .inl (q : Int)), (2, .inl (i : Int)), (3, .inl (t : Int)), (4, .inl p)]) (st' := [.inl (q : Int)]) rfl ?_
        refine h_zle (off := 78) (t := 106) rfl rfl (by omega) (fun c5 => ?_) (fun c5 => ?_)
        · refine h_run 1 (pc' := 107) (l' := [(0, .inr (.inr 1826)), (1, .inl (q : Int)), (2, .inl (i : Int)), (3, .inl (t : Int)), (4, .inl p)]) (st' := [.inl (i : Int)]) rfl ?_
          refine h_reti (x := (i : Int)) rfl rfl ?_
          exact ⟨Or.inr ⟨i, rfl, by have := tm_le hTi; omega⟩, rfl⟩
        · refine h_run 2 (pc' := 34) (l' := [(0, .inr (.inr 1826)), (1, .inl (q : Int)), (2, .inl (i : Int)), (3, .inl (t : Int)), (4, .inl p)]) (st' := [.inl (t : Int), .inl p]) rfl ?_
          refine h_idiv (x := p) (y := (t : Int)) rfl (by omega) (by omega) (by omega : (t : Int) ≠ 0) ?_
          refine h_run 0 (pc' := 35) (l' := [(0, .inr (.inr 1826)), (1, .inl (q : Int)), (2, .inl (i : Int)), (3, .inl (t : Int)), (4, .inl p)]) (st' := [.inl (z_div p (t : Int))]) rfl ?_
          obtain ⟨hd0, hpm⟩ := z_div_m (x := p) (y := (t : Int)) (by omega) (by omega)
          refine h_run 9 (pc' := 49) (l' := [(0, .inr (.inr 1826)), (1, .inl (q : Int)), (2, .inl (i : Int)), (3, .inl (t : Int)), (4, .inl (p - ((z_div p (t : Int)) * (t : Int)))), (5, .inl (z_div p (t : Int)))]) (st' := [.inl 1, .inl (z_div p (t : Int))]) rfl ?_
          refine h_ilt (off := 18) (t := 67) rfl rfl (z_int _) (by decide) (fun c6 => ?_) (fun c6 => ?_)
          · refine h_run 1 (pc' := 68) (l' := [(0, .inr (.inr 1826)), (1, .inl (q : Int)), (2, .inl (i : Int)), (3, .inl (t : Int)), (4, .inl (p - ((z_div p (t : Int)) * (t : Int)))), (5, .inl (z_div p (t : Int)))]) (st' := [.inl (-1)]) rfl ?_
            refine h_reti (x := (-1)) rfl rfl ?_
            exact ⟨Or.inl rfl, rfl⟩
          · have hkp : 1 ≤ kk := tm_le hTi
            obtain ⟨k0, rfl⟩ : ∃ k0, kk = k0 + 1 := ⟨kk - 1, by omega⟩
            obtain ⟨-, hsok, m9, h9, h94, h8⟩ := id hTi
            rw [Nat.sub_self, Nat.zero_add] at h8
            have hs0 : sg0 ((H.1 1884) i) := hok _ hsok
            refine h_run 5 (pc' := 60) (l' := [(0, .inr (.inr 1826)), (1, .inl (q : Int)), (2, .inl (i : Int)), (3, .inl (t : Int)), (4, .inl (p - ((z_div p (t : Int)) * (t : Int)))), (5, .inl (z_div p (t : Int)))]) (st' := [.inl (i : Int), .inr (.inr 1884), .inr (.inr 1826), .inl (z_div p (t : Int))]) rfl ?_
            refine h_ild (c := 1884) (j := i) (i := (i : Int)) rfl rfl (by decide) rfl (by omega) ?_
            have g7 : -2147483648 ≤ (H.1 1884 i) ∧ (H.1 1884 i) ≤ 2147483647 := hrg3.2 1884 i 128 .int rfl (by omega)
            refine h_run 0 (pc' := 61) (l' := [(0, .inr (.inr 1826)), (1, .inl (q : Int)), (2, .inl (i : Int)), (3, .inl (t : Int)), (4, .inl (p - ((z_div p (t : Int)) * (t : Int)))), (5, .inl (z_div p (t : Int)))]) (st' := [.inl (H.1 1884 i), .inr (.inr 1826), .inl (z_div p (t : Int))]) rfl ?_
            refine h_cv (i := 244) (j := 154) (b := 1826) (M' := mt_154) (xs := [.inl (H.1 1884 i)]) (rest := [.inl (z_div p (t : Int))]) rfl rfl rfl rfl rfl rfl (Nat.le_of_ble_eq_true rfl) (Nat.le_of_ble_eq_true rfl) (by omega) (m_arity (by omega) hs0) ?_
            rintro _ _ ⟨rfl, rfl⟩
            refine h_run 0 (pc' := 64) (l' := [(0, .inr (.inr 1826)), (1, .inl (q : Int)), (2, .inl (i : Int)), (3, .inl (t : Int)), (4, .inl (p - ((z_div p (t : Int)) * (t : Int)))), (5, .inl (z_div p (t : Int)))]) (st' := [.inl (ma (H.1 1833) (H.1 1830) (H.1 1884 i)), .inl (z_div p (t : Int))]) rfl ?_
            refine h_ile (off := 5) (t := 69) rfl rfl (z_int _) (by omega) (fun c8 => ?_) (fun c8 => ?_)
            · refine h_run 3 (pc' := 75) (l' := [(0, .inr (.inr 1826)), (1, .inl (q : Int)), (2, .inl ((i : Int) + 1)), (3, .inl (t : Int)), (4, .inl (p - ((z_div p (t : Int)) * (t : Int)))), (5, .inl (z_div p (t : Int))), (6, .inl 1)]) (st' := []) rfl ?_
              rw [show ((i : Int) + 1) = (((i + 1) : Nat) : Int) by omega]
              exact ih.2.2 (i + 1) t (p - ((z_div p (t : Int)) * (t : Int))) (z_div p (t : Int)) 1 (k0) (m9) (by omega) (by omega) (by omega) (by omega) h8 (by omega) (by omega) (by omega : 1000 * t + (5 - 1) < w)
            · refine h_run 1 (pc' := 68) (l' := [(0, .inr (.inr 1826)), (1, .inl (q : Int)), (2, .inl (i : Int)), (3, .inl (t : Int)), (4, .inl (p - ((z_div p (t : Int)) * (t : Int)))), (5, .inl (z_div p (t : Int)))]) (st' := [.inl (-1)]) rfl ?_
              refine h_reti (x := (-1)) rfl rfl ?_
              exact ⟨Or.inl rfl, rfl⟩
    · intro i t p dd j kk mm ht hp hdd hj hTi hm hik hw
      refine h_rng (fun hrg9 => ?_)
      refine h_run 2 (pc' := 79) (l' := [(0, .inr (.inr 1826)), (1, .inl (q : Int)), (2, .inl (i : Int)), (3, .inl (t : Int)), (4, .inl p), (5, .inl dd), (6, .inl (j : Int))]) (st' := [.inl dd, .inl (j : Int)]) rfl ?_
      refine h_ige (off := 19) (t := 98) rfl rfl (by omega) (by omega) (fun c10 => ?_) (fun c10 => ?_)
      · obtain ⟨k7, k8, hkk, g7, g8⟩ := tm_split (n := 1) (n2 := mm - 1) (by rw [show 1 + (mm - 1) = mm by omega]; exact hTi)
        refine h_run 2 (pc' := 101) (l' := [(0, .inr (.inr 1826)), (1, .inl (q : Int)), (2, .inl (i : Int)), (3, .inl (t : Int)), (4, .inl p), (5, .inl dd), (6, .inl (j : Int))]) (st' := [.inl 10, .inl (t : Int)]) rfl ?_
        refine h_idiv (x := (t : Int)) (y := 10) rfl (by omega) (by decide) (by omega : (10 : Int) ≠ 0) ?_
        refine h_run 0 (pc' := 102) (l' := [(0, .inr (.inr 1826)), (1, .inl (q : Int)), (2, .inl (i : Int)), (3, .inl (t : Int)), (4, .inl p), (5, .inl dd), (6, .inl (j : Int))]) (st' := [.inl (z_div (t : Int) 10)]) rfl ?_
        rw [show (z_div (t : Int) 10) = ((t / 10 : Nat) : Int) from (by rw [z_div_eq (by omega) (by omega)]; omega)]
        refine h_run 2 (pc' := 23) (l' := [(0, .inr (.inr 1826)), (1, .inl (q : Int)), (2, .inl (i : Int)), (3, .inl ((t / 10 : Nat) : Int)), (4, .inl p), (5, .inl dd), (6, .inl (j : Int))]) (st' := []) rfl ?_
        refine h_loc [0, 1, 2, 3, 4] rfl ?_
        exact ih.2.1 i (t / 10) p (k7) (by omega) (by omega) g7 (by omega) (by omega : 1000 * (t / 10) + 500 < w)
      · obtain ⟨k1, k2, hkk, g3, g4⟩ := tm_split (n := 1) (n2 := mm - 1) (by rw [show 1 + (mm - 1) = mm by omega]; exact hTi)
        have hk1 : 1 ≤ k1 := tm_le g3
        refine h_run 4 (pc' := 88) (l' := [(0, .inr (.inr 1826)), (1, .inl (q : Int)), (2, .inl (i : Int)), (3, .inl (t : Int)), (4, .inl p), (5, .inl dd), (6, .inl (j : Int))]) (st' := [.inl (i : Int), .inr (.inr 1884), .inr (.inr 1826)]) rfl ?_
        refine h_cv (i := 427) (j := 155) (b := 1826) (M' := mt_155) (xs := [.inl (i : Int), .inr (.inr 1884)]) (rest := []) rfl rfl rfl rfl rfl rfl (Nat.le_of_ble_eq_true rfl) (Nat.le_of_ble_eq_true rfl) (by omega) (m_behind (by omega) (n := 128) (a := i) (k := k1) rfl (by decide) (tm_sg0 g3 hok) (by omega)) ?_
        rintro _ _ ⟨rfl, rfl⟩
        refine h_run 0 (pc' := 91) (l' := [(0, .inr (.inr 1826)), (1, .inl (q : Int)), (2, .inl (i : Int)), (3, .inl (t : Int)), (4, .inl p), (5, .inl dd), (6, .inl (j : Int))]) (st' := [.inl ((i + k1 : Nat) : Int)]) rfl ?_
        refine h_run 3 (pc' := 75) (l' := [(0, .inr (.inr 1826)), (1, .inl (q : Int)), (2, .inl ((i + k1 : Nat) : Int)), (3, .inl (t : Int)), (4, .inl p), (5, .inl dd), (6, .inl ((j : Int) + 1))]) (st' := []) rfl ?_
        rw [show ((j : Int) + 1) = (((j + 1) : Nat) : Int) by omega]
        exact ih.2.2 (i + k1) t p dd (j + 1) (k2) ((mm - 1)) (by omega) (by omega) (by omega) (by omega) g4 (by omega) (by omega) (by omega : 1000 * t + (5 - (j + 1)) < w)
set_option maxRecDepth 100000 in
theorem m_placeOf {zC : Nat → Option zsh} {d : Nat} (hd : 3 ≤ d) {H : hp} {q N : Nat} {ok : Int → Prop} (hq : q ≤ 2147483647) (hok : ∀ s, ok s → sg0 s) (hT : tm (ma (H.1 1833) (H.1 1830)) ok (H.1 1884) N 0 1) (hN : N ≤ 128) : hG (zs zC) d mt_230 0 (zargs 0 [.inr (.inr 1826), .inl (q : Int)]) [] H (fun r9 H2 => (r9 = some (.inl (-1)) ∨ ∃ i : Nat, r9 = some (.inl (i : Int)) ∧ i < N) ∧ H = H2) := by
  refine h_rng (fun hrg0 => ?_)
  refine h_run 0 (pc' := 0) (l' := [(0, .inr (.inr 1826)), (1, .inl (q : Int))]) (st' := []) rfl ?_
  refine h_run 4 (pc' := 4) (l' := [(0, .inr (.inr 1826)), (1, .inl (q : Int)), (2, .inl 0), (3, .inl 1)]) (st' := []) rfl ?_
  exact (m_placeOf_cut hd hq hok hT hN _).1 1 (by omega) (Nat.lt_succ_self _)
