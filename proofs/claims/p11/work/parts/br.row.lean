/-! the reference: a row of a test -/
theorem tm_1 {ar : Int → Int} {ok : Int → Prop} {a : Nat → Int} {k i n : Nat} (h : tm ar ok a k i n) (hk : 0 < k) : n ≠ 0 ∧ ok (a i) ∧ ∃ q : Nat, ar (a i) = (q : Int) ∧ q ≤ 4 ∧ tm ar ok a (k - 1) (i + 1) (n - 1 + q) := by
  cases k with
  | zero => omega
  | succ k => exact h
def NW (lv : Int) (lT now vc : Nat → Int) (l : Nat) : Prop := ∀ v : Nat, (v : Int) < lv → 0 ≤ now v ∧ now v < vc (lT (6 * l + v)).toNat
theorem tp_up {ar : Int → Int} {ok : Int → Prop} {a : Nat → Int} {k n m j : Nat} {z : Int} (h : tp ar ok a k 0 n m) (hj : k ≤ j) : tp ar ok (up a j z) k 0 n m := tp_at h (fun x hx => up_ne _ _ (by omega))
theorem tp_push {ar : Int → Int} {ok : Int → Prop} {a : Nat → Int} {p m q : Nat} {z : Int} (h : tp ar ok a p 0 1 m) (hm : m ≠ 0) (h1 : ok z) (h2 : ar z = (q : Int)) (h3 : q ≤ 4) : tp ar ok (up a p z) (p + 1) 0 1 (m - 1 + q) := by
  refine tp_snoc (m := m - 1) ?_ ?_ ?_ h3
  · rw [show m - 1 + 1 = m by omega]; exact tp_up h (Nat.le_refl _)
  · rw [Nat.zero_add, up_eq]; exact h1
  · rw [Nat.zero_add, up_eq]; exact h2
theorem cp_u2 {a b : Nat → Int} {k j : Nat} {z : Int} (h : ∀ x, x < k → a x = b x) (hj : j = k) (hz : z = b k) : ∀ x, x < k + 1 → up a j z x = b x := by
  intro x hx
  by_cases e : x = k
  · rw [e, hj, up_eq, hz]
  · rw [up_ne _ _ (by omega)]; exact h x (by omega)

/-! row -/
set_option maxRecDepth 100000 in
theorem m_row_cut {zC : Nat → Option zsh} {d : Nat} (hd : 7 ≤ d) {H : hp} {l : Nat} (hP : PWc H) (hl : (l : Int) < (H.1 1826 19)) (hV : VK (H.1 1826 1) (H.1 1826 3) (H.1 1826 8) (H.1 1833) (H.1 1830) (H.1 1861) (H.1 1862) (H.1 1863)) (hN : NW ((H.1 1845) l) (H.1 1846) (H.1 1868) (H.1 1863) l) : ∀ w : Nat, (∀ (H1 : hp) (bb : Int) (s : Nat), (fr [50, 51, 53, 55, 56, 72] [1855, 1856, 1857, 1869] H H1) → (-2147483648 ≤ bb ∧ bb ≤ 2147483647) → (s ≤ 2) → (1 ≤ s → 0 ≤ (H1.1 1826 55) ∧ (H1.1 1826 55) ≤ 240) → 1000000 - 100000 * s < w → hG (zs zC) d mt_219 4 [(0, .inr (.inr 1826)), (1, .inl (l : Int)), (2, .inl bb), (3, .inl (s : Int))] [] H1 (fun r9 H2 => fr [50, 51, 53, 55, 56, 72] [1855, 1856, 1857, 1869] H H2 ∧ ∃ r0 : Int, r9 = some (.inl r0) ∧ 0 ≤ r0 ∧ r0 ≤ 2)) ∧ (∀ (H1 : hp) (bb : Int) (s : Nat) (i : Nat) (m : Nat) (p : Nat), (fr [50, 51, 53, 55, 56, 72] [1855, 1856, 1857, 1869] H H1) → (-2147483648 ≤ bb ∧ bb ≤ 2147483647) → (s < 2) → (i ≤ 40) → ((H1.1 1826 53) = (p : Int)) → (p ≤ 6 * i) → (tm (ma (H.1 1833) (H.1 1830)) (m_sg (H.1 1826 3) (H.1 1826 8) ((H.1 1845) l)) (H.1 1842) (((H.1 1843) (2 * l + s)).toNat - i) (48 * (2 * l + s) + i) m) → (tp (ma (H.1 1833) (H.1 1830)) (m_sg (H.1 1826 3) (H.1 1826 8) 0) (H1.1 1856) p 0 1 m) → 1000000 - 100000 * s - 100 - 100 * i < w → hG (zs zC) d mt_219 17 [(0, .inr (.inr 1826)), (1, .inl (l : Int)), (2, .inl bb), (3, .inl (s : Int)), (4, .inl (i : Int))] [] H1 (fun r9 H2 => fr [50, 51, 53, 55, 56, 72] [1855, 1856, 1857, 1869] H H2 ∧ ∃ r0 : Int, r9 = some (.inl r0) ∧ 0 ≤ r0 ∧ r0 ≤ 2)) ∧ (∀ (H1 : hp) (bb : Int) (s : Nat) (i : Nat) (q : Nat) (x : Nat) (m : Nat) (p : Nat) (z : Nat), (fr [50, 51, 53, 55, 56, 72] [1855, 1856, 1857, 1869] H H1) → (-2147483648 ≤ bb ∧ bb ≤ 2147483647) → (s < 2) → (i < 40) → (x ≤ z) → ((H1.1 1826 53) = ((p + x : Nat) : Int)) → (p ≤ 6 * i) → (q < 12006) → ((H.1 1862) q = (z : Int) ∧ 1 ≤ z ∧ z ≤ 6) → (tm (ma (H.1 1833) (H.1 1830)) (m_sg (H.1 1826 3) (H.1 1826 8) 0) (H.1 1861) z (7 * q) 1) → (tm (ma (H.1 1833) (H.1 1830)) (m_sg (H.1 1826 3) (H.1 1826 8) ((H.1 1845) l)) (H.1 1842) (((H.1 1843) (2 * l + s)).toNat - (i + 1)) (48 * (2 * l + s) + (i + 1)) m) → (tp (ma (H.1 1833) (H.1 1830)) (m_sg (H.1 1826 3) (H.1 1826 8) 0) (H1.1 1856) p 0 1 (m + 1)) → (∀ y, y < x → (H1.1 1856) (p + y) = (H.1 1861) (7 * q + y)) → 1000000 - 100000 * s - 100 - 100 * i - 10 - x < w → hG (zs zC) d mt_219 95 [(0, .inr (.inr 1826)), (1, .inl (l : Int)), (2, .inl bb), (3, .inl (s : Int)), (4, .inl (i : Int)), (7, .inl (q : Int)), (8, .inl (x : Int))] [] H1 (fun r9 H2 => fr [50, 51, 53, 55, 56, 72] [1855, 1856, 1857, 1869] H H2 ∧ ∃ r0 : Int, r9 = some (.inl r0) ∧ 0 ≤ r0 ∧ r0 ≤ 2)) ∧ (∀ (H1 : hp) (bb : Int) (s : Nat) (i : Nat) (p : Nat), (fr [50, 51, 53, 55, 56, 72] [1855, 1856, 1857, 1869] H H1) → (-2147483648 ≤ bb ∧ bb ≤ 2147483647) → (s < 2) → (i ≤ p ∧ p ≤ 240) → ((H1.1 1826 53) = (p : Int)) → ((H1.1 1826 55) = (p : Int)) → (tm (ma (H.1 1833) (H.1 1830)) (m_sg (H.1 1826 3) (H.1 1826 8) 0) (H1.1 1856) p 0 1) → (∀ y, y < i → (H1.1 1857) y = (H1.1 1856) y) → 1000000 - 100000 * s - 10000 - i < w → hG (zs zC) d mt_219 186 [(0, .inr (.inr 1826)), (1, .inl (l : Int)), (2, .inl bb), (3, .inl (s : Int)), (4, .inl (i : Int))] [] H1 (fun r9 H2 => fr [50, 51, 53, 55, 56, 72] [1855, 1856, 1857, 1869] H H2 ∧ ∃ r0 : Int, r9 = some (.inl r0) ∧ 0 ≤ r0 ∧ r0 ≤ 2)) ∧ (∀ (H1 : hp) (bb : Int) (s : Nat) (i : Nat), (fr [50, 51, 53, 55, 56, 72] [1855, 1856, 1857, 1869] H H1) → (-2147483648 ≤ bb ∧ bb ≤ 2147483647) → (s < 2) → (0 ≤ (H1.1 1826 55) ∧ (H1.1 1826 55) ≤ 240) → (i ≤ 240) → 1000000 - 100000 * s - 20000 - i < w → hG (zs zC) d mt_219 248 [(0, .inr (.inr 1826)), (1, .inl (l : Int)), (2, .inl bb), (3, .inl (s : Int)), (4, .inl (i : Int))] [] H1 (fun r9 H2 => fr [50, 51, 53, 55, 56, 72] [1855, 1856, 1857, 1869] H H2 ∧ ∃ r0 : Int, r9 = some (.inl r0) ∧ 0 ≤ r0 ∧ r0 ≤ 2)) ∧ (∀ (H1 : hp) (b3 : Int) (i : Nat), (fr [50, 51, 53, 55, 56, 72] [1855, 1856, 1857, 1869] H H1) → (0 ≤ b3 ∧ b3 ≤ 1) → (0 ≤ (H1.1 1826 55) ∧ (H1.1 1826 55) ≤ 240) → (i ≤ 240) → 1000 - i < w → hG (zs zC) d mt_219 309 [(0, .inr (.inr 1826)), (1, .inl (l : Int)), (3, .inl b3), (4, .inl (i : Int))] [] H1 (fun r9 H2 => fr [50, 51, 53, 55, 56, 72] [1855, 1856, 1857, 1869] H H2 ∧ ∃ r0 : Int, r9 = some (.inl r0) ∧ 0 ≤ r0 ∧ r0 ≤ 2)) := by
  intro w
  induction w with
  | zero => exact ⟨fun _ _ _ _ _ _ _ h => absurd h (Nat.not_lt_zero _), fun _ _ _ _ _ _ _ _ _ _ _ _ _ _ h => absurd h (Nat.not_lt_zero _), fun _ _ _ _ _ _ _ _ _ _ _ _ _ _ _ _ _ _ _ _ _ _ h => absurd h (Nat.not_lt_zero _), fun _ _ _ _ _ _ _ _ _ _ _ _ _ h => absurd h (Nat.not_lt_zero _), fun _ _ _ _ _ _ _ _ _ h => absurd h (Nat.not_lt_zero _), fun _ _ _ _ _ _ _ h => absurd h (Nat.not_lt_zero _)⟩
  | succ w ih =>
    refine ⟨?_, ?_, ?_, ?_, ?_, ?_⟩
    · intro H1 bb s hf hbb hs hts hw
      refine h_rng (fun hrg1 => ?_)
      obtain ⟨⟨pb1, pb2, pb3, pb4, pb5⟩, pw1, pw2, pw3, pw4⟩ := (id hP : PW H (H.1 1826 1) (H.1 1826 3) (H.1 1826 8) (H.1 1826 13) (H.1 1826 19))
      obtain ⟨v9, ⟨lv1, lv2⟩, lv3, lv4⟩ := pw4 l (by omega)
      refine h_run 2 (pc' := 6) (l' := [(0, .inr (.inr 1826)), (1, .inl (l : Int)), (2, .inl bb), (3, .inl (s : Int))]) (st' := [.inl 2, .inl (s : Int)]) rfl ?_
      refine h_ige (off := 277) (t := 283) rfl rfl (by omega) (by decide) (fun c2 => ?_) (fun c2 => ?_)
      · refine h_run 1 (pc' := 284) (l' := [(0, .inr (.inr 1826)), (1, .inl (l : Int)), (2, .inl bb), (3, .inl (s : Int))]) (st' := [.inl bb]) rfl ?_
        refine h_zne (off := 5) (t := 289) rfl rfl (by omega) (fun c3 => ?_) (fun c3 => ?_)
        · refine h_run 2 (pc' := 293) (l' := [(0, .inr (.inr 1826)), (1, .inl (l : Int)), (2, .inl bb), (3, .inl (s : Int))]) (st' := [.inl (H1.1 1826 55)]) rfl ?_
          have g4 : -2147483648 ≤ (H1.1 1826 55) ∧ (H1.1 1826 55) ≤ 2147483647 := hrg1.1 1826 13 55 _ .int rfl rfl
          refine h_run 2 (pc' := 297) (l' := [(0, .inr (.inr 1826)), (1, .inl (l : Int)), (2, .inl bb), (3, .inl (s : Int))]) (st' := [.inl (H1.1 1826 72), .inl (H1.1 1826 55)]) rfl ?_
          have g5 : -2147483648 ≤ (H1.1 1826 72) ∧ (H1.1 1826 72) ≤ 2147483647 := hrg1.1 1826 13 72 _ .int rfl rfl
          refine h_ine (off := 7) (t := 304) rfl rfl (by omega) (by omega) (fun c6 => ?_) (fun c6 => ?_)
          · refine h_run 4 (pc' := 309) (l' := [(0, .inr (.inr 1826)), (1, .inl (l : Int)), (2, .inl bb), (3, .inl 0), (4, .inl 0)]) (st' := []) rfl ?_
            refine h_loc [0, 1, 3, 4] rfl ?_
            exact ih.2.2.2.2.2 _ (0 : Int) 0 hf (by omega) (by omega : 0 ≤ (H1.1 1826 55) ∧ (H1.1 1826 55) ≤ 240) (by omega) (by omega : 1000 - 0 < w)
          · refine h_run 5 (pc' := 309) (l' := [(0, .inr (.inr 1826)), (1, .inl (l : Int)), (2, .inl bb), (3, .inl 1), (4, .inl 0)]) (st' := []) rfl ?_
            refine h_loc [0, 1, 3, 4] rfl ?_
            exact ih.2.2.2.2.2 _ (1 : Int) 0 hf (by omega) (by omega : 0 ≤ (H1.1 1826 55) ∧ (H1.1 1826 55) ≤ 240) (by omega) (by omega : 1000 - 0 < w)
        · refine h_run 1 (pc' := 288) (l' := [(0, .inr (.inr 1826)), (1, .inl (l : Int)), (2, .inl bb), (3, .inl (s : Int))]) (st' := [.inl 2]) rfl ?_
          refine h_reti (x := 2) rfl rfl ?_
          exact ⟨hf, _, rfl, by omega⟩
      · obtain ⟨k9, ⟨kk1, kk2⟩, kk3⟩ := lv4 s (by omega)
        refine h_run 2 (pc' := 11) (l' := [(0, .inr (.inr 1826)), (1, .inl (l : Int)), (2, .inl bb), (3, .inl (s : Int))]) (st' := [.inl 0, .inr (.inr 1826)]) rfl ?_
        refine h_puti (i := 437) (ci := 13) (k := 53) (a := 1826) (x := 0) rfl rfl rfl rfl rfl rfl (by decide) (by decide) ?_
        refine h_run 2 (pc' := 17) (l' := [(0, .inr (.inr 1826)), (1, .inl (l : Int)), (2, .inl bb), (3, .inl (s : Int)), (4, .inl 0)]) (st' := []) rfl ?_
        exact ih.2.1 _ bb s 0 (1) (0) (fr_o hf (by decide)) hbb (by omega) (by omega) (by omega : (0 : Int) = ((0) : Int)) (by omega) (by rw [show ((H.1 1843) (2 * l + s)).toNat - 0 = k9 by omega, lv1]; exact kk3) rfl (by omega : 1000000 - 100000 * s - 100 - 100 * 0 < w)
    · intro H1 bb s i m p hf hbb hs hi hms hp6 hrest htp hw
      refine h_rng (fun hrg7 => ?_)
      obtain ⟨⟨pb1, pb2, pb3, pb4, pb5⟩, pw1, pw2, pw3, pw4⟩ := (id hP : PW H (H.1 1826 1) (H.1 1826 3) (H.1 1826 8) (H.1 1826 13) (H.1 1826 19))
      obtain ⟨v9, ⟨lv1, lv2⟩, lv3, lv4⟩ := pw4 l (by omega)
      obtain ⟨k9, ⟨kk1, kk2⟩, kk3⟩ := lv4 s (by omega)
      refine h_run 8 (pc' := 28) (l' := [(0, .inr (.inr 1826)), (1, .inl (l : Int)), (2, .inl bb), (3, .inl (s : Int)), (4, .inl (i : Int))]) (st' := [.inl ((2 * (l : Int)) + (s : Int)), .inr (.inr 1843), .inl (i : Int)]) rfl ?_
      refine h_ild (c := 1843) (j := ((2 * l) + s)) (i := ((2 * (l : Int)) + (s : Int))) rfl rfl (by decide) (by omega) (by omega) ?_
      have g8 : -2147483648 ≤ (H1.1 1843 ((2 * l) + s)) ∧ (H1.1 1843 ((2 * l) + s)) ≤ 2147483647 := hrg7.2 1843 ((2 * l) + s) 32 .int rfl (by omega)
      have e9 : (H1.1 1843 ((2 * l) + s)) = (H.1 1843 ((2 * l) + s)) := congrFun (hf.2.1 1843 (by decide) (by decide)) ((2 * l) + s)
      refine h_run 0 (pc' := 29) (l' := [(0, .inr (.inr 1826)), (1, .inl (l : Int)), (2, .inl bb), (3, .inl (s : Int)), (4, .inl (i : Int))]) (st' := [.inl (H1.1 1843 ((2 * l) + s)), .inl (i : Int)]) rfl ?_
      refine h_ige (off := 146) (t := 175) rfl rfl (by omega) (by omega) (fun c10 => ?_) (fun c10 => ?_)
      · have hm0 : m = 0 := by have h9 := hrest; rw [show ((H.1 1843) (2 * l + s)).toNat - i = 0 by omega] at h9; exact h9
        refine h_run 3 (pc' := 180) (l' := [(0, .inr (.inr 1826)), (1, .inl (l : Int)), (2, .inl bb), (3, .inl (s : Int)), (4, .inl (i : Int))]) (st' := [.inl (H1.1 1826 53), .inr (.inr 1826)]) rfl ?_
        have g11 : -2147483648 ≤ (H1.1 1826 53) ∧ (H1.1 1826 53) ≤ 2147483647 := hrg7.1 1826 13 53 _ .int rfl rfl
        refine h_puti (i := 447) (ci := 13) (k := 55) (a := 1826) (x := (H1.1 1826 53)) rfl rfl rfl rfl rfl rfl (by decide) (by omega) ?_
        refine h_run 2 (pc' := 186) (l' := [(0, .inr (.inr 1826)), (1, .inl (l : Int)), (2, .inl bb), (3, .inl (s : Int)), (4, .inl 0)]) (st' := []) rfl ?_
        exact ih.2.2.2.1 _ bb s 0 (p) (fr_o hf (by decide)) hbb (by omega) (by omega) (by omega : (H1.1 1826 53) = ((p) : Int)) (by omega : (H1.1 1826 53) = ((p) : Int)) (tp_tm (by have h9 := htp; rw [hm0] at h9; exact h9)) (fun _ h8 => absurd h8 (Nat.not_lt_zero _)) (by omega : 1000000 - 100000 * s - 10000 - 0 < w)
      · refine h_run 11 (pc' := 47) (l' := [(0, .inr (.inr 1826)), (1, .inl (l : Int)), (2, .inl bb), (3, .inl (s : Int)), (4, .inl (i : Int))]) (st' := [.inl ((48 * ((2 * (l : Int)) + (s : Int))) + (i : Int)), .inr (.inr 1842)]) rfl ?_
        refine h_ild (c := 1842) (j := ((48 * ((2 * l) + s)) + i)) (i := ((48 * ((2 * (l : Int)) + (s : Int))) + (i : Int))) rfl rfl (by decide) (by omega) (by omega) ?_
        have g12 : -2147483648 ≤ (H1.1 1842 ((48 * ((2 * l) + s)) + i)) ∧ (H1.1 1842 ((48 * ((2 * l) + s)) + i)) ≤ 2147483647 := hrg7.2 1842 ((48 * ((2 * l) + s)) + i) 1536 .int rfl (by omega)
        have e13 : (H1.1 1842 ((48 * ((2 * l) + s)) + i)) = (H.1 1842 ((48 * ((2 * l) + s)) + i)) := congrFun (hf.2.1 1842 (by decide) (by decide)) ((48 * ((2 * l) + s)) + i)
        refine h_run 0 (pc' := 48) (l' := [(0, .inr (.inr 1826)), (1, .inl (l : Int)), (2, .inl bb), (3, .inl (s : Int)), (4, .inl (i : Int))]) (st' := [.inl (H1.1 1842 ((48 * ((2 * l) + s)) + i))]) rfl ?_
        refine h_run 1 (pc' := 50) (l' := [(0, .inr (.inr 1826)), (1, .inl (l : Int)), (2, .inl bb), (3, .inl (s : Int)), (4, .inl (i : Int)), (5, .inl (H1.1 1842 ((48 * ((2 * l) + s)) + i)))]) (st' := []) rfl ?_
        obtain ⟨hm0, hsg, q9, q91, q92, q93⟩ := tm_1 hrest (by omega)
        have hsg1 := hsg
        unfold m_sg at hsg1
        refine h_run 2 (pc' := 55) (l' := [(0, .inr (.inr 1826)), (1, .inl (l : Int)), (2, .inl bb), (3, .inl (s : Int)), (4, .inl (i : Int)), (5, .inl (H1.1 1842 ((48 * ((2 * l) + s)) + i)))]) (st' := [.inl 1000, .inl (H1.1 1842 ((48 * ((2 * l) + s)) + i))]) rfl ?_
        refine h_ilt (off := 93) (t := 148) rfl rfl (by omega) (by decide) (fun c14 => ?_) (fun c14 => ?_)
        · have hsg0 : m_sg (H.1 1826 3) (H.1 1826 8) 0 ((H.1 1842) (48 * (2 * l + s) + i)) := by unfold m_sg; omega
          have heL : (H1.1 1842) (48 * (2 * l + s) + i) = (H.1 1842) (48 * (2 * l + s) + i) := congrFun (hf.2.1 1842 (by decide) (by decide)) _
          refine h_run 4 (pc' := 156) (l' := [(0, .inr (.inr 1826)), (1, .inl (l : Int)), (2, .inl bb), (3, .inl (s : Int)), (4, .inl (i : Int)), (5, .inl (H1.1 1842 ((48 * ((2 * l) + s)) + i)))]) (st' := [.inl (H1.1 1826 53), .inr (.inr 1856)]) rfl ?_
          have g15 : -2147483648 ≤ (H1.1 1826 53) ∧ (H1.1 1826 53) ≤ 2147483647 := hrg7.1 1826 13 53 _ .int rfl rfl
          rw [show (H1.1 1826 53) = (p : Int) by omega]
          refine h_run 1 (pc' := 158) (l' := [(0, .inr (.inr 1826)), (1, .inl (l : Int)), (2, .inl bb), (3, .inl (s : Int)), (4, .inl (i : Int)), (5, .inl (H1.1 1842 ((48 * ((2 * l) + s)) + i)))]) (st' := [.inl (H1.1 1842 ((48 * ((2 * l) + s)) + i)), .inl (p : Int), .inr (.inr 1856)]) rfl ?_
          refine h_ist (c := 1856) (j := p) (i := (p : Int)) (x := (H1.1 1842 ((48 * ((2 * l) + s)) + i))) rfl rfl (by decide) (by decide) rfl (by omega) (by omega) ?_
          refine h_run 3 (pc' := 164) (l' := [(0, .inr (.inr 1826)), (1, .inl (l : Int)), (2, .inl bb), (3, .inl (s : Int)), (4, .inl (i : Int)), (5, .inl (H1.1 1842 ((48 * ((2 * l) + s)) + i)))]) (st' := [.inl (H1.1 1826 53), .inr (.inr 1826)]) rfl ?_
          refine h_run 2 (pc' := 166) (l' := [(0, .inr (.inr 1826)), (1, .inl (l : Int)), (2, .inl bb), (3, .inl (s : Int)), (4, .inl (i : Int)), (5, .inl (H1.1 1842 ((48 * ((2 * l) + s)) + i)))]) (st' := [.inl ((H1.1 1826 53) + 1), .inr (.inr 1826)]) rfl ?_
          refine h_puti (i := 437) (ci := 13) (k := 53) (a := 1826) (x := ((H1.1 1826 53) + 1)) rfl rfl rfl rfl rfl rfl (by decide) (by omega) ?_
          refine h_run 2 (pc' := 17) (l' := [(0, .inr (.inr 1826)), (1, .inl (l : Int)), (2, .inl bb), (3, .inl (s : Int)), (4, .inl ((i : Int) + 1)), (5, .inl (H1.1 1842 ((48 * ((2 * l) + s)) + i)))]) (st' := []) rfl ?_
          refine h_loc [0, 1, 2, 3, 4] rfl ?_
          rw [show ((i : Int) + 1) = (((i + 1) : Nat) : Int) by omega]
          exact ih.2.1 _ bb s (i + 1) (m - 1 + q9) (p + 1) (fr_o (fr_a hf (by decide)) (by decide)) hbb (by omega) (by omega) (by omega : ((H1.1 1826 53) + 1) = ((p + 1) : Int)) (by omega) (by rw [show ((H.1 1843) (2 * l + s)).toNat - (i + 1) = ((H.1 1843) (2 * l + s)).toNat - i - 1 by omega]; exact q93) (tp_push htp hm0 (by rw [heL]; exact hsg0) (by rw [heL]; exact q91) q92) (by omega : 1000000 - 100000 * s - 100 - 100 * (i + 1) < w)
        · refine h_run 4 (pc' := 66) (l' := [(0, .inr (.inr 1826)), (1, .inl (l : Int)), (2, .inl bb), (3, .inl (s : Int)), (4, .inl (i : Int)), (5, .inl (H1.1 1842 ((48 * ((2 * l) + s)) + i))), (6, .inl ((H1.1 1842 ((48 * ((2 * l) + s)) + i)) - 1000))]) (st' := []) rfl ?_
          rw [ma_0 (Or.inl (by omega))] at q91
          have hq0 : q9 = 0 := by omega
          obtain ⟨vv, hvv⟩ : ∃ k9 : Nat, ((H1.1 1842 ((48 * ((2 * l) + s)) + i)) - 1000) = (k9 : Int) := ⟨(((H1.1 1842 ((48 * ((2 * l) + s)) + i)) - 1000)).toNat, by omega⟩
          rw [show ((H1.1 1842 ((48 * ((2 * l) + s)) + i)) - 1000) = (vv : Int) from hvv]
          have hlt := lv3 vv (by omega)
          have hnw := hN vv (by omega)
          obtain ⟨tt, htt⟩ : ∃ q8 : Nat, (H.1 1846) (6 * l + vv) = (q8 : Int) := ⟨((H.1 1846) (6 * l + vv)).toNat, by omega⟩
          rw [htt, Int.toNat_natCast] at hnw
          obtain ⟨nn, hnn⟩ : ∃ q8 : Nat, (H.1 1868) vv = (q8 : Int) := ⟨((H.1 1868) vv).toNat, by omega⟩
          obtain ⟨mv, mv1, mv2, mv3⟩ := hV tt (by omega)
          obtain ⟨kv, kv1, kv2, kv3⟩ := mv3 nn (by omega)
          refine h_run 8 (pc' := 80) (l' := [(0, .inr (.inr 1826)), (1, .inl (l : Int)), (2, .inl bb), (3, .inl (s : Int)), (4, .inl (i : Int)), (5, .inl (H1.1 1842 ((48 * ((2 * l) + s)) + i))), (6, .inl (vv : Int))]) (st' := [.inl ((6 * (l : Int)) + (vv : Int)), .inr (.inr 1846), .inl 2001]) rfl ?_
          refine h_ild (c := 1846) (j := ((6 * l) + vv)) (i := ((6 * (l : Int)) + (vv : Int))) rfl rfl (by decide) (by omega) (by omega) ?_
          have g16 : -2147483648 ≤ (H1.1 1846 ((6 * l) + vv)) ∧ (H1.1 1846 ((6 * l) + vv)) ≤ 2147483647 := hrg7.2 1846 ((6 * l) + vv) 96 .int rfl (by omega)
          have e17 : (H1.1 1846 ((6 * l) + vv)) = (H.1 1846 ((6 * l) + vv)) := congrFun (hf.2.1 1846 (by decide) (by decide)) ((6 * l) + vv)
          refine h_run 0 (pc' := 81) (l' := [(0, .inr (.inr 1826)), (1, .inl (l : Int)), (2, .inl bb), (3, .inl (s : Int)), (4, .inl (i : Int)), (5, .inl (H1.1 1842 ((48 * ((2 * l) + s)) + i))), (6, .inl (vv : Int))]) (st' := [.inl (H1.1 1846 ((6 * l) + vv)), .inl 2001]) rfl ?_
          refine h_run 4 (pc' := 88) (l' := [(0, .inr (.inr 1826)), (1, .inl (l : Int)), (2, .inl bb), (3, .inl (s : Int)), (4, .inl (i : Int)), (5, .inl (H1.1 1842 ((48 * ((2 * l) + s)) + i))), (6, .inl (vv : Int))]) (st' := [.inl (vv : Int), .inr (.inr 1868), .inl (2001 * (H1.1 1846 ((6 * l) + vv)))]) rfl ?_
          refine h_ild (c := 1868) (j := vv) (i := (vv : Int)) rfl rfl (by decide) rfl (by omega) ?_
          have g18 : -2147483648 ≤ (H1.1 1868 vv) ∧ (H1.1 1868 vv) ≤ 2147483647 := hrg7.2 1868 vv 6 .int rfl (by omega)
          have e19 : (H1.1 1868 vv) = (H.1 1868 vv) := congrFun (hf.2.1 1868 (by decide) (by decide)) vv
          refine h_run 0 (pc' := 89) (l' := [(0, .inr (.inr 1826)), (1, .inl (l : Int)), (2, .inl bb), (3, .inl (s : Int)), (4, .inl (i : Int)), (5, .inl (H1.1 1842 ((48 * ((2 * l) + s)) + i))), (6, .inl (vv : Int))]) (st' := [.inl (H1.1 1868 vv), .inl (2001 * (H1.1 1846 ((6 * l) + vv)))]) rfl ?_
          refine h_run 2 (pc' := 92) (l' := [(0, .inr (.inr 1826)), (1, .inl (l : Int)), (2, .inl bb), (3, .inl (s : Int)), (4, .inl (i : Int)), (5, .inl (H1.1 1842 ((48 * ((2 * l) + s)) + i))), (6, .inl (vv : Int)), (7, .inl ((2001 * (H1.1 1846 ((6 * l) + vv))) + (H1.1 1868 vv)))]) (st' := []) rfl ?_
          have hel9 : (H1.1 1846) (6 * l + vv) = (H.1 1846) (6 * l + vv) := congrFun (hf.2.1 1846 (by decide) (by decide)) _
          have hen9 : (H1.1 1868) vv = (H.1 1868) vv := congrFun (hf.2.1 1868 (by decide) (by decide)) _
          refine h_run 2 (pc' := 95) (l' := [(0, .inr (.inr 1826)), (1, .inl (l : Int)), (2, .inl bb), (3, .inl (s : Int)), (4, .inl (i : Int)), (5, .inl (H1.1 1842 ((48 * ((2 * l) + s)) + i))), (6, .inl (vv : Int)), (7, .inl ((2001 * (H1.1 1846 ((6 * l) + vv))) + (H1.1 1868 vv))), (8, .inl 0)]) (st' := []) rfl ?_
          have g20 : -2147483648 ≤ (H1.1 1826 53) ∧ (H1.1 1826 53) ≤ 2147483647 := hrg7.1 1826 13 53 _ .int rfl rfl
          refine h_loc [0, 1, 2, 3, 4, 7, 8] rfl ?_
          rw [show ((2001 * (H1.1 1846 ((6 * l) + vv))) + (H1.1 1868 vv)) = (((((2001 * (H1.1 1846 ((6 * l) + vv))) + (H1.1 1868 vv))).toNat : Nat) : Int) by omega]
          exact ih.2.2.1 _ bb s i (((2001 * (H1.1 1846 ((6 * l) + vv))) + (H1.1 1868 vv))).toNat 0 (m - 1) (p) (kv) hf hbb (by omega) (by omega) (by omega) (by omega : (H1.1 1826 53) = (((p) + 0 : Nat) : Int)) (by omega) (by omega) ⟨by rw [show (2001 * _ + _ : Int).toNat = 2001 * tt + nn by omega]; exact kv1, kv2⟩ (by rw [show (2001 * _ + _ : Int).toNat = 2001 * tt + nn by omega]; exact kv3) (by rw [show ((H.1 1843) (2 * l + s)).toNat - (i + 1) = ((H.1 1843) (2 * l + s)).toNat - i - 1 by omega]; have h9 := q93; rw [hq0, Nat.add_zero] at h9; exact h9) (by rw [show m - 1 + 1 = m by omega]; exact htp) (fun _ h8 => absurd h8 (Nat.not_lt_zero _)) (by omega : 1000000 - 100000 * s - 100 - 100 * i - 10 - 0 < w)
    · intro H1 bb s i q x m p z hf hbb hs hi hx hms hp6 hq hz hvt hrest htp hcp hw
      refine h_rng (fun hrg21 => ?_)
      obtain ⟨⟨pb1, pb2, pb3, pb4, pb5⟩, pw1, pw2, pw3, pw4⟩ := (id hP : PW H (H.1 1826 1) (H.1 1826 3) (H.1 1826 8) (H.1 1826 13) (H.1 1826 19))
      obtain ⟨v9, ⟨lv1, lv2⟩, lv3, lv4⟩ := pw4 l (by omega)
      obtain ⟨k9, ⟨kk1, kk2⟩, kk3⟩ := lv4 s (by omega)
      refine h_run 4 (pc' := 103) (l' := [(0, .inr (.inr 1826)), (1, .inl (l : Int)), (2, .inl bb), (3, .inl (s : Int)), (4, .inl (i : Int)), (7, .inl (q : Int)), (8, .inl (x : Int))]) (st' := [.inl (q : Int), .inr (.inr 1862), .inl (x : Int)]) rfl ?_
      refine h_ild (c := 1862) (j := q) (i := (q : Int)) rfl rfl (by decide) rfl (by omega) ?_
      have g22 : -2147483648 ≤ (H1.1 1862 q) ∧ (H1.1 1862 q) ≤ 2147483647 := hrg21.2 1862 q 12006 .int rfl (by omega)
      have e23 : (H1.1 1862 q) = (H.1 1862 q) := congrFun (hf.2.1 1862 (by decide) (by decide)) q
      refine h_run 0 (pc' := 104) (l' := [(0, .inr (.inr 1826)), (1, .inl (l : Int)), (2, .inl bb), (3, .inl (s : Int)), (4, .inl (i : Int)), (7, .inl (q : Int)), (8, .inl (x : Int))]) (st' := [.inl (H1.1 1862 q), .inl (x : Int)]) rfl ?_
      refine h_ige (off := 41) (t := 145) rfl rfl (by omega) (by omega) (fun c24 => ?_) (fun c24 => ?_)
      · refine h_run 3 (pc' := 17) (l' := [(0, .inr (.inr 1826)), (1, .inl (l : Int)), (2, .inl bb), (3, .inl (s : Int)), (4, .inl ((i : Int) + 1)), (7, .inl (q : Int)), (8, .inl (x : Int))]) (st' := []) rfl ?_
        have g25 : -2147483648 ≤ (H1.1 1826 53) ∧ (H1.1 1826 53) ≤ 2147483647 := hrg21.1 1826 13 53 _ .int rfl rfl
        refine h_loc [0, 1, 2, 3, 4] rfl ?_
        rw [show ((i : Int) + 1) = (((i + 1) : Nat) : Int) by omega]
        exact ih.2.1 _ bb s (i + 1) (m) (p + z) hf hbb (by omega) (by omega) (by omega : (H1.1 1826 53) = ((p + z) : Int)) (by omega) hrest (tp_term htp (tm_at hvt (fun y8 h8 => by rw [Nat.zero_add]; exact hcp y8 (by omega)))) (by omega : 1000000 - 100000 * s - 100 - 100 * (i + 1) < w)
      · refine h_run 4 (pc' := 115) (l' := [(0, .inr (.inr 1826)), (1, .inl (l : Int)), (2, .inl bb), (3, .inl (s : Int)), (4, .inl (i : Int)), (7, .inl (q : Int)), (8, .inl (x : Int))]) (st' := [.inl (H1.1 1826 53), .inr (.inr 1856)]) rfl ?_
        have g26 : -2147483648 ≤ (H1.1 1826 53) ∧ (H1.1 1826 53) ≤ 2147483647 := hrg21.1 1826 13 53 _ .int rfl rfl
        rw [show (H1.1 1826 53) = ((p + x : Nat) : Int) from (by omega)]
        refine h_run 7 (pc' := 127) (l' := [(0, .inr (.inr 1826)), (1, .inl (l : Int)), (2, .inl bb), (3, .inl (s : Int)), (4, .inl (i : Int)), (7, .inl (q : Int)), (8, .inl (x : Int))]) (st' := [.inl ((7 * (q : Int)) + (x : Int)), .inr (.inr 1861), .inl ((p + x : Nat) : Int), .inr (.inr 1856)]) rfl ?_
        refine h_ild (c := 1861) (j := ((7 * q) + x)) (i := ((7 * (q : Int)) + (x : Int))) rfl rfl (by decide) (by omega) (by omega) ?_
        have g27 : -2147483648 ≤ (H1.1 1861 ((7 * q) + x)) ∧ (H1.1 1861 ((7 * q) + x)) ≤ 2147483647 := hrg21.2 1861 ((7 * q) + x) 84042 .int rfl (by omega)
        have e28 : (H1.1 1861 ((7 * q) + x)) = (H.1 1861 ((7 * q) + x)) := congrFun (hf.2.1 1861 (by decide) (by decide)) ((7 * q) + x)
        refine h_run 0 (pc' := 128) (l' := [(0, .inr (.inr 1826)), (1, .inl (l : Int)), (2, .inl bb), (3, .inl (s : Int)), (4, .inl (i : Int)), (7, .inl (q : Int)), (8, .inl (x : Int))]) (st' := [.inl (H1.1 1861 ((7 * q) + x)), .inl ((p + x : Nat) : Int), .inr (.inr 1856)]) rfl ?_
        refine h_ist (c := 1856) (j := (p + x)) (i := ((p + x : Nat) : Int)) (x := (H1.1 1861 ((7 * q) + x))) rfl rfl (by decide) (by decide) rfl (by omega) (by omega) ?_
        refine h_run 3 (pc' := 134) (l' := [(0, .inr (.inr 1826)), (1, .inl (l : Int)), (2, .inl bb), (3, .inl (s : Int)), (4, .inl (i : Int)), (7, .inl (q : Int)), (8, .inl (x : Int))]) (st' := [.inl (H1.1 1826 53), .inr (.inr 1826)]) rfl ?_
        refine h_run 2 (pc' := 136) (l' := [(0, .inr (.inr 1826)), (1, .inl (l : Int)), (2, .inl bb), (3, .inl (s : Int)), (4, .inl (i : Int)), (7, .inl (q : Int)), (8, .inl (x : Int))]) (st' := [.inl ((H1.1 1826 53) + 1), .inr (.inr 1826)]) rfl ?_
        refine h_puti (i := 437) (ci := 13) (k := 53) (a := 1826) (x := ((H1.1 1826 53) + 1)) rfl rfl rfl rfl rfl rfl (by decide) (by omega) ?_
        refine h_run 2 (pc' := 95) (l' := [(0, .inr (.inr 1826)), (1, .inl (l : Int)), (2, .inl bb), (3, .inl (s : Int)), (4, .inl (i : Int)), (7, .inl (q : Int)), (8, .inl ((x : Int) + 1))]) (st' := []) rfl ?_
        rw [show ((x : Int) + 1) = (((x + 1) : Nat) : Int) by omega]
        exact ih.2.2.1 _ bb s i q (x + 1) (m) (p) (z) (fr_o (fr_a hf (by decide)) (by decide)) hbb (by omega) (by omega) (by omega) (by omega : ((H1.1 1826 53) + 1) = (((p) + (x + 1) : Nat) : Int)) (by omega) (by omega) hz hvt hrest (tp_up htp (by omega)) (pv_up hcp (by omega) (congrFun (hf.2.1 1861 (by decide) (by decide)) _)) (by omega : 1000000 - 100000 * s - 100 - 100 * i - 10 - (x + 1) < w)
    · intro H1 bb s i p hf hbb hs hi hms hts htm hcp hw
      refine h_rng (fun hrg29 => ?_)
      obtain ⟨⟨pb1, pb2, pb3, pb4, pb5⟩, pw1, pw2, pw3, pw4⟩ := (id hP : PW H (H.1 1826 1) (H.1 1826 3) (H.1 1826 8) (H.1 1826 13) (H.1 1826 19))
      obtain ⟨v9, ⟨lv1, lv2⟩, lv3, lv4⟩ := pw4 l (by omega)
      obtain ⟨k9, ⟨kk1, kk2⟩, kk3⟩ := lv4 s (by omega)
      refine h_run 3 (pc' := 192) (l' := [(0, .inr (.inr 1826)), (1, .inl (l : Int)), (2, .inl bb), (3, .inl (s : Int)), (4, .inl (i : Int))]) (st' := [.inl (H1.1 1826 53), .inl (i : Int)]) rfl ?_
      have g30 : -2147483648 ≤ (H1.1 1826 53) ∧ (H1.1 1826 53) ≤ 2147483647 := hrg29.1 1826 13 53 _ .int rfl rfl
      refine h_ige (off := 23) (t := 215) rfl rfl (by omega) (by omega) (fun c31 => ?_) (fun c31 => ?_)
      · refine h_run 3 (pc' := 220) (l' := [(0, .inr (.inr 1826)), (1, .inl (l : Int)), (2, .inl bb), (3, .inl (s : Int)), (4, .inl (i : Int))]) (st' := [.inl 300, .inr (.inr 1826), .inl bb]) rfl ?_
        have qe1 : (H1.1 1826 1) = (H.1 1826 1) := hf.2.2 1 (by decide)
        have qe2 : (H1.1 1826 3) = (H.1 1826 3) := hf.2.2 3 (by decide)
        have qe3 : (H1.1 1826 8) = (H.1 1826 8) := hf.2.2 8 (by decide)
        have qe4 : (H1.1 1833) = (H.1 1833) := hf.2.1 1833 (by decide) (by decide)
        have qe5 : (H1.1 1830) = (H.1 1830) := hf.2.1 1830 (by decide) (by decide)
        have hP1 : PWc H1 := PWc_fr hP hf (by decide) (by decide)
        refine h_cv (i := 460) (j := 200) (b := 1826) (M' := mt_200) (xs := [.inl 300]) (rest := [.inl bb]) rfl rfl rfl rfl rfl rfl (Nat.le_of_ble_eq_true rfl) (Nat.le_of_ble_eq_true rfl) (by omega) (m_run (N := p) (by omega) (by decide) hP1 ⟨hts, by omega⟩ (by rw [qe4, qe5, qe2, qe3]; exact tm_at htm (fun y8 h8 => by rw [Nat.zero_add]; exact hcp y8 (by omega)))) ?_
        rintro _ H32 ⟨hfH32, rH32, rfl, bH32, ⟨MH32, MH321, MH322, -⟩, -⟩
        refine h_rng (fun hrg33 => ?_)
        have hf34 : fr [50, 51, 53, 55, 56, 72] [1855, 1856, 1857, 1869] H H32 := fr_t hf hfH32 (by decide) (by decide)
        refine h_run 0 (pc' := 223) (l' := [(0, .inr (.inr 1826)), (1, .inl (l : Int)), (2, .inl bb), (3, .inl (s : Int)), (4, .inl (i : Int))]) (st' := [.inl rH32, .inl bb]) rfl ?_
        refine h_zne (off := 7) (t := 230) rfl rfl (by omega) (fun c35 => ?_) (fun c35 => ?_)
        · refine h_run 4 (pc' := 234) (l' := [(0, .inr (.inr 1826)), (1, .inl (l : Int)), (2, .inl (z_and bb 0)), (3, .inl (s : Int)), (4, .inl (i : Int))]) (st' := [.inl (s : Int)]) rfl ?_
          refine h_zne (off := 43) (t := 277) rfl rfl (by omega) (fun c36 => ?_) (fun c36 => ?_)
          · refine h_run 2 (pc' := 4) (l' := [(0, .inr (.inr 1826)), (1, .inl (l : Int)), (2, .inl (z_and bb 0)), (3, .inl ((s : Int) + 1)), (4, .inl (i : Int))]) (st' := []) rfl ?_
            have g37 : -2147483648 ≤ (H32.1 1826 55) ∧ (H32.1 1826 55) ≤ 2147483647 := hrg33.1 1826 13 55 _ .int rfl rfl
            refine h_loc [0, 1, 2, 3] rfl ?_
            rw [show ((s : Int) + 1) = (((s + 1) : Nat) : Int) by omega]
            exact ih.1 _ (z_and bb 0) (s + 1) hf34 (z_int _) (by omega) (fun _ => (by omega : 0 ≤ (H32.1 1826 55) ∧ (H32.1 1826 55) ≤ 240)) (by omega : 1000000 - 100000 * (s + 1) < w)
          · refine h_run 3 (pc' := 242) (l' := [(0, .inr (.inr 1826)), (1, .inl (l : Int)), (2, .inl (z_and bb 0)), (3, .inl (s : Int)), (4, .inl (i : Int))]) (st' := [.inl (H32.1 1826 55), .inr (.inr 1826)]) rfl ?_
            have g38 : -2147483648 ≤ (H32.1 1826 55) ∧ (H32.1 1826 55) ≤ 2147483647 := hrg33.1 1826 13 55 _ .int rfl rfl
            refine h_puti (i := 525) (ci := 13) (k := 72) (a := 1826) (x := (H32.1 1826 55)) rfl rfl rfl rfl rfl rfl (by decide) (by omega) ?_
            refine h_run 2 (pc' := 248) (l' := [(0, .inr (.inr 1826)), (1, .inl (l : Int)), (2, .inl (z_and bb 0)), (3, .inl (s : Int)), (4, .inl 0)]) (st' := []) rfl ?_
            exact ih.2.2.2.2.1 _ (z_and bb 0) s 0 (fr_o hf34 (by decide)) (z_int _) (by omega) (by omega : 0 ≤ (H32.1 1826 55) ∧ (H32.1 1826 55) ≤ 240) (by omega) (by omega : 1000000 - 100000 * s - 20000 - 0 < w)
        · refine h_run 5 (pc' := 234) (l' := [(0, .inr (.inr 1826)), (1, .inl (l : Int)), (2, .inl (z_and bb 1)), (3, .inl (s : Int)), (4, .inl (i : Int))]) (st' := [.inl (s : Int)]) rfl ?_
          refine h_zne (off := 43) (t := 277) rfl rfl (by omega) (fun c39 => ?_) (fun c39 => ?_)
          · refine h_run 2 (pc' := 4) (l' := [(0, .inr (.inr 1826)), (1, .inl (l : Int)), (2, .inl (z_and bb 1)), (3, .inl ((s : Int) + 1)), (4, .inl (i : Int))]) (st' := []) rfl ?_
            have g40 : -2147483648 ≤ (H32.1 1826 55) ∧ (H32.1 1826 55) ≤ 2147483647 := hrg33.1 1826 13 55 _ .int rfl rfl
            refine h_loc [0, 1, 2, 3] rfl ?_
            rw [show ((s : Int) + 1) = (((s + 1) : Nat) : Int) by omega]
            exact ih.1 _ (z_and bb 1) (s + 1) hf34 (z_int _) (by omega) (fun _ => (by omega : 0 ≤ (H32.1 1826 55) ∧ (H32.1 1826 55) ≤ 240)) (by omega : 1000000 - 100000 * (s + 1) < w)
          · refine h_run 3 (pc' := 242) (l' := [(0, .inr (.inr 1826)), (1, .inl (l : Int)), (2, .inl (z_and bb 1)), (3, .inl (s : Int)), (4, .inl (i : Int))]) (st' := [.inl (H32.1 1826 55), .inr (.inr 1826)]) rfl ?_
            have g41 : -2147483648 ≤ (H32.1 1826 55) ∧ (H32.1 1826 55) ≤ 2147483647 := hrg33.1 1826 13 55 _ .int rfl rfl
            refine h_puti (i := 525) (ci := 13) (k := 72) (a := 1826) (x := (H32.1 1826 55)) rfl rfl rfl rfl rfl rfl (by decide) (by omega) ?_
            refine h_run 2 (pc' := 248) (l' := [(0, .inr (.inr 1826)), (1, .inl (l : Int)), (2, .inl (z_and bb 1)), (3, .inl (s : Int)), (4, .inl 0)]) (st' := []) rfl ?_
            exact ih.2.2.2.2.1 _ (z_and bb 1) s 0 (fr_o hf34 (by decide)) (z_int _) (by omega) (by omega : 0 ≤ (H32.1 1826 55) ∧ (H32.1 1826 55) ≤ 240) (by omega) (by omega : 1000000 - 100000 * s - 20000 - 0 < w)
      · refine h_run 6 (pc' := 207) (l' := [(0, .inr (.inr 1826)), (1, .inl (l : Int)), (2, .inl bb), (3, .inl (s : Int)), (4, .inl (i : Int))]) (st' := [.inl (i : Int), .inr (.inr 1856), .inl (i : Int), .inr (.inr 1857)]) rfl ?_
        refine h_ild (c := 1856) (j := i) (i := (i : Int)) rfl rfl (by decide) rfl (by omega) ?_
        have g42 : -2147483648 ≤ (H1.1 1856 i) ∧ (H1.1 1856 i) ≤ 2147483647 := hrg29.2 1856 i 12000 .int rfl (by omega)
        refine h_run 0 (pc' := 208) (l' := [(0, .inr (.inr 1826)), (1, .inl (l : Int)), (2, .inl bb), (3, .inl (s : Int)), (4, .inl (i : Int))]) (st' := [.inl (H1.1 1856 i), .inl (i : Int), .inr (.inr 1857)]) rfl ?_
        refine h_ist (c := 1857) (j := i) (i := (i : Int)) (x := (H1.1 1856 i)) rfl rfl (by decide) (by decide) rfl (by omega) (by omega) ?_
        refine h_run 2 (pc' := 186) (l' := [(0, .inr (.inr 1826)), (1, .inl (l : Int)), (2, .inl bb), (3, .inl (s : Int)), (4, .inl ((i : Int) + 1))]) (st' := []) rfl ?_
        have g43 : -2147483648 ≤ (H1.1 1826 55) ∧ (H1.1 1826 55) ≤ 2147483647 := hrg29.1 1826 13 55 _ .int rfl rfl
        rw [show ((i : Int) + 1) = (((i + 1) : Nat) : Int) by omega]
        exact ih.2.2.2.1 _ bb s (i + 1) (p) (fr_a hf (by decide)) hbb (by omega) (by omega) (by omega : (H1.1 1826 53) = ((p) : Int)) (by omega : (H1.1 1826 55) = ((p) : Int)) htm (cp_u2 hcp rfl rfl) (by omega : 1000000 - 100000 * s - 10000 - (i + 1) < w)
    · intro H1 bb s i hf hbb hs hts hi hw
      refine h_rng (fun hrg44 => ?_)
      obtain ⟨⟨pb1, pb2, pb3, pb4, pb5⟩, pw1, pw2, pw3, pw4⟩ := (id hP : PW H (H.1 1826 1) (H.1 1826 3) (H.1 1826 8) (H.1 1826 13) (H.1 1826 19))
      obtain ⟨v9, ⟨lv1, lv2⟩, lv3, lv4⟩ := pw4 l (by omega)
      obtain ⟨k9, ⟨kk1, kk2⟩, kk3⟩ := lv4 s (by omega)
      refine h_run 3 (pc' := 254) (l' := [(0, .inr (.inr 1826)), (1, .inl (l : Int)), (2, .inl bb), (3, .inl (s : Int)), (4, .inl (i : Int))]) (st' := [.inl (H1.1 1826 55), .inl (i : Int)]) rfl ?_
      have g45 : -2147483648 ≤ (H1.1 1826 55) ∧ (H1.1 1826 55) ≤ 2147483647 := hrg44.1 1826 13 55 _ .int rfl rfl
      refine h_ige (off := 23) (t := 277) rfl rfl (by omega) (by omega) (fun c46 => ?_) (fun c46 => ?_)
      · refine h_run 2 (pc' := 4) (l' := [(0, .inr (.inr 1826)), (1, .inl (l : Int)), (2, .inl bb), (3, .inl ((s : Int) + 1)), (4, .inl (i : Int))]) (st' := []) rfl ?_
        refine h_loc [0, 1, 2, 3] rfl ?_
        rw [show ((s : Int) + 1) = (((s + 1) : Nat) : Int) by omega]
        exact ih.1 _ bb (s + 1) hf hbb (by omega) (fun _ => (by omega : 0 ≤ (H1.1 1826 55) ∧ (H1.1 1826 55) ≤ 240)) (by omega : 1000000 - 100000 * (s + 1) < w)
      · refine h_run 6 (pc' := 269) (l' := [(0, .inr (.inr 1826)), (1, .inl (l : Int)), (2, .inl bb), (3, .inl (s : Int)), (4, .inl (i : Int))]) (st' := [.inl (i : Int), .inr (.inr 1857), .inl (i : Int), .inr (.inr 1869)]) rfl ?_
        refine h_ild (c := 1857) (j := i) (i := (i : Int)) rfl rfl (by decide) rfl (by omega) ?_
        have g47 : -2147483648 ≤ (H1.1 1857 i) ∧ (H1.1 1857 i) ≤ 2147483647 := hrg44.2 1857 i 400 .int rfl (by omega)
        refine h_run 0 (pc' := 270) (l' := [(0, .inr (.inr 1826)), (1, .inl (l : Int)), (2, .inl bb), (3, .inl (s : Int)), (4, .inl (i : Int))]) (st' := [.inl (H1.1 1857 i), .inl (i : Int), .inr (.inr 1869)]) rfl ?_
        refine h_ist (c := 1869) (j := i) (i := (i : Int)) (x := (H1.1 1857 i)) rfl rfl (by decide) (by decide) rfl (by omega) (by omega) ?_
        refine h_run 2 (pc' := 248) (l' := [(0, .inr (.inr 1826)), (1, .inl (l : Int)), (2, .inl bb), (3, .inl (s : Int)), (4, .inl ((i : Int) + 1))]) (st' := []) rfl ?_
        rw [show ((i : Int) + 1) = (((i + 1) : Nat) : Int) by omega]
        exact ih.2.2.2.2.1 _ bb s (i + 1) (fr_a hf (by decide)) hbb (by omega) (by omega : 0 ≤ (H1.1 1826 55) ∧ (H1.1 1826 55) ≤ 240) (by omega) (by omega : 1000000 - 100000 * s - 20000 - (i + 1) < w)
    · intro H1 b3 i hf hb3 hts hi hw
      refine h_rng (fun hrg48 => ?_)
      obtain ⟨⟨pb1, pb2, pb3, pb4, pb5⟩, pw1, pw2, pw3, pw4⟩ := (id hP : PW H (H.1 1826 1) (H.1 1826 3) (H.1 1826 8) (H.1 1826 13) (H.1 1826 19))
      obtain ⟨v9, ⟨lv1, lv2⟩, lv3, lv4⟩ := pw4 l (by omega)
      refine h_run 3 (pc' := 315) (l' := [(0, .inr (.inr 1826)), (1, .inl (l : Int)), (3, .inl b3), (4, .inl (i : Int))]) (st' := [.inl (H1.1 1826 55), .inl (i : Int)]) rfl ?_
      have g49 : -2147483648 ≤ (H1.1 1826 55) ∧ (H1.1 1826 55) ≤ 2147483647 := hrg48.1 1826 13 55 _ .int rfl rfl
      refine h_ige (off := 36) (t := 351) rfl rfl (by omega) (by omega) (fun c50 => ?_) (fun c50 => ?_)
      · refine h_run 1 (pc' := 352) (l' := [(0, .inr (.inr 1826)), (1, .inl (l : Int)), (3, .inl b3), (4, .inl (i : Int))]) (st' := [.inl b3]) rfl ?_
        refine h_zeq (off := 7) (t := 359) rfl rfl (by omega) (fun c51 => ?_) (fun c51 => ?_)
        · refine h_run 1 (pc' := 360) (l' := [(0, .inr (.inr 1826)), (1, .inl (l : Int)), (3, .inl b3), (4, .inl (i : Int))]) (st' := [.inl 1]) rfl ?_
          refine h_reti (x := 1) rfl rfl ?_
          exact ⟨hf, _, rfl, by omega⟩
        · refine h_run 2 (pc' := 360) (l' := [(0, .inr (.inr 1826)), (1, .inl (l : Int)), (3, .inl b3), (4, .inl (i : Int))]) (st' := [.inl 0]) rfl ?_
          refine h_reti (x := 0) rfl rfl ?_
          exact ⟨hf, _, rfl, by omega⟩
      · refine h_run 1 (pc' := 319) (l' := [(0, .inr (.inr 1826)), (1, .inl (l : Int)), (3, .inl b3), (4, .inl (i : Int))]) (st' := [.inl b3]) rfl ?_
        refine h_zeq (off := 32) (t := 351) rfl rfl (by omega) (fun c52 => ?_) (fun c52 => ?_)
        · refine h_run 1 (pc' := 352) (l' := [(0, .inr (.inr 1826)), (1, .inl (l : Int)), (3, .inl b3), (4, .inl (i : Int))]) (st' := [.inl b3]) rfl ?_
          refine h_zeq (off := 7) (t := 359) rfl rfl (by omega) (fun c53 => ?_) (fun c53 => ?_)
          · refine h_run 1 (pc' := 360) (l' := [(0, .inr (.inr 1826)), (1, .inl (l : Int)), (3, .inl b3), (4, .inl (i : Int))]) (st' := [.inl 1]) rfl ?_
            refine h_reti (x := 1) rfl rfl ?_
            exact ⟨hf, _, rfl, by omega⟩
          · exfalso
            omega
        · refine h_run 3 (pc' := 328) (l' := [(0, .inr (.inr 1826)), (1, .inl (l : Int)), (3, .inl b3), (4, .inl (i : Int))]) (st' := [.inl (i : Int), .inr (.inr 1857)]) rfl ?_
          refine h_ild (c := 1857) (j := i) (i := (i : Int)) rfl rfl (by decide) rfl (by omega) ?_
          have g54 : -2147483648 ≤ (H1.1 1857 i) ∧ (H1.1 1857 i) ≤ 2147483647 := hrg48.2 1857 i 400 .int rfl (by omega)
          refine h_run 0 (pc' := 329) (l' := [(0, .inr (.inr 1826)), (1, .inl (l : Int)), (3, .inl b3), (4, .inl (i : Int))]) (st' := [.inl (H1.1 1857 i)]) rfl ?_
          refine h_run 3 (pc' := 335) (l' := [(0, .inr (.inr 1826)), (1, .inl (l : Int)), (3, .inl b3), (4, .inl (i : Int))]) (st' := [.inl (i : Int), .inr (.inr 1869), .inl (H1.1 1857 i)]) rfl ?_
          refine h_ild (c := 1869) (j := i) (i := (i : Int)) rfl rfl (by decide) rfl (by omega) ?_
          have g55 : -2147483648 ≤ (H1.1 1869 i) ∧ (H1.1 1869 i) ≤ 2147483647 := hrg48.2 1869 i 400 .int rfl (by omega)
          refine h_run 0 (pc' := 336) (l' := [(0, .inr (.inr 1826)), (1, .inl (l : Int)), (3, .inl b3), (4, .inl (i : Int))]) (st' := [.inl (H1.1 1869 i), .inl (H1.1 1857 i)]) rfl ?_
          refine h_ine (off := 7) (t := 343) rfl rfl (by omega) (by omega) (fun c56 => ?_) (fun c56 => ?_)
          · refine h_run 4 (pc' := 309) (l' := [(0, .inr (.inr 1826)), (1, .inl (l : Int)), (3, .inl 0), (4, .inl ((i : Int) + 1))]) (st' := []) rfl ?_
            rw [show ((i : Int) + 1) = (((i + 1) : Nat) : Int) by omega]
            exact ih.2.2.2.2.2 _ (0 : Int) (i + 1) hf (by omega) (by omega : 0 ≤ (H1.1 1826 55) ∧ (H1.1 1826 55) ≤ 240) (by omega) (by omega : 1000 - (i + 1) < w)
          · refine h_run 5 (pc' := 309) (l' := [(0, .inr (.inr 1826)), (1, .inl (l : Int)), (3, .inl 1), (4, .inl ((i : Int) + 1))]) (st' := []) rfl ?_
            rw [show ((i : Int) + 1) = (((i + 1) : Nat) : Int) by omega]
            exact ih.2.2.2.2.2 _ (1 : Int) (i + 1) hf (by omega) (by omega : 0 ≤ (H1.1 1826 55) ∧ (H1.1 1826 55) ≤ 240) (by omega) (by omega : 1000 - (i + 1) < w)
set_option maxRecDepth 100000 in
theorem m_row {zC : Nat → Option zsh} {d : Nat} (hd : 7 ≤ d) {H : hp} {l : Nat} (hP : PWc H) (hl : (l : Int) < (H.1 1826 19)) (hV : VK (H.1 1826 1) (H.1 1826 3) (H.1 1826 8) (H.1 1833) (H.1 1830) (H.1 1861) (H.1 1862) (H.1 1863)) (hN : NW ((H.1 1845) l) (H.1 1846) (H.1 1868) (H.1 1863) l) : hG (zs zC) d mt_219 0 (zargs 0 [.inr (.inr 1826), .inl (l : Int)]) [] H (fun r9 H2 => fr [50, 51, 53, 55, 56, 72] [1855, 1856, 1857, 1869] H H2 ∧ ∃ r0 : Int, r9 = some (.inl r0) ∧ 0 ≤ r0 ∧ r0 ≤ 2) := by
  refine h_rng (fun hrg0 => ?_)
  refine h_run 0 (pc' := 0) (l' := [(0, .inr (.inr 1826)), (1, .inl (l : Int))]) (st' := []) rfl ?_
  obtain ⟨⟨pb1, pb2, pb3, pb4, pb5⟩, pw1, pw2, pw3, pw4⟩ := (id hP : PW H (H.1 1826 1) (H.1 1826 3) (H.1 1826 8) (H.1 1826 13) (H.1 1826 19))
  obtain ⟨v9, ⟨lv1, lv2⟩, lv3, lv4⟩ := pw4 l (by omega)
  refine h_run 4 (pc' := 4) (l' := [(0, .inr (.inr 1826)), (1, .inl (l : Int)), (2, .inl 1), (3, .inl 0)]) (st' := []) rfl ?_
  have g57 : -2147483648 ≤ (H.1 1826 55) ∧ (H.1 1826 55) ≤ 2147483647 := hrg0.1 1826 13 55 _ .int rfl rfl
  exact (m_row_cut hd hP hl hV hN _).1 _ (1 : Int) 0 (fr_rf _ _ _) (by decide) (by omega) (fun h9 => absurd h9 (by omega)) (Nat.lt_succ_self _)
