/-! the reference: cases of a call -/
/-! casesOfCall -/
set_option maxRecDepth 100000 in
theorem m_casesOfCall_cut {zC : Nat → Option zsh} {d : Nat} (hd : 4 ≤ d) {H : hp} {n o i cs N : Nat} (hP : PWc H) (hO : OS H H n) (hvv : 0 ≤ (H.1 1826 89) ∧ (H.1 1826 89) ≤ 60) (hpr : 0 ≤ (H.1 1826 74) ∧ (H.1 1826 74) < 16) (ho1 : (H.1 1871) 0 = (o : Int)) (hTi : tm (ma (H.1 1833) (H.1 1830)) (m_sg (H.1 1826 3) (H.1 1826 8) 60) (H.1 1884) cs i 1) (hiN : i + cs ≤ N ∧ N ≤ 60) (hnf : 100 ≤ (H.1 1884) i ∧ (H.1 1884) i < 1000) : ∀ w : Nat, (∀ (H1 : hp) (ty : Int) (se : Int) (k : Nat), (fr [53, 76, 77, 89, 93, 95, 99, 101] [1847, 1856, 1871, 1872, 1873, 1874, 1875, 1876, 1877, 1878, 1879, 1880, 1881, 1882, 1883, 1884, 1885, 1887, 1888] H H1) → (OS H H1 n) → ((H1.1 1826 101) = (cs : Int)) → ((1 ≤ cs ∧ cs ≤ 60) ∧ -2147483648 ≤ ty ∧ ty ≤ 2147483647) → ((H1.1 1871) 0 = (o : Int)) → ((H1.1 1826 89) = (H.1 1826 89)) → ((H1.1 1884) = (H.1 1884)) → (k ≤ cs) → (∀ x, x < k → (H1.1 1888) x = (H.1 1884) (i + x)) → 1000000 - k < w → hG (zs zC) d mt_258 49 [(0, .inr (.inr 1826)), (1, .inl (i : Int)), (2, .inl (o : Int)), (3, .inl (H.1 1826 89)), (4, .inl ty), (5, .inr (.inl se)), (7, .inl (k : Int))] [] H1 (fun r9 H2 => fr [53, 76, 77, 89, 93, 95, 99, 101] [1847, 1856, 1871, 1872, 1873, 1874, 1875, 1876, 1877, 1878, 1879, 1880, 1881, 1882, 1883, 1884, 1885, 1887, 1888] H H2 ∧ (0 ≤ (H2.1 1871) 0 ∧ (H2.1 1871) 0 < 40) ∧ (0 ≤ (H2.1 1826 89) ∧ (H2.1 1826 89) ≤ 60) ∧ ((r9 = some (.inl (-105)) ∧ OS H H2 n) ∨ ∃ n2 : Nat, r9 = some (.inl (n2 : Int)) ∧ (H2.1 1826 77) = (n2 : Int) ∧ (n2 = 0 ∨ OS H H2 n2)))) ∧ (∀ (H1 : hp) (ty : Int) (se : Int) (b : Nat) (c : Int) (m : Nat), (fr [53, 76, 77, 89, 93, 95, 99, 101] [1847, 1856, 1871, 1872, 1873, 1874, 1875, 1876, 1877, 1878, 1879, 1880, 1881, 1882, 1883, 1884, 1885, 1887, 1888] H H1) → (b ≤ 1) → (-1 ≤ c ∧ c ≤ (H.1 1826 3)) → ((m : Int) ≤ c + 1) → (RW H H1 n m (b : Int)) → ((H1.1 1871) 0 = (o : Int)) → (0 ≤ (H1.1 1826 89) ∧ (H1.1 1826 89) ≤ 60) → ((H1.1 1826 101) = (cs : Int)) → ((1 ≤ cs ∧ cs ≤ 60) ∧ -2147483648 ≤ ty ∧ ty ≤ 2147483647) → (tm (ma (H.1 1833) (H.1 1830)) (m_sg (H.1 1826 3) (H.1 1826 8) 60) (H1.1 1888) cs 0 1) → (100000 - 1000 * c).toNat < w → hG (zs zC) d mt_258 126 [(0, .inr (.inr 1826)), (1, .inl (i : Int)), (2, .inl (o : Int)), (3, .inl (H.1 1826 89)), (4, .inl ty), (5, .inr (.inl se)), (7, .inl (b : Int)), (8, .inl c)] [] H1 (fun r9 H2 => fr [53, 76, 77, 89, 93, 95, 99, 101] [1847, 1856, 1871, 1872, 1873, 1874, 1875, 1876, 1877, 1878, 1879, 1880, 1881, 1882, 1883, 1884, 1885, 1887, 1888] H H2 ∧ (0 ≤ (H2.1 1871) 0 ∧ (H2.1 1871) 0 < 40) ∧ (0 ≤ (H2.1 1826 89) ∧ (H2.1 1826 89) ≤ 60) ∧ ((r9 = some (.inl (-105)) ∧ OS H H2 n) ∨ ∃ n2 : Nat, r9 = some (.inl (n2 : Int)) ∧ (H2.1 1826 77) = (n2 : Int) ∧ (n2 = 0 ∨ OS H H2 n2)))) ∧ (∀ (H1 : hp) (ty : Int) (se : Int) (b : Nat) (c : Int) (fi : Nat) (g : Nat) (k : Nat) (m : Nat) (sn : Nat), (fr [53, 76, 77, 89, 93, 95, 99, 101] [1847, 1856, 1871, 1872, 1873, 1874, 1875, 1876, 1877, 1878, 1879, 1880, 1881, 1882, 1883, 1884, 1885, 1887, 1888] H H1) → (b ≤ 1) → (-1 ≤ c ∧ c < (H.1 1826 3)) → ((m : Int) ≤ c + 2) → (RG H H1 n m g (b : Int)) → ((H1.1 1871) 0 = (o : Int)) → (0 ≤ (H1.1 1826 89) ∧ (H1.1 1826 89) ≤ 60) → ((H1.1 1826 101) = (cs : Int)) → ((1 ≤ cs ∧ cs ≤ 60) ∧ -2147483648 ≤ ty ∧ ty ≤ 2147483647) → (tm (ma (H.1 1833) (H.1 1830)) (m_sg (H.1 1826 3) (H.1 1826 8) 60) (H1.1 1888) cs 0 1) → (k ≤ 61) → (hid (b = 1 → (H1.1 1826 99) = (sn : Int) ∧ sn ≤ 4 ∧ tm (ma (H.1 1833) (H.1 1830)) (m_sg (H.1 1826 3) (H.1 1826 8) 60) (H1.1 1887) sn 0 1)) → (100000 - 1000 * c - 10 * k - 10).toNat < w → hG (zs zC) d mt_258 228 [(0, .inr (.inr 1826)), (1, .inl (i : Int)), (2, .inl (o : Int)), (3, .inl (H.1 1826 89)), (4, .inl ty), (5, .inr (.inl se)), (7, .inl (b : Int)), (8, .inl c), (9, .inl (fi : Int)), (10, .inl (g : Int)), (11, .inl (k : Int))] [] H1 (fun r9 H2 => fr [53, 76, 77, 89, 93, 95, 99, 101] [1847, 1856, 1871, 1872, 1873, 1874, 1875, 1876, 1877, 1878, 1879, 1880, 1881, 1882, 1883, 1884, 1885, 1887, 1888] H H2 ∧ (0 ≤ (H2.1 1871) 0 ∧ (H2.1 1871) 0 < 40) ∧ (0 ≤ (H2.1 1826 89) ∧ (H2.1 1826 89) ≤ 60) ∧ ((r9 = some (.inl (-105)) ∧ OS H H2 n) ∨ ∃ n2 : Nat, r9 = some (.inl (n2 : Int)) ∧ (H2.1 1826 77) = (n2 : Int) ∧ (n2 = 0 ∨ OS H H2 n2)))) := by
  intro w
  induction w with
  | zero => exact ⟨fun _ _ _ _ _ _ _ _ _ _ _ _ _ h => absurd h (Nat.not_lt_zero _), fun _ _ _ _ _ _ _ _ _ _ _ _ _ _ _ _ h => absurd h (Nat.not_lt_zero _), fun _ _ _ _ _ _ _ _ _ _ _ _ _ _ _ _ _ _ _ _ _ _ h => absurd h (Nat.not_lt_zero _)⟩
  | succ w ih =>
    refine ⟨?_, ?_, ?_⟩
    · intro H1 ty se k hf hO9 hcz hcs9 hoo hvv1 hnw hk hcp hw
      refine h_rng (fun hrg1 => ?_)
      have hQ1 : sP H H1 := sP_fr (sP_rf H) hf (by decide) (by decide)
      have hP1 : PWc H1 := PWc_fr hP hf (by decide) (by decide)
      obtain ⟨⟨pb1, pb2, pb3, pb4, pb5⟩, pw1, pw2, pw3, pw4⟩ := (id hP : PW H (H.1 1826 1) (H.1 1826 3) (H.1 1826 8) (H.1 1826 13) (H.1 1826 19))
      obtain ⟨ol, ou, og⟩ := RS_o hO ho1
      refine h_run 3 (pc' := 55) (l' := [(0, .inr (.inr 1826)), (1, .inl (i : Int)), (2, .inl (o : Int)), (3, .inl (H.1 1826 89)), (4, .inl ty), (5, .inr (.inl se)), (7, .inl (k : Int))]) (st' := [.inl (H1.1 1826 101), .inl (k : Int)]) rfl ?_
      have g2 : -2147483648 ≤ (H1.1 1826 101) ∧ (H1.1 1826 101) ≤ 2147483647 := hrg1.1 1826 13 101 _ .int rfl rfl
      refine h_ige (off := 60) (t := 115) rfl rfl (by omega) (by omega) (fun c3 => ?_) (fun c3 => ?_)
      · refine h_run 2 (pc' := 117) (l' := [(0, .inr (.inr 1826)), (1, .inl (i : Int)), (2, .inl (o : Int)), (3, .inl (H.1 1826 89)), (4, .inl ty), (5, .inr (.inl se)), (7, .inl (k : Int))]) (st' := [.inl 0, .inr (.inr 1826)]) rfl ?_
        refine h_puti (i := 553) (ci := 13) (k := 95) (a := 1826) (x := 0) rfl rfl rfl rfl rfl rfl (by decide) (by decide) ?_
        refine h_run 4 (pc' := 126) (l' := [(0, .inr (.inr 1826)), (1, .inl (i : Int)), (2, .inl (o : Int)), (3, .inl (H.1 1826 89)), (4, .inl ty), (5, .inr (.inl se)), (7, .inl 1), (8, .inl (-1))]) (st' := []) rfl ?_
        have g4 : -2147483648 ≤ (H1.1 1826 89) ∧ (H1.1 1826 89) ≤ 2147483647 := hrg1.1 1826 13 89 _ .int rfl rfl
        exact ih.2.1 _ ty se 1 (-1 : Int) (0) (fr_o hf (by decide)) (by omega) (by omega) (by omega) (RW_begin hO9 (show fr [95] [] H1 (zu H1 1826 (up (H1.1 1826) 95 0)) from (fr_o (fr_rf _ _ _) (by decide))) (by decide) (by decide) (by decide) rfl _) hoo (by omega : 0 ≤ (H1.1 1826 89) ∧ (H1.1 1826 89) ≤ 60) (by omega : (H1.1 1826 101) = (cs : Int)) (by omega) (tm_at hTi (fun x hx => by rw [Nat.zero_add]; exact hcp x (by omega))) (by omega : (100000 - 1000 * (-1 : Int)).toNat < w)
      · refine h_run 8 (pc' := 72) (l' := [(0, .inr (.inr 1826)), (1, .inl (i : Int)), (2, .inl (o : Int)), (3, .inl (H.1 1826 89)), (4, .inl ty), (5, .inr (.inl se)), (7, .inl (k : Int))]) (st' := [.inl ((i : Int) + (k : Int)), .inr (.inr 1884), .inl (k : Int), .inr (.inr 1888)]) rfl ?_
        refine h_ild (c := 1884) (j := (i + k)) (i := ((i : Int) + (k : Int))) rfl rfl (by decide) (by omega) (by omega) ?_
        have g5 : -2147483648 ≤ (H1.1 1884 (i + k)) ∧ (H1.1 1884 (i + k)) ≤ 2147483647 := hrg1.2 1884 (i + k) 128 .int rfl (by omega)
        refine h_run 0 (pc' := 73) (l' := [(0, .inr (.inr 1826)), (1, .inl (i : Int)), (2, .inl (o : Int)), (3, .inl (H.1 1826 89)), (4, .inl ty), (5, .inr (.inl se)), (7, .inl (k : Int))]) (st' := [.inl (H1.1 1884 (i + k)), .inl (k : Int), .inr (.inr 1888)]) rfl ?_
        refine h_ist (c := 1888) (j := k) (i := (k : Int)) (x := (H1.1 1884 (i + k))) rfl rfl (by decide) (by decide) rfl (by omega) (by omega) ?_
        refine h_run 4 (pc' := 82) (l' := [(0, .inr (.inr 1826)), (1, .inl (i : Int)), (2, .inl (o : Int)), (3, .inl (H.1 1826 89)), (4, .inl ty), (5, .inr (.inl se)), (7, .inl (k : Int))]) (st' := [.inl (k : Int), .inr (.inr 1888), .inr (.inl se)]) rfl ?_
        refine h_ild (c := 1888) (j := k) (i := (k : Int)) rfl rfl (by decide) rfl (by omega) ?_
        rw [show (zu H1 1888 (up (H1.1 1888) k (H1.1 1884 (i + k)))).1 1888 k = (H1.1 1884 (i + k)) from (show up _ k _ k = _ from up_eq _ _ _)]
        refine h_run 0 (pc' := 83) (l' := [(0, .inr (.inr 1826)), (1, .inl (i : Int)), (2, .inl (o : Int)), (3, .inl (H.1 1826 89)), (4, .inl ty), (5, .inr (.inl se)), (7, .inl (k : Int))]) (st' := [.inl (H1.1 1884 (i + k)), .inr (.inl se)]) rfl ?_
        refine h_run 1 (pc' := 86) (l' := [(0, .inr (.inr 1826)), (1, .inl (i : Int)), (2, .inl (o : Int)), (3, .inl (H.1 1826 89)), (4, .inl ty), (5, .inr (.inl se)), (7, .inl (k : Int))]) (st' := [.inl 1000, .inl (H1.1 1884 (i + k)), .inr (.inl se)]) rfl ?_
        refine h_ilt (off := 19) (t := 105) rfl rfl (by omega) (by decide) (fun c6 => ?_) (fun c6 => ?_)
        · refine h_run 5 (pc' := 49) (l' := [(0, .inr (.inr 1826)), (1, .inl (i : Int)), (2, .inl (o : Int)), (3, .inl (H.1 1826 89)), (4, .inl ty), (5, .inr (.inl (z_lor se 0))), (7, .inl ((k : Int) + 1))]) (st' := []) rfl ?_
          have g7 : -2147483648 ≤ (H1.1 1826 89) ∧ (H1.1 1826 89) ≤ 2147483647 := hrg1.1 1826 13 89 _ .int rfl rfl
          rw [show ((k : Int) + 1) = (((k + 1) : Nat) : Int) by omega]
          exact ih.1 _ ty (z_lor se 0) (k + 1) (fr_a hf (by decide)) (RS_s hO9 rfl rfl rfl (fun x => ⟨⟨fun _ _ => rfl, fun _ _ => rfl⟩, ⟨rfl, fun _ _ => rfl, fun _ _ => rfl⟩⟩)) (by omega : (H1.1 1826 101) = (cs : Int)) (by omega) hoo (by omega : (H1.1 1826 89) = (H.1 1826 89)) hnw (by omega) (fun x hx => by show up (H1.1 1888) k ((H1.1 1884) (i + k)) x = _; rw [up_if, hnw]; by_cases e9 : x = k; { rw [if_pos e9, e9] }; { rw [if_neg e9]; exact hcp x (by omega) }) (by omega : 1000000 - (k + 1) < w)
        · refine h_run 4 (pc' := 96) (l' := [(0, .inr (.inr 1826)), (1, .inl (i : Int)), (2, .inl (o : Int)), (3, .inl (H.1 1826 89)), (4, .inl ty), (5, .inr (.inl se)), (7, .inl (k : Int))]) (st' := [.inl (k : Int), .inr (.inr 1888), .inr (.inl 1), .inr (.inl se)]) rfl ?_
          refine h_ild (c := 1888) (j := k) (i := (k : Int)) rfl rfl (by decide) rfl (by omega) ?_
          rw [show (zu H1 1888 (up (H1.1 1888) k (H1.1 1884 (i + k)))).1 1888 k = (H1.1 1884 (i + k)) from (show up _ k _ k = _ from up_eq _ _ _)]
          refine h_run 0 (pc' := 97) (l' := [(0, .inr (.inr 1826)), (1, .inl (i : Int)), (2, .inl (o : Int)), (3, .inl (H.1 1826 89)), (4, .inl ty), (5, .inr (.inl se)), (7, .inl (k : Int))]) (st' := [.inl (H1.1 1884 (i + k)), .inr (.inl 1), .inr (.inl se)]) rfl ?_
          refine h_run 8 (pc' := 49) (l' := [(0, .inr (.inr 1826)), (1, .inl (i : Int)), (2, .inl (o : Int)), (3, .inl (H.1 1826 89)), (4, .inl ty), (5, .inr (.inl (z_lor se (z_lshl 1 ((H1.1 1884 (i + k)) - 1000))))), (7, .inl ((k : Int) + 1))]) (st' := []) rfl ?_
          have g8 : -2147483648 ≤ (H1.1 1826 89) ∧ (H1.1 1826 89) ≤ 2147483647 := hrg1.1 1826 13 89 _ .int rfl rfl
          rw [show ((k : Int) + 1) = (((k + 1) : Nat) : Int) by omega]
          exact ih.1 _ ty (z_lor se (z_lshl 1 ((H1.1 1884 (i + k)) - 1000))) (k + 1) (fr_a hf (by decide)) (RS_s hO9 rfl rfl rfl (fun x => ⟨⟨fun _ _ => rfl, fun _ _ => rfl⟩, ⟨rfl, fun _ _ => rfl, fun _ _ => rfl⟩⟩)) (by omega : (H1.1 1826 101) = (cs : Int)) (by omega) hoo (by omega : (H1.1 1826 89) = (H.1 1826 89)) hnw (by omega) (fun x hx => by show up (H1.1 1888) k ((H1.1 1884) (i + k)) x = _; rw [up_if, hnw]; by_cases e9 : x = k; { rw [if_pos e9, e9] }; { rw [if_neg e9]; exact hcp x (by omega) }) (by omega : 1000000 - (k + 1) < w)
    · intro H1 ty se b c m hf hb hc hm hW hoo hvv1 hcz hcs9 hct hw
      refine h_rng (fun hrg9 => ?_)
      have hQ1 : sP H H1 := sP_fr (sP_rf H) hf (by decide) (by decide)
      have hP1 : PWc H1 := PWc_fr hP hf (by decide) (by decide)
      obtain ⟨⟨pb1, pb2, pb3, pb4, pb5⟩, pw1, pw2, pw3, pw4⟩ := (id hP : PW H (H.1 1826 1) (H.1 1826 3) (H.1 1826 8) (H.1 1826 13) (H.1 1826 19))
      obtain ⟨ol, ou, og⟩ := RS_o hO ho1
      refine h_run 3 (pc' := 132) (l' := [(0, .inr (.inr 1826)), (1, .inl (i : Int)), (2, .inl (o : Int)), (3, .inl (H.1 1826 89)), (4, .inl ty), (5, .inr (.inl se)), (7, .inl (b : Int)), (8, .inl c)]) (st' := [.inl (H1.1 1826 3), .inl c]) rfl ?_
      have g10 : -2147483648 ≤ (H1.1 1826 3) ∧ (H1.1 1826 3) ≤ 2147483647 := hrg9.1 1826 13 3 _ .int rfl rfl
      have e11 : (H1.1 1826 3) = (H.1 1826 3) := hf.2.2 3 (by decide)
      refine h_ige (off := 162) (t := 294) rfl rfl (by omega) (by omega) (fun c12 => ?_) (fun c12 => ?_)
      · refine h_run 2 (pc' := 297) (l' := [(0, .inr (.inr 1826)), (1, .inl (i : Int)), (2, .inl (o : Int)), (3, .inl (H.1 1826 89)), (4, .inl ty), (5, .inr (.inl se)), (7, .inl (b : Int)), (8, .inl c)]) (st' := [.inl (b : Int), .inr (.inr 1826)]) rfl ?_
        have g14 : -2147483648 ≤ (H1.1 1826 74) ∧ (H1.1 1826 74) ≤ 2147483647 := hrg9.1 1826 13 74 _ .int rfl rfl
        have e15 : (H1.1 1826 74) = (H.1 1826 74) := hf.2.2 74 (by decide)
        refine h_cv (i := 631) (j := 234) (b := 1826) (M' := mt_234) (xs := [.inl (b : Int)]) (rest := []) rfl rfl rfl rfl rfl rfl (Nat.le_of_ble_eq_true rfl) (Nat.le_of_ble_eq_true rfl) (by omega) (m_replace (P := H) (n := n) (m := m) (by omega) (by omega) hW.1 hW.2.1 hW.2.2 (show 0 ≤ (H1.1 1826 74) ∧ (H1.1 1826 74) < 16 by omega)) ?_
        rintro _ H13 ⟨hfH13, horH13, (⟨rfl, hOH13⟩ | ⟨n2H13, rfl, hnH13, hOH13⟩)⟩
        · refine h_rng (fun hrg16 => ?_)
          have hf17 : fr [53, 76, 77, 89, 93, 95, 99, 101] [1847, 1856, 1871, 1872, 1873, 1874, 1875, 1876, 1877, 1878, 1879, 1880, 1881, 1882, 1883, 1884, 1885, 1887, 1888] H H13 := fr_t hf hfH13 (by decide) (by decide)
          refine h_run 0 (pc' := 300) (l' := [(0, .inr (.inr 1826)), (1, .inl (i : Int)), (2, .inl (o : Int)), (3, .inl (H.1 1826 89)), (4, .inl ty), (5, .inr (.inl se)), (7, .inl (b : Int)), (8, .inl c)]) (st' := [.inl (-105)]) rfl ?_
          refine h_run 4 (pc' := 307) (l' := [(0, .inr (.inr 1826)), (1, .inl (i : Int)), (2, .inl (o : Int)), (3, .inl (H.1 1826 89)), (4, .inl ty), (5, .inr (.inl se)), (7, .inl (b : Int)), (8, .inl (-105))]) (st' := [.inl (-105), .inl (-105), .inr (.inr 1826)]) rfl ?_
          refine h_ine (off := 7) (t := 314) rfl rfl (by decide) (by decide) (fun c => absurd c (by decide)) (fun _ => ?_)
          refine h_run 2 (pc' := 318) (l' := [(0, .inr (.inr 1826)), (1, .inl (i : Int)), (2, .inl (o : Int)), (3, .inl (H.1 1826 89)), (4, .inl ty), (5, .inr (.inl se)), (7, .inl (b : Int)), (8, .inl (-105))]) (st' := [.inl (H.1 1826 89), .inr (.inr 1826)]) rfl ?_
          refine h_puti (i := 541) (ci := 13) (k := 89) (a := 1826) (x := (H.1 1826 89)) rfl rfl rfl rfl rfl rfl (by decide) (by omega) ?_
          refine h_run 1 (pc' := 323) (l' := [(0, .inr (.inr 1826)), (1, .inl (i : Int)), (2, .inl (o : Int)), (3, .inl (H.1 1826 89)), (4, .inl ty), (5, .inr (.inl se)), (7, .inl (b : Int)), (8, .inl (-105))]) (st' := [.inl (-105)]) rfl ?_
          refine h_reti (x := (-105)) rfl rfl ?_
          refine ⟨(fr_o hf17 (by decide)), horH13, (show 0 ≤ (H.1 1826 89) ∧ (H.1 1826 89) ≤ 60 by omega), ?_⟩
          exact Or.inl ⟨rfl, (RS_s hOH13 rfl rfl rfl (fun x => ⟨⟨fun _ _ => rfl, fun _ _ => rfl⟩, ⟨rfl, fun _ _ => rfl, fun _ _ => rfl⟩⟩))⟩
        · refine h_rng (fun hrg18 => ?_)
          have hf19 : fr [53, 76, 77, 89, 93, 95, 99, 101] [1847, 1856, 1871, 1872, 1873, 1874, 1875, 1876, 1877, 1878, 1879, 1880, 1881, 1882, 1883, 1884, 1885, 1887, 1888] H H13 := fr_t hf hfH13 (by decide) (by decide)
          have hbH13 : n2H13 ≤ 12 := by rcases hOH13 with q9 | q9; { rw [q9]; decide }; { exact q9.1.2.2.1 }
          refine h_run 0 (pc' := 300) (l' := [(0, .inr (.inr 1826)), (1, .inl (i : Int)), (2, .inl (o : Int)), (3, .inl (H.1 1826 89)), (4, .inl ty), (5, .inr (.inl se)), (7, .inl (b : Int)), (8, .inl c)]) (st' := [.inl (n2H13 : Int)]) rfl ?_
          refine h_run 4 (pc' := 307) (l' := [(0, .inr (.inr 1826)), (1, .inl (i : Int)), (2, .inl (o : Int)), (3, .inl (H.1 1826 89)), (4, .inl ty), (5, .inr (.inl se)), (7, .inl (b : Int)), (8, .inl (n2H13 : Int))]) (st' := [.inl (-105), .inl (n2H13 : Int), .inr (.inr 1826)]) rfl ?_
          refine h_ine (off := 7) (t := 314) rfl rfl (by omega) (by decide) (fun c20 => ?_) (fun c20 => ?_)
          · refine h_run 2 (pc' := 318) (l' := [(0, .inr (.inr 1826)), (1, .inl (i : Int)), (2, .inl (o : Int)), (3, .inl (H.1 1826 89)), (4, .inl ty), (5, .inr (.inl se)), (7, .inl (b : Int)), (8, .inl (n2H13 : Int))]) (st' := [.inl (H13.1 1826 89), .inr (.inr 1826)]) rfl ?_
            have g21 : -2147483648 ≤ (H13.1 1826 89) ∧ (H13.1 1826 89) ≤ 2147483647 := hrg18.1 1826 13 89 _ .int rfl rfl
            have e22 : (H13.1 1826 89) = (H1.1 1826 89) := hfH13.2.2 89 (by decide)
            refine h_puti (i := 541) (ci := 13) (k := 89) (a := 1826) (x := (H13.1 1826 89)) rfl rfl rfl rfl rfl rfl (by decide) (by omega) ?_
            refine h_run 1 (pc' := 323) (l' := [(0, .inr (.inr 1826)), (1, .inl (i : Int)), (2, .inl (o : Int)), (3, .inl (H.1 1826 89)), (4, .inl ty), (5, .inr (.inl se)), (7, .inl (b : Int)), (8, .inl (n2H13 : Int))]) (st' := [.inl (n2H13 : Int)]) rfl ?_
            refine h_reti (x := (n2H13 : Int)) rfl rfl ?_
            refine ⟨(fr_o hf19 (by decide)), horH13, (show 0 ≤ (H13.1 1826 89) ∧ (H13.1 1826 89) ≤ 60 by omega), ?_⟩
            refine Or.inr ⟨n2H13, rfl, hnH13, ?_⟩
            rcases hOH13 with q9 | q9
            · exact Or.inl q9
            · exact Or.inr (RS_s q9 rfl rfl rfl (fun x => ⟨⟨fun _ _ => rfl, fun _ _ => rfl⟩, ⟨rfl, fun _ _ => rfl, fun _ _ => rfl⟩⟩))
          · refine h_run 2 (pc' := 318) (l' := [(0, .inr (.inr 1826)), (1, .inl (i : Int)), (2, .inl (o : Int)), (3, .inl (H.1 1826 89)), (4, .inl ty), (5, .inr (.inl se)), (7, .inl (b : Int)), (8, .inl (n2H13 : Int))]) (st' := [.inl (H.1 1826 89), .inr (.inr 1826)]) rfl ?_
            refine h_puti (i := 541) (ci := 13) (k := 89) (a := 1826) (x := (H.1 1826 89)) rfl rfl rfl rfl rfl rfl (by decide) (by omega) ?_
            refine h_run 1 (pc' := 323) (l' := [(0, .inr (.inr 1826)), (1, .inl (i : Int)), (2, .inl (o : Int)), (3, .inl (H.1 1826 89)), (4, .inl ty), (5, .inr (.inl se)), (7, .inl (b : Int)), (8, .inl (n2H13 : Int))]) (st' := [.inl (n2H13 : Int)]) rfl ?_
            refine h_reti (x := (n2H13 : Int)) rfl rfl ?_
            refine ⟨(fr_o hf19 (by decide)), horH13, (show 0 ≤ (H.1 1826 89) ∧ (H.1 1826 89) ≤ 60 by omega), ?_⟩
            refine Or.inr ⟨n2H13, rfl, hnH13, ?_⟩
            rcases hOH13 with q9 | q9
            · exact Or.inl q9
            · exact Or.inr (RS_s q9 rfl rfl rfl (fun x => ⟨⟨fun _ _ => rfl, fun _ _ => rfl⟩, ⟨rfl, fun _ _ => rfl, fun _ _ => rfl⟩⟩))
      · refine h_run 1 (pc' := 137) (l' := [(0, .inr (.inr 1826)), (1, .inl (i : Int)), (2, .inl (o : Int)), (3, .inl (H.1 1826 89)), (4, .inl ty), (5, .inr (.inl se)), (7, .inl (b : Int)), (8, .inl c)]) (st' := [.inl (b : Int)]) rfl ?_
        refine h_zeq (off := 157) (t := 294) rfl rfl (by omega) (fun c23 => ?_) (fun c23 => ?_)
        · refine h_run 2 (pc' := 297) (l' := [(0, .inr (.inr 1826)), (1, .inl (i : Int)), (2, .inl (o : Int)), (3, .inl (H.1 1826 89)), (4, .inl ty), (5, .inr (.inl se)), (7, .inl (b : Int)), (8, .inl c)]) (st' := [.inl (b : Int), .inr (.inr 1826)]) rfl ?_
          have g25 : -2147483648 ≤ (H1.1 1826 74) ∧ (H1.1 1826 74) ≤ 2147483647 := hrg9.1 1826 13 74 _ .int rfl rfl
          have e26 : (H1.1 1826 74) = (H.1 1826 74) := hf.2.2 74 (by decide)
          refine h_cv (i := 631) (j := 234) (b := 1826) (M' := mt_234) (xs := [.inl (b : Int)]) (rest := []) rfl rfl rfl rfl rfl rfl (Nat.le_of_ble_eq_true rfl) (Nat.le_of_ble_eq_true rfl) (by omega) (m_replace (P := H) (n := n) (m := m) (by omega) (by omega) hW.1 hW.2.1 hW.2.2 (show 0 ≤ (H1.1 1826 74) ∧ (H1.1 1826 74) < 16 by omega)) ?_
          rintro _ H24 ⟨hfH24, horH24, (⟨rfl, hOH24⟩ | ⟨n2H24, rfl, hnH24, hOH24⟩)⟩
          · refine h_rng (fun hrg27 => ?_)
            have hf28 : fr [53, 76, 77, 89, 93, 95, 99, 101] [1847, 1856, 1871, 1872, 1873, 1874, 1875, 1876, 1877, 1878, 1879, 1880, 1881, 1882, 1883, 1884, 1885, 1887, 1888] H H24 := fr_t hf hfH24 (by decide) (by decide)
            refine h_run 0 (pc' := 300) (l' := [(0, .inr (.inr 1826)), (1, .inl (i : Int)), (2, .inl (o : Int)), (3, .inl (H.1 1826 89)), (4, .inl ty), (5, .inr (.inl se)), (7, .inl (b : Int)), (8, .inl c)]) (st' := [.inl (-105)]) rfl ?_
            refine h_run 4 (pc' := 307) (l' := [(0, .inr (.inr 1826)), (1, .inl (i : Int)), (2, .inl (o : Int)), (3, .inl (H.1 1826 89)), (4, .inl ty), (5, .inr (.inl se)), (7, .inl (b : Int)), (8, .inl (-105))]) (st' := [.inl (-105), .inl (-105), .inr (.inr 1826)]) rfl ?_
            refine h_ine (off := 7) (t := 314) rfl rfl (by decide) (by decide) (fun c => absurd c (by decide)) (fun _ => ?_)
            refine h_run 2 (pc' := 318) (l' := [(0, .inr (.inr 1826)), (1, .inl (i : Int)), (2, .inl (o : Int)), (3, .inl (H.1 1826 89)), (4, .inl ty), (5, .inr (.inl se)), (7, .inl (b : Int)), (8, .inl (-105))]) (st' := [.inl (H.1 1826 89), .inr (.inr 1826)]) rfl ?_
            refine h_puti (i := 541) (ci := 13) (k := 89) (a := 1826) (x := (H.1 1826 89)) rfl rfl rfl rfl rfl rfl (by decide) (by omega) ?_
            refine h_run 1 (pc' := 323) (l' := [(0, .inr (.inr 1826)), (1, .inl (i : Int)), (2, .inl (o : Int)), (3, .inl (H.1 1826 89)), (4, .inl ty), (5, .inr (.inl se)), (7, .inl (b : Int)), (8, .inl (-105))]) (st' := [.inl (-105)]) rfl ?_
            refine h_reti (x := (-105)) rfl rfl ?_
            refine ⟨(fr_o hf28 (by decide)), horH24, (show 0 ≤ (H.1 1826 89) ∧ (H.1 1826 89) ≤ 60 by omega), ?_⟩
            exact Or.inl ⟨rfl, (RS_s hOH24 rfl rfl rfl (fun x => ⟨⟨fun _ _ => rfl, fun _ _ => rfl⟩, ⟨rfl, fun _ _ => rfl, fun _ _ => rfl⟩⟩))⟩
          · refine h_rng (fun hrg29 => ?_)
            have hf30 : fr [53, 76, 77, 89, 93, 95, 99, 101] [1847, 1856, 1871, 1872, 1873, 1874, 1875, 1876, 1877, 1878, 1879, 1880, 1881, 1882, 1883, 1884, 1885, 1887, 1888] H H24 := fr_t hf hfH24 (by decide) (by decide)
            have hbH24 : n2H24 ≤ 12 := by rcases hOH24 with q9 | q9; { rw [q9]; decide }; { exact q9.1.2.2.1 }
            refine h_run 0 (pc' := 300) (l' := [(0, .inr (.inr 1826)), (1, .inl (i : Int)), (2, .inl (o : Int)), (3, .inl (H.1 1826 89)), (4, .inl ty), (5, .inr (.inl se)), (7, .inl (b : Int)), (8, .inl c)]) (st' := [.inl (n2H24 : Int)]) rfl ?_
            refine h_run 4 (pc' := 307) (l' := [(0, .inr (.inr 1826)), (1, .inl (i : Int)), (2, .inl (o : Int)), (3, .inl (H.1 1826 89)), (4, .inl ty), (5, .inr (.inl se)), (7, .inl (b : Int)), (8, .inl (n2H24 : Int))]) (st' := [.inl (-105), .inl (n2H24 : Int), .inr (.inr 1826)]) rfl ?_
            refine h_ine (off := 7) (t := 314) rfl rfl (by omega) (by decide) (fun c31 => ?_) (fun c31 => ?_)
            · refine h_run 2 (pc' := 318) (l' := [(0, .inr (.inr 1826)), (1, .inl (i : Int)), (2, .inl (o : Int)), (3, .inl (H.1 1826 89)), (4, .inl ty), (5, .inr (.inl se)), (7, .inl (b : Int)), (8, .inl (n2H24 : Int))]) (st' := [.inl (H24.1 1826 89), .inr (.inr 1826)]) rfl ?_
              have g32 : -2147483648 ≤ (H24.1 1826 89) ∧ (H24.1 1826 89) ≤ 2147483647 := hrg29.1 1826 13 89 _ .int rfl rfl
              have e33 : (H24.1 1826 89) = (H1.1 1826 89) := hfH24.2.2 89 (by decide)
              refine h_puti (i := 541) (ci := 13) (k := 89) (a := 1826) (x := (H24.1 1826 89)) rfl rfl rfl rfl rfl rfl (by decide) (by omega) ?_
              refine h_run 1 (pc' := 323) (l' := [(0, .inr (.inr 1826)), (1, .inl (i : Int)), (2, .inl (o : Int)), (3, .inl (H.1 1826 89)), (4, .inl ty), (5, .inr (.inl se)), (7, .inl (b : Int)), (8, .inl (n2H24 : Int))]) (st' := [.inl (n2H24 : Int)]) rfl ?_
              refine h_reti (x := (n2H24 : Int)) rfl rfl ?_
              refine ⟨(fr_o hf30 (by decide)), horH24, (show 0 ≤ (H24.1 1826 89) ∧ (H24.1 1826 89) ≤ 60 by omega), ?_⟩
              refine Or.inr ⟨n2H24, rfl, hnH24, ?_⟩
              rcases hOH24 with q9 | q9
              · exact Or.inl q9
              · exact Or.inr (RS_s q9 rfl rfl rfl (fun x => ⟨⟨fun _ _ => rfl, fun _ _ => rfl⟩, ⟨rfl, fun _ _ => rfl, fun _ _ => rfl⟩⟩))
            · refine h_run 2 (pc' := 318) (l' := [(0, .inr (.inr 1826)), (1, .inl (i : Int)), (2, .inl (o : Int)), (3, .inl (H.1 1826 89)), (4, .inl ty), (5, .inr (.inl se)), (7, .inl (b : Int)), (8, .inl (n2H24 : Int))]) (st' := [.inl (H.1 1826 89), .inr (.inr 1826)]) rfl ?_
              refine h_puti (i := 541) (ci := 13) (k := 89) (a := 1826) (x := (H.1 1826 89)) rfl rfl rfl rfl rfl rfl (by decide) (by omega) ?_
              refine h_run 1 (pc' := 323) (l' := [(0, .inr (.inr 1826)), (1, .inl (i : Int)), (2, .inl (o : Int)), (3, .inl (H.1 1826 89)), (4, .inl ty), (5, .inr (.inl se)), (7, .inl (b : Int)), (8, .inl (n2H24 : Int))]) (st' := [.inl (n2H24 : Int)]) rfl ?_
              refine h_reti (x := (n2H24 : Int)) rfl rfl ?_
              refine ⟨(fr_o hf30 (by decide)), horH24, (show 0 ≤ (H.1 1826 89) ∧ (H.1 1826 89) ≤ 60 by omega), ?_⟩
              refine Or.inr ⟨n2H24, rfl, hnH24, ?_⟩
              rcases hOH24 with q9 | q9
              · exact Or.inl q9
              · exact Or.inr (RS_s q9 rfl rfl rfl (fun x => ⟨⟨fun _ _ => rfl, fun _ _ => rfl⟩, ⟨rfl, fun _ _ => rfl, fun _ _ => rfl⟩⟩))
        · refine h_run 2 (pc' := 143) (l' := [(0, .inr (.inr 1826)), (1, .inl (i : Int)), (2, .inl (o : Int)), (3, .inl (H.1 1826 89)), (4, .inl ty), (5, .inr (.inl se)), (7, .inl (b : Int)), (8, .inl c)]) (st' := [.inl (-1), .inl c]) rfl ?_
          refine h_ieq (off := 15) (t := 158) rfl rfl (by omega) (by decide) (fun c34 => ?_) (fun c34 => ?_)
          · refine h_run 2 (pc' := 162) (l' := [(0, .inr (.inr 1826)), (1, .inl (i : Int)), (2, .inl (o : Int)), (3, .inl (H.1 1826 89)), (4, .inl ty), (5, .inr (.inl se)), (7, .inl (b : Int)), (8, .inl c)]) (st' := [.inl (H1.1 1826 89)]) rfl ?_
            have g35 : -2147483648 ≤ (H1.1 1826 89) ∧ (H1.1 1826 89) ≤ 2147483647 := hrg9.1 1826 13 89 _ .int rfl rfl
            refine h_run 3 (pc' := 166) (l' := [(0, .inr (.inr 1826)), (1, .inl (i : Int)), (2, .inl (o : Int)), (3, .inl (H.1 1826 89)), (4, .inl ty), (5, .inr (.inl se)), (7, .inl (b : Int)), (8, .inl c), (9, .inl (H1.1 1826 89))]) (st' := [.inl (o : Int), .inr (.inr 1826)]) rfl ?_
            have hWg37 : RW H H1 n m 1 := (RW_fr (b := 1) (by have h9 := hW; rw [show b = 1 by omega] at h9; exact h9) (show fr [] [] H1 H1 from (fr_rf _ _ _)) (by decide) (by decide) (by decide))
            obtain ⟨zg37, hzg37⟩ := RS_free hWg37.1
            obtain ⟨o1g37, o2g37, o3g37⟩ := RS_o hWg37.1 (show (H1.1 1871) 0 = (o : Int) from hoo)
            refine h_cv (i := 616) (j := 233) (b := 1826) (M' := mt_233) (xs := [.inl (o : Int)]) (rest := []) rfl rfl rfl rfl rfl rfl (Nat.le_of_ble_eq_true rfl) (Nat.le_of_ble_eq_true rfl) (by omega) (m_newGoal (P := H) (m := m) (by omega) hzg37 ⟨o1g37, o2g37⟩ o3g37 ⟨hWg37.2.1, by omega⟩) ?_
            rintro _ H36 ⟨g37, rfl, lg37, ug37, hfH36, e3g37, e5g37, e6g37, kg37, e4g37⟩
            refine h_rng (fun hrg38 => ?_)
            have hf39 : fr [53, 76, 77, 89, 93, 95, 99, 101] [1847, 1856, 1871, 1872, 1873, 1874, 1875, 1876, 1877, 1878, 1879, 1880, 1881, 1882, 1883, 1884, 1885, 1887, 1888] H H36 := fr_t hf hfH36 (by decide) (by decide)
            have hRGH36 : RG H H36 n (m + 1) g37 1 := RW_new hWg37 rfl (by omega) lg37 ug37 hfH36 (by decide) (by decide) e3g37 e5g37 e6g37 kg37 e4g37
            have hooH36 : (H36.1 1871) 0 = (o : Int) := (congrFun (hfH36.2.1 1871 (by decide) (by decide)) 0).trans hoo
            refine h_run 0 (pc' := 169) (l' := [(0, .inr (.inr 1826)), (1, .inl (i : Int)), (2, .inl (o : Int)), (3, .inl (H.1 1826 89)), (4, .inl ty), (5, .inr (.inl se)), (7, .inl (b : Int)), (8, .inl c), (9, .inl (H1.1 1826 89))]) (st' := [.inl (g37 : Int)]) rfl ?_
            refine h_run 5 (pc' := 178) (l' := [(0, .inr (.inr 1826)), (1, .inl (i : Int)), (2, .inl (o : Int)), (3, .inl (H.1 1826 89)), (4, .inl ty), (5, .inr (.inl se)), (7, .inl (b : Int)), (8, .inl c), (9, .inl (H1.1 1826 89)), (10, .inl (g37 : Int))]) (st' := [.inl (g37 : Int), .inr (.inr 1877), .inl (g37 : Int), .inr (.inr 1877)]) rfl ?_
            refine h_ild (c := 1877) (j := g37) (i := (g37 : Int)) rfl rfl (by decide) rfl (by omega) ?_
            have g40 : -2147483648 ≤ (H36.1 1877 g37) ∧ (H36.1 1877 g37) ≤ 2147483647 := hrg38.2 1877 g37 40 .int rfl (by omega)
            refine h_run 0 (pc' := 179) (l' := [(0, .inr (.inr 1826)), (1, .inl (i : Int)), (2, .inl (o : Int)), (3, .inl (H.1 1826 89)), (4, .inl ty), (5, .inr (.inl se)), (7, .inl (b : Int)), (8, .inl c), (9, .inl (H1.1 1826 89)), (10, .inl (g37 : Int))]) (st' := [.inl (H36.1 1877 g37), .inl (g37 : Int), .inr (.inr 1877)]) rfl ?_
            refine h_run 2 (pc' := 181) (l' := [(0, .inr (.inr 1826)), (1, .inl (i : Int)), (2, .inl (o : Int)), (3, .inl (H.1 1826 89)), (4, .inl ty), (5, .inr (.inl se)), (7, .inl (b : Int)), (8, .inl c), (9, .inl (H1.1 1826 89)), (10, .inl (g37 : Int))]) (st' := [.inl ((H36.1 1877 g37) + 1), .inl (g37 : Int), .inr (.inr 1877)]) rfl ?_
            refine h_nrm (fun y41 hy41 => ?_)
            refine h_run 0 (pc' := 181) (l' := [(0, .inr (.inr 1826)), (1, .inl (i : Int)), (2, .inl (o : Int)), (3, .inl (H.1 1826 89)), (4, .inl ty), (5, .inr (.inl se)), (7, .inl (b : Int)), (8, .inl c), (9, .inl (H1.1 1826 89)), (10, .inl (g37 : Int))]) (st' := [.inl y41, .inl (g37 : Int), .inr (.inr 1877)]) rfl ?_
            refine h_ist (c := 1877) (j := g37) (i := (g37 : Int)) (x := y41) rfl rfl (by decide) (by decide) rfl (by omega) (by omega) ?_
            refine h_run 4 (pc' := 189) (l' := [(0, .inr (.inr 1826)), (1, .inl (i : Int)), (2, .inl (o : Int)), (3, .inl (H.1 1826 89)), (4, .inl ty), (5, .inr (.inl se)), (7, .inl (b : Int)), (8, .inl c), (9, .inl (H1.1 1826 89)), (10, .inl (g37 : Int))]) (st' := [.inl (g37 : Int), .inr (.inr 1876), .inl (g37 : Int), .inr (.inr 1876)]) rfl ?_
            refine h_lld (c := 1876) (j := g37) (i := (g37 : Int)) rfl rfl (by decide) rfl (by omega) ?_
            have g42 : -9223372036854775808 ≤ (H36.1 1876 g37) ∧ (H36.1 1876 g37) ≤ 9223372036854775807 := hrg38.2 1876 g37 40 .long rfl (by omega)
            refine h_run 0 (pc' := 190) (l' := [(0, .inr (.inr 1826)), (1, .inl (i : Int)), (2, .inl (o : Int)), (3, .inl (H.1 1826 89)), (4, .inl ty), (5, .inr (.inl se)), (7, .inl (b : Int)), (8, .inl c), (9, .inl (H1.1 1826 89)), (10, .inl (g37 : Int))]) (st' := [.inr (.inl (H36.1 1876 g37)), .inl (g37 : Int), .inr (.inr 1876)]) rfl ?_
            refine h_run 2 (pc' := 193) (l' := [(0, .inr (.inr 1826)), (1, .inl (i : Int)), (2, .inl (o : Int)), (3, .inl (H.1 1826 89)), (4, .inl ty), (5, .inr (.inl se)), (7, .inl (b : Int)), (8, .inl c), (9, .inl (H1.1 1826 89)), (10, .inl (g37 : Int))]) (st' := [.inr (.inl (z_lor (H36.1 1876 g37) se)), .inl (g37 : Int), .inr (.inr 1876)]) rfl ?_
            refine h_lst (c := 1876) (j := g37) (i := (g37 : Int)) (x := (z_lor (H36.1 1876 g37) se)) rfl rfl (by decide) (by decide) rfl (by omega) (z_long _) ?_
            refine h_run 2 (pc' := 197) (l' := [(0, .inr (.inr 1826)), (1, .inl (i : Int)), (2, .inl (o : Int)), (3, .inl (H.1 1826 89)), (4, .inl ty), (5, .inr (.inl se)), (7, .inl (b : Int)), (8, .inl c), (9, .inl (H1.1 1826 89)), (10, .inl (g37 : Int))]) (st' := [.inl (-1), .inl c]) rfl ?_
            refine h_ine (off := 18) (t := 215) rfl rfl (by omega) (by decide) (fun c43 => ?_) (fun c43 => ?_)
            · exfalso
              omega
            · refine h_run 4 (pc' := 206) (l' := [(0, .inr (.inr 1826)), (1, .inl (i : Int)), (2, .inl (o : Int)), (3, .inl (H.1 1826 89)), (4, .inl ty), (5, .inr (.inl se)), (7, .inl (b : Int)), (8, .inl c), (9, .inl (H1.1 1826 89)), (10, .inl (g37 : Int))]) (st' := [.inl 0, .inl 0, .inr (.inr 1887)]) rfl ?_
              refine h_ist (c := 1887) (j := 0) (i := 0) (x := 0) rfl rfl (by decide) (by decide) rfl (by omega) (by decide) ?_
              refine h_run 2 (pc' := 209) (l' := [(0, .inr (.inr 1826)), (1, .inl (i : Int)), (2, .inl (o : Int)), (3, .inl (H.1 1826 89)), (4, .inl ty), (5, .inr (.inl se)), (7, .inl (b : Int)), (8, .inl c), (9, .inl (H1.1 1826 89)), (10, .inl (g37 : Int))]) (st' := [.inl 1, .inr (.inr 1826)]) rfl ?_
              refine h_puti (i := 604) (ci := 13) (k := 99) (a := 1826) (x := 1) rfl rfl rfl rfl rfl rfl (by decide) (by decide) ?_
              refine h_run 3 (pc' := 228) (l' := [(0, .inr (.inr 1826)), (1, .inl (i : Int)), (2, .inl (o : Int)), (3, .inl (H.1 1826 89)), (4, .inl ty), (5, .inr (.inl se)), (7, .inl (b : Int)), (8, .inl c), (9, .inl (H1.1 1826 89)), (10, .inl (g37 : Int)), (11, .inl (H1.1 1826 89))]) (st' := []) rfl ?_
              have g44 : -2147483648 ≤ (H36.1 1826 89) ∧ (H36.1 1826 89) ≤ 2147483647 := hrg38.1 1826 13 89 _ .int rfl rfl
              have e45 : (H36.1 1826 89) = (H1.1 1826 89) := hfH36.2.2 89 (by decide)
              have g46 : -2147483648 ≤ (H36.1 1826 101) ∧ (H36.1 1826 101) ≤ 2147483647 := hrg38.1 1826 13 101 _ .int rfl rfl
              have e47 : (H36.1 1826 101) = (H1.1 1826 101) := hfH36.2.2 101 (by decide)
              rw [show (H1.1 1826 89) = ((((H1.1 1826 89)).toNat : Nat) : Int) by omega]
              exact ih.2.2 _ ty se b c ((H1.1 1826 89)).toNat g37 ((H1.1 1826 89)).toNat (m + 1) (1) (fr_o (fr_a (fr_a (fr_a hf39 (by decide)) (by decide)) (by decide)) (by decide)) (by omega) (by omega) (by omega) (RG_b (RG_fr0 hRGH36 (show fr [99] [1876, 1877, 1887] H36 (zu (zu (zu (zu H36 1877 (up (H36.1 1877) g37 y41)) 1876 (up ((zu H36 1877 (up (H36.1 1877) g37 y41)).1 1876) g37 (z_lor (H36.1 1876 g37) se))) 1887 (up ((zu (zu H36 1877 (up (H36.1 1877) g37 y41)) 1876 (up ((zu H36 1877 (up (H36.1 1877) g37 y41)).1 1876) g37 (z_lor (H36.1 1876 g37) se))).1 1887) 0 0)) 1826 (up ((zu (zu (zu H36 1877 (up (H36.1 1877) g37 y41)) 1876 (up ((zu H36 1877 (up (H36.1 1877) g37 y41)).1 1876) g37 (z_lor (H36.1 1876 g37) se))) 1887 (up ((zu (zu H36 1877 (up (H36.1 1877) g37 y41)) 1876 (up ((zu H36 1877 (up (H36.1 1877) g37 y41)).1 1876) g37 (z_lor (H36.1 1876 g37) se))).1 1887) 0 0)).1 1826) 99 1)) from (fr_o (fr_a (fr_a (fr_a (fr_rf _ _ _) (by decide)) (by decide)) (by decide)) (by decide))) (by decide) (by decide) (by decide)) _ (fun _ => (RG_fr0 hRGH36 (show fr [99] [1876, 1877, 1887] H36 (zu (zu (zu (zu H36 1877 (up (H36.1 1877) g37 y41)) 1876 (up ((zu H36 1877 (up (H36.1 1877) g37 y41)).1 1876) g37 (z_lor (H36.1 1876 g37) se))) 1887 (up ((zu (zu H36 1877 (up (H36.1 1877) g37 y41)) 1876 (up ((zu H36 1877 (up (H36.1 1877) g37 y41)).1 1876) g37 (z_lor (H36.1 1876 g37) se))).1 1887) 0 0)) 1826 (up ((zu (zu (zu H36 1877 (up (H36.1 1877) g37 y41)) 1876 (up ((zu H36 1877 (up (H36.1 1877) g37 y41)).1 1876) g37 (z_lor (H36.1 1876 g37) se))) 1887 (up ((zu (zu H36 1877 (up (H36.1 1877) g37 y41)) 1876 (up ((zu H36 1877 (up (H36.1 1877) g37 y41)).1 1876) g37 (z_lor (H36.1 1876 g37) se))).1 1887) 0 0)).1 1826) 99 1)) from (fr_o (fr_a (fr_a (fr_a (fr_rf _ _ _) (by decide)) (by decide)) (by decide)) (by decide))) (by decide) (by decide) (by decide)).2.2.2.2 rfl)) hooH36 (by omega : 0 ≤ (H36.1 1826 89) ∧ (H36.1 1826 89) ≤ 60) (by omega : (H36.1 1826 101) = (cs : Int)) (by omega) (show tm (ma (H.1 1833) (H.1 1830)) (m_sg (H.1 1826 3) (H.1 1826 8) 60) (H36.1 1888) cs 0 1 by rw [show (H36.1 1888) = (H1.1 1888) from hfH36.2.1 1888 (by decide) (by decide)]; exact hct) (by omega) (fun _ => ⟨(show (1 : Int) = ((1 : Nat) : Int) by omega), by omega, (tm_one (show up (H36.1 1887) 0 0 0 = 0 from up_eq _ _ _))⟩) (by omega : (100000 - 1000 * c - 10 * ((H1.1 1826 89)).toNat - 10).toNat < w)
          · obtain ⟨cn, hcn⟩ : ∃ k9 : Nat, c = (k9 : Int) := ⟨(c).toNat, by omega⟩
            rw [show c = (cn : Int) from hcn]
            have eca : (H1.1 1829) = (H.1 1829) := hf.2.1 1829 (by decide) (by decide)
            refine h_run 3 (pc' := 152) (l' := [(0, .inr (.inr 1826)), (1, .inl (i : Int)), (2, .inl (o : Int)), (3, .inl (H.1 1826 89)), (4, .inl ty), (5, .inr (.inl se)), (7, .inl (b : Int)), (8, .inl (cn : Int))]) (st' := [.inl (cn : Int), .inr (.inr 1829)]) rfl ?_
            refine h_ild (c := 1829) (j := cn) (i := (cn : Int)) rfl rfl (by decide) rfl (by omega) ?_
            have g48 : -2147483648 ≤ (H1.1 1829 cn) ∧ (H1.1 1829 cn) ≤ 2147483647 := hrg9.2 1829 cn 16 .int rfl (by omega)
            have e49 : (H1.1 1829 cn) = (H.1 1829 cn) := congrFun (hf.2.1 1829 (by decide) (by decide)) cn
            refine h_run 0 (pc' := 153) (l' := [(0, .inr (.inr 1826)), (1, .inl (i : Int)), (2, .inl (o : Int)), (3, .inl (H.1 1826 89)), (4, .inl ty), (5, .inr (.inl se)), (7, .inl (b : Int)), (8, .inl (cn : Int))]) (st' := [.inl (H1.1 1829 cn)]) rfl ?_
            refine h_run 1 (pc' := 155) (l' := [(0, .inr (.inr 1826)), (1, .inl (i : Int)), (2, .inl (o : Int)), (3, .inl (H.1 1826 89)), (4, .inl ty), (5, .inr (.inl se)), (7, .inl (b : Int)), (8, .inl (cn : Int))]) (st' := [.inl ty, .inl (H1.1 1829 cn)]) rfl ?_
            refine h_ine (off := 133) (t := 288) rfl rfl (by omega) (by omega) (fun c50 => ?_) (fun c50 => ?_)
            · refine h_run 2 (pc' := 126) (l' := [(0, .inr (.inr 1826)), (1, .inl (i : Int)), (2, .inl (o : Int)), (3, .inl (H.1 1826 89)), (4, .inl ty), (5, .inr (.inl se)), (7, .inl (b : Int)), (8, .inl ((cn : Int) + 1))]) (st' := []) rfl ?_
              have g51 : -2147483648 ≤ (H1.1 1826 89) ∧ (H1.1 1826 89) ≤ 2147483647 := hrg9.1 1826 13 89 _ .int rfl rfl
              have g52 : -2147483648 ≤ (H1.1 1826 101) ∧ (H1.1 1826 101) ≤ 2147483647 := hrg9.1 1826 13 101 _ .int rfl rfl
              exact ih.2.1 _ ty se b ((cn : Int) + 1) (m) hf (by omega) (by omega) (by omega) hW hoo (by omega : 0 ≤ (H1.1 1826 89) ∧ (H1.1 1826 89) ≤ 60) (by omega : (H1.1 1826 101) = (cs : Int)) (by omega) hct (by omega : (100000 - 1000 * ((cn : Int) + 1)).toNat < w)
            · refine h_run 2 (pc' := 162) (l' := [(0, .inr (.inr 1826)), (1, .inl (i : Int)), (2, .inl (o : Int)), (3, .inl (H.1 1826 89)), (4, .inl ty), (5, .inr (.inl se)), (7, .inl (b : Int)), (8, .inl (cn : Int))]) (st' := [.inl (H1.1 1826 89)]) rfl ?_
              have g53 : -2147483648 ≤ (H1.1 1826 89) ∧ (H1.1 1826 89) ≤ 2147483647 := hrg9.1 1826 13 89 _ .int rfl rfl
              refine h_run 3 (pc' := 166) (l' := [(0, .inr (.inr 1826)), (1, .inl (i : Int)), (2, .inl (o : Int)), (3, .inl (H.1 1826 89)), (4, .inl ty), (5, .inr (.inl se)), (7, .inl (b : Int)), (8, .inl (cn : Int)), (9, .inl (H1.1 1826 89))]) (st' := [.inl (o : Int), .inr (.inr 1826)]) rfl ?_
              have hWg55 : RW H H1 n m 1 := (RW_fr (b := 1) (by have h9 := hW; rw [show b = 1 by omega] at h9; exact h9) (show fr [] [] H1 H1 from (fr_rf _ _ _)) (by decide) (by decide) (by decide))
              obtain ⟨zg55, hzg55⟩ := RS_free hWg55.1
              obtain ⟨o1g55, o2g55, o3g55⟩ := RS_o hWg55.1 (show (H1.1 1871) 0 = (o : Int) from hoo)
              refine h_cv (i := 616) (j := 233) (b := 1826) (M' := mt_233) (xs := [.inl (o : Int)]) (rest := []) rfl rfl rfl rfl rfl rfl (Nat.le_of_ble_eq_true rfl) (Nat.le_of_ble_eq_true rfl) (by omega) (m_newGoal (P := H) (m := m) (by omega) hzg55 ⟨o1g55, o2g55⟩ o3g55 ⟨hWg55.2.1, by omega⟩) ?_
              rintro _ H54 ⟨g55, rfl, lg55, ug55, hfH54, e3g55, e5g55, e6g55, kg55, e4g55⟩
              refine h_rng (fun hrg56 => ?_)
              have hf57 : fr [53, 76, 77, 89, 93, 95, 99, 101] [1847, 1856, 1871, 1872, 1873, 1874, 1875, 1876, 1877, 1878, 1879, 1880, 1881, 1882, 1883, 1884, 1885, 1887, 1888] H H54 := fr_t hf hfH54 (by decide) (by decide)
              have hRGH54 : RG H H54 n (m + 1) g55 1 := RW_new hWg55 rfl (by omega) lg55 ug55 hfH54 (by decide) (by decide) e3g55 e5g55 e6g55 kg55 e4g55
              have hooH54 : (H54.1 1871) 0 = (o : Int) := (congrFun (hfH54.2.1 1871 (by decide) (by decide)) 0).trans hoo
              refine h_run 0 (pc' := 169) (l' := [(0, .inr (.inr 1826)), (1, .inl (i : Int)), (2, .inl (o : Int)), (3, .inl (H.1 1826 89)), (4, .inl ty), (5, .inr (.inl se)), (7, .inl (b : Int)), (8, .inl (cn : Int)), (9, .inl (H1.1 1826 89))]) (st' := [.inl (g55 : Int)]) rfl ?_
              refine h_run 5 (pc' := 178) (l' := [(0, .inr (.inr 1826)), (1, .inl (i : Int)), (2, .inl (o : Int)), (3, .inl (H.1 1826 89)), (4, .inl ty), (5, .inr (.inl se)), (7, .inl (b : Int)), (8, .inl (cn : Int)), (9, .inl (H1.1 1826 89)), (10, .inl (g55 : Int))]) (st' := [.inl (g55 : Int), .inr (.inr 1877), .inl (g55 : Int), .inr (.inr 1877)]) rfl ?_
              refine h_ild (c := 1877) (j := g55) (i := (g55 : Int)) rfl rfl (by decide) rfl (by omega) ?_
              have g58 : -2147483648 ≤ (H54.1 1877 g55) ∧ (H54.1 1877 g55) ≤ 2147483647 := hrg56.2 1877 g55 40 .int rfl (by omega)
              refine h_run 0 (pc' := 179) (l' := [(0, .inr (.inr 1826)), (1, .inl (i : Int)), (2, .inl (o : Int)), (3, .inl (H.1 1826 89)), (4, .inl ty), (5, .inr (.inl se)), (7, .inl (b : Int)), (8, .inl (cn : Int)), (9, .inl (H1.1 1826 89)), (10, .inl (g55 : Int))]) (st' := [.inl (H54.1 1877 g55), .inl (g55 : Int), .inr (.inr 1877)]) rfl ?_
              refine h_run 2 (pc' := 181) (l' := [(0, .inr (.inr 1826)), (1, .inl (i : Int)), (2, .inl (o : Int)), (3, .inl (H.1 1826 89)), (4, .inl ty), (5, .inr (.inl se)), (7, .inl (b : Int)), (8, .inl (cn : Int)), (9, .inl (H1.1 1826 89)), (10, .inl (g55 : Int))]) (st' := [.inl ((H54.1 1877 g55) + 1), .inl (g55 : Int), .inr (.inr 1877)]) rfl ?_
              refine h_nrm (fun y59 hy59 => ?_)
              refine h_run 0 (pc' := 181) (l' := [(0, .inr (.inr 1826)), (1, .inl (i : Int)), (2, .inl (o : Int)), (3, .inl (H.1 1826 89)), (4, .inl ty), (5, .inr (.inl se)), (7, .inl (b : Int)), (8, .inl (cn : Int)), (9, .inl (H1.1 1826 89)), (10, .inl (g55 : Int))]) (st' := [.inl y59, .inl (g55 : Int), .inr (.inr 1877)]) rfl ?_
              refine h_ist (c := 1877) (j := g55) (i := (g55 : Int)) (x := y59) rfl rfl (by decide) (by decide) rfl (by omega) (by omega) ?_
              refine h_run 4 (pc' := 189) (l' := [(0, .inr (.inr 1826)), (1, .inl (i : Int)), (2, .inl (o : Int)), (3, .inl (H.1 1826 89)), (4, .inl ty), (5, .inr (.inl se)), (7, .inl (b : Int)), (8, .inl (cn : Int)), (9, .inl (H1.1 1826 89)), (10, .inl (g55 : Int))]) (st' := [.inl (g55 : Int), .inr (.inr 1876), .inl (g55 : Int), .inr (.inr 1876)]) rfl ?_
              refine h_lld (c := 1876) (j := g55) (i := (g55 : Int)) rfl rfl (by decide) rfl (by omega) ?_
              have g60 : -9223372036854775808 ≤ (H54.1 1876 g55) ∧ (H54.1 1876 g55) ≤ 9223372036854775807 := hrg56.2 1876 g55 40 .long rfl (by omega)
              refine h_run 0 (pc' := 190) (l' := [(0, .inr (.inr 1826)), (1, .inl (i : Int)), (2, .inl (o : Int)), (3, .inl (H.1 1826 89)), (4, .inl ty), (5, .inr (.inl se)), (7, .inl (b : Int)), (8, .inl (cn : Int)), (9, .inl (H1.1 1826 89)), (10, .inl (g55 : Int))]) (st' := [.inr (.inl (H54.1 1876 g55)), .inl (g55 : Int), .inr (.inr 1876)]) rfl ?_
              refine h_run 2 (pc' := 193) (l' := [(0, .inr (.inr 1826)), (1, .inl (i : Int)), (2, .inl (o : Int)), (3, .inl (H.1 1826 89)), (4, .inl ty), (5, .inr (.inl se)), (7, .inl (b : Int)), (8, .inl (cn : Int)), (9, .inl (H1.1 1826 89)), (10, .inl (g55 : Int))]) (st' := [.inr (.inl (z_lor (H54.1 1876 g55) se)), .inl (g55 : Int), .inr (.inr 1876)]) rfl ?_
              refine h_lst (c := 1876) (j := g55) (i := (g55 : Int)) (x := (z_lor (H54.1 1876 g55) se)) rfl rfl (by decide) (by decide) rfl (by omega) (z_long _) ?_
              refine h_run 2 (pc' := 197) (l' := [(0, .inr (.inr 1826)), (1, .inl (i : Int)), (2, .inl (o : Int)), (3, .inl (H.1 1826 89)), (4, .inl ty), (5, .inr (.inl se)), (7, .inl (b : Int)), (8, .inl (cn : Int)), (9, .inl (H1.1 1826 89)), (10, .inl (g55 : Int))]) (st' := [.inl (-1), .inl (cn : Int)]) rfl ?_
              refine h_ine (off := 18) (t := 215) rfl rfl (by omega) (by decide) (fun c61 => ?_) (fun c61 => ?_)
              · have hca := (pw1 cn (by omega)).1
                obtain ⟨q, hq⟩ : ∃ q : Nat, (H.1 1830) cn = (q : Int) := ⟨((H.1 1830) cn).toNat, by omega⟩
                refine h_run 3 (pc' := 219) (l' := [(0, .inr (.inr 1826)), (1, .inl (i : Int)), (2, .inl (o : Int)), (3, .inl (H.1 1826 89)), (4, .inl ty), (5, .inr (.inl se)), (7, .inl (b : Int)), (8, .inl (cn : Int)), (9, .inl (H1.1 1826 89)), (10, .inl (g55 : Int))]) (st' := [.inl 0, .inl (cn : Int), .inr (.inr 1826)]) rfl ?_
                have g63 : -2147483648 ≤ (H54.1 1826 3) ∧ (H54.1 1826 3) ≤ 2147483647 := hrg56.1 1826 13 3 _ .int rfl rfl
                have e64 : (H54.1 1826 3) = (H1.1 1826 3) := hfH54.2.2 3 (by decide)
                have g65 : -2147483648 ≤ (H54.1 1826 89) ∧ (H54.1 1826 89) ≤ 2147483647 := hrg56.1 1826 13 89 _ .int rfl rfl
                have e66 : (H54.1 1826 89) = (H1.1 1826 89) := hfH54.2.2 89 (by decide)
                have rg67 : RG H (zu (zu H54 1877 (up (H54.1 1877) g55 y59)) 1876 (up ((zu H54 1877 (up (H54.1 1877) g55 y59)).1 1876) g55 (z_lor (H54.1 1876 g55) se))) n (m + 1) g55 1 := RG_fr0 hRGH54 (show fr [] [1876, 1877] H54 (zu (zu H54 1877 (up (H54.1 1877) g55 y59)) 1876 (up ((zu H54 1877 (up (H54.1 1877) g55 y59)).1 1876) g55 (z_lor (H54.1 1876 g55) se))) from (fr_a (fr_a (fr_rf _ _ _) (by decide)) (by decide))) (by decide) (by decide) (by decide)
                have hPH62 : PWc (zu (zu H54 1877 (up (H54.1 1877) g55 y59)) 1876 (up ((zu H54 1877 (up (H54.1 1877) g55 y59)).1 1876) g55 (z_lor (H54.1 1876 g55) se))) := PWc_fr hP (fr_a (fr_a hf57 (by decide)) (by decide)) (by decide) (by decide)
                have hQH62 : sP H (zu (zu H54 1877 (up (H54.1 1877) g55 y59)) 1876 (up ((zu H54 1877 (up (H54.1 1877) g55 y59)).1 1876) g55 (z_lor (H54.1 1876 g55) se))) := sP_fr (sP_rf H) (fr_a (fr_a hf57 (by decide)) (by decide)) (by decide) (by decide)
                refine h_cv (i := 623) (j := 249) (b := 1826) (M' := mt_249) (xs := [.inl 0, .inl (cn : Int)]) (rest := []) rfl rfl rfl rfl rfl rfl (Nat.le_of_ble_eq_true rfl) (Nat.le_of_ble_eq_true rfl) (by omega) (m_isNew (q := q) (by omega) hPH62 (show (_ : Int) < (H54.1 1826 3) by omega) (by rw [hQH62.2.1]; exact hq) (show 0 ≤ (H54.1 1826 89) ∧ (H54.1 1826 89) ≤ 60 by omega) (by omega)) ?_
                rintro _ H62 ⟨hfH62, hsH62, (⟨rfl, hvH62⟩ | ⟨rfl, hvH62, hwH62, htH62⟩)⟩
                · refine h_rng (fun hrg68 => ?_)
                  have hf69 : fr [53, 76, 77, 89, 93, 95, 99, 101] [1847, 1856, 1871, 1872, 1873, 1874, 1875, 1876, 1877, 1878, 1879, 1880, 1881, 1882, 1883, 1884, 1885, 1887, 1888] H H62 := fr_t (fr_a (fr_a hf57 (by decide)) (by decide)) hfH62 (by decide) (by decide)
                  have hRGH62 : RG H H62 n (m + 1) g55 1 := RG_fr0 rg67 hfH62 (by decide) (by decide) (by decide)
                  have hooH62 : (H62.1 1871) 0 = (o : Int) := (congrFun (hfH62.2.1 1871 (by decide) (by decide)) 0).trans hooH54
                  have hvxH62 : (H62.1 1826 89) = (H54.1 1826 89) := hvH62
                  refine h_run 0 (pc' := 222) (l' := [(0, .inr (.inr 1826)), (1, .inl (i : Int)), (2, .inl (o : Int)), (3, .inl (H.1 1826 89)), (4, .inl ty), (5, .inr (.inl se)), (7, .inl (b : Int)), (8, .inl (cn : Int)), (9, .inl (H1.1 1826 89)), (10, .inl (g55 : Int))]) (st' := [.inl 0]) rfl ?_
                  refine h_run 3 (pc' := 228) (l' := [(0, .inr (.inr 1826)), (1, .inl (i : Int)), (2, .inl (o : Int)), (3, .inl (H.1 1826 89)), (4, .inl ty), (5, .inr (.inl se)), (7, .inl 0), (8, .inl (cn : Int)), (9, .inl (H1.1 1826 89)), (10, .inl (g55 : Int)), (11, .inl (H1.1 1826 89))]) (st' := []) rfl ?_
                  have g70 : -2147483648 ≤ (H62.1 1826 89) ∧ (H62.1 1826 89) ≤ 2147483647 := hrg68.1 1826 13 89 _ .int rfl rfl
                  have g71 : -2147483648 ≤ (H62.1 1826 101) ∧ (H62.1 1826 101) ≤ 2147483647 := hrg68.1 1826 13 101 _ .int rfl rfl
                  have e72 : (H62.1 1826 101) = (H54.1 1826 101) := hfH62.2.2 101 (by decide)
                  have e73 : (H54.1 1826 101) = (H1.1 1826 101) := hfH54.2.2 101 (by decide)
                  have g74 : -2147483648 ≤ (H62.1 1826 99) ∧ (H62.1 1826 99) ≤ 2147483647 := hrg68.1 1826 13 99 _ .int rfl rfl
                  rw [show (H1.1 1826 89) = ((((H1.1 1826 89)).toNat : Nat) : Int) by omega]
                  exact ih.2.2 _ ty se 0 (cn : Int) ((H1.1 1826 89)).toNat g55 ((H1.1 1826 89)).toNat (m + 1) ((1 + q)) hf69 (by omega) (by omega) (by omega) (RG_b (RG_fr0 hRGH62 (show fr [] [] H62 H62 from (fr_rf _ _ _)) (by decide) (by decide) (by decide)) _ (fun q9 => absurd q9 (by decide))) hooH62 (by omega : 0 ≤ (H62.1 1826 89) ∧ (H62.1 1826 89) ≤ 60) (by omega : (H62.1 1826 101) = (cs : Int)) (by omega) (show tm (ma (H.1 1833) (H.1 1830)) (m_sg (H.1 1826 3) (H.1 1826 8) 60) (H62.1 1888) cs 0 1 by rw [show (H62.1 1888) = (H54.1 1888) from hfH62.2.1 1888 (by decide) (by decide), show (H54.1 1888) = (H1.1 1888) from hfH54.2.1 1888 (by decide) (by decide)]; exact hct) (by omega) (fun q9 => absurd q9 (by decide)) (by omega : (100000 - 1000 * (cn : Int) - 10 * ((H1.1 1826 89)).toNat - 10).toNat < w)
                · refine h_rng (fun hrg75 => ?_)
                  have hf76 : fr [53, 76, 77, 89, 93, 95, 99, 101] [1847, 1856, 1871, 1872, 1873, 1874, 1875, 1876, 1877, 1878, 1879, 1880, 1881, 1882, 1883, 1884, 1885, 1887, 1888] H H62 := fr_t (fr_a (fr_a hf57 (by decide)) (by decide)) hfH62 (by decide) (by decide)
                  have hRGH62 : RG H H62 n (m + 1) g55 1 := RG_fr0 rg67 hfH62 (by decide) (by decide) (by decide)
                  have hooH62 : (H62.1 1871) 0 = (o : Int) := (congrFun (hfH62.2.1 1871 (by decide) (by decide)) 0).trans hooH54
                  have hvxH62 : (H62.1 1826 89) = (H54.1 1826 89) + (q : Int) ∧ (H54.1 1826 89) + (q : Int) ≤ 60 := ⟨hvH62, hwH62⟩
                  have hstH62 : tm (ma (H.1 1833) (H.1 1830)) (m_sg (H.1 1826 3) (H.1 1826 8) 60) (H62.1 1887) (1 + q) 0 1 := by have h9 := htH62; rw [hQH62.1, hQH62.2.1, hQH62.2.2.1, hQH62.2.2.2] at h9; exact h9
                  refine h_run 0 (pc' := 222) (l' := [(0, .inr (.inr 1826)), (1, .inl (i : Int)), (2, .inl (o : Int)), (3, .inl (H.1 1826 89)), (4, .inl ty), (5, .inr (.inl se)), (7, .inl (b : Int)), (8, .inl (cn : Int)), (9, .inl (H1.1 1826 89)), (10, .inl (g55 : Int))]) (st' := [.inl 1]) rfl ?_
                  refine h_run 3 (pc' := 228) (l' := [(0, .inr (.inr 1826)), (1, .inl (i : Int)), (2, .inl (o : Int)), (3, .inl (H.1 1826 89)), (4, .inl ty), (5, .inr (.inl se)), (7, .inl 1), (8, .inl (cn : Int)), (9, .inl (H1.1 1826 89)), (10, .inl (g55 : Int)), (11, .inl (H1.1 1826 89))]) (st' := []) rfl ?_
                  have g77 : -2147483648 ≤ (H62.1 1826 89) ∧ (H62.1 1826 89) ≤ 2147483647 := hrg75.1 1826 13 89 _ .int rfl rfl
                  have g78 : -2147483648 ≤ (H62.1 1826 101) ∧ (H62.1 1826 101) ≤ 2147483647 := hrg75.1 1826 13 101 _ .int rfl rfl
                  have e79 : (H62.1 1826 101) = (H54.1 1826 101) := hfH62.2.2 101 (by decide)
                  have e80 : (H54.1 1826 101) = (H1.1 1826 101) := hfH54.2.2 101 (by decide)
                  have g81 : -2147483648 ≤ (H62.1 1826 99) ∧ (H62.1 1826 99) ≤ 2147483647 := hrg75.1 1826 13 99 _ .int rfl rfl
                  rw [show (H1.1 1826 89) = ((((H1.1 1826 89)).toNat : Nat) : Int) by omega]
                  exact ih.2.2 _ ty se 1 (cn : Int) ((H1.1 1826 89)).toNat g55 ((H1.1 1826 89)).toNat (m + 1) ((1 + q)) hf76 (by omega) (by omega) (by omega) (RG_fr0 hRGH62 (show fr [] [] H62 H62 from (fr_rf _ _ _)) (by decide) (by decide) (by decide)) hooH62 (by omega : 0 ≤ (H62.1 1826 89) ∧ (H62.1 1826 89) ≤ 60) (by omega : (H62.1 1826 101) = (cs : Int)) (by omega) (show tm (ma (H.1 1833) (H.1 1830)) (m_sg (H.1 1826 3) (H.1 1826 8) 60) (H62.1 1888) cs 0 1 by rw [show (H62.1 1888) = (H54.1 1888) from hfH62.2.1 1888 (by decide) (by decide), show (H54.1 1888) = (H1.1 1888) from hfH54.2.1 1888 (by decide) (by decide)]; exact hct) (by omega) (fun _ => ⟨(show (H62.1 1826 99) = (((1 + q) : Nat) : Int) by omega), by omega, hstH62⟩) (by omega : (100000 - 1000 * (cn : Int) - 10 * ((H1.1 1826 89)).toNat - 10).toNat < w)
              · refine h_run 4 (pc' := 206) (l' := [(0, .inr (.inr 1826)), (1, .inl (i : Int)), (2, .inl (o : Int)), (3, .inl (H.1 1826 89)), (4, .inl ty), (5, .inr (.inl se)), (7, .inl (b : Int)), (8, .inl (cn : Int)), (9, .inl (H1.1 1826 89)), (10, .inl (g55 : Int))]) (st' := [.inl 0, .inl 0, .inr (.inr 1887)]) rfl ?_
                refine h_ist (c := 1887) (j := 0) (i := 0) (x := 0) rfl rfl (by decide) (by decide) rfl (by omega) (by decide) ?_
                refine h_run 2 (pc' := 209) (l' := [(0, .inr (.inr 1826)), (1, .inl (i : Int)), (2, .inl (o : Int)), (3, .inl (H.1 1826 89)), (4, .inl ty), (5, .inr (.inl se)), (7, .inl (b : Int)), (8, .inl (cn : Int)), (9, .inl (H1.1 1826 89)), (10, .inl (g55 : Int))]) (st' := [.inl 1, .inr (.inr 1826)]) rfl ?_
                refine h_puti (i := 604) (ci := 13) (k := 99) (a := 1826) (x := 1) rfl rfl rfl rfl rfl rfl (by decide) (by decide) ?_
                refine h_run 3 (pc' := 228) (l' := [(0, .inr (.inr 1826)), (1, .inl (i : Int)), (2, .inl (o : Int)), (3, .inl (H.1 1826 89)), (4, .inl ty), (5, .inr (.inl se)), (7, .inl (b : Int)), (8, .inl (cn : Int)), (9, .inl (H1.1 1826 89)), (10, .inl (g55 : Int)), (11, .inl (H1.1 1826 89))]) (st' := []) rfl ?_
                have g82 : -2147483648 ≤ (H54.1 1826 89) ∧ (H54.1 1826 89) ≤ 2147483647 := hrg56.1 1826 13 89 _ .int rfl rfl
                have e83 : (H54.1 1826 89) = (H1.1 1826 89) := hfH54.2.2 89 (by decide)
                have g84 : -2147483648 ≤ (H54.1 1826 101) ∧ (H54.1 1826 101) ≤ 2147483647 := hrg56.1 1826 13 101 _ .int rfl rfl
                have e85 : (H54.1 1826 101) = (H1.1 1826 101) := hfH54.2.2 101 (by decide)
                rw [show (H1.1 1826 89) = ((((H1.1 1826 89)).toNat : Nat) : Int) by omega]
                exact ih.2.2 _ ty se b (cn : Int) ((H1.1 1826 89)).toNat g55 ((H1.1 1826 89)).toNat (m + 1) (1) (fr_o (fr_a (fr_a (fr_a hf57 (by decide)) (by decide)) (by decide)) (by decide)) (by omega) (by omega) (by omega) (RG_b (RG_fr0 hRGH54 (show fr [99] [1876, 1877, 1887] H54 (zu (zu (zu (zu H54 1877 (up (H54.1 1877) g55 y59)) 1876 (up ((zu H54 1877 (up (H54.1 1877) g55 y59)).1 1876) g55 (z_lor (H54.1 1876 g55) se))) 1887 (up ((zu (zu H54 1877 (up (H54.1 1877) g55 y59)) 1876 (up ((zu H54 1877 (up (H54.1 1877) g55 y59)).1 1876) g55 (z_lor (H54.1 1876 g55) se))).1 1887) 0 0)) 1826 (up ((zu (zu (zu H54 1877 (up (H54.1 1877) g55 y59)) 1876 (up ((zu H54 1877 (up (H54.1 1877) g55 y59)).1 1876) g55 (z_lor (H54.1 1876 g55) se))) 1887 (up ((zu (zu H54 1877 (up (H54.1 1877) g55 y59)) 1876 (up ((zu H54 1877 (up (H54.1 1877) g55 y59)).1 1876) g55 (z_lor (H54.1 1876 g55) se))).1 1887) 0 0)).1 1826) 99 1)) from (fr_o (fr_a (fr_a (fr_a (fr_rf _ _ _) (by decide)) (by decide)) (by decide)) (by decide))) (by decide) (by decide) (by decide)) _ (fun _ => (RG_fr0 hRGH54 (show fr [99] [1876, 1877, 1887] H54 (zu (zu (zu (zu H54 1877 (up (H54.1 1877) g55 y59)) 1876 (up ((zu H54 1877 (up (H54.1 1877) g55 y59)).1 1876) g55 (z_lor (H54.1 1876 g55) se))) 1887 (up ((zu (zu H54 1877 (up (H54.1 1877) g55 y59)) 1876 (up ((zu H54 1877 (up (H54.1 1877) g55 y59)).1 1876) g55 (z_lor (H54.1 1876 g55) se))).1 1887) 0 0)) 1826 (up ((zu (zu (zu H54 1877 (up (H54.1 1877) g55 y59)) 1876 (up ((zu H54 1877 (up (H54.1 1877) g55 y59)).1 1876) g55 (z_lor (H54.1 1876 g55) se))) 1887 (up ((zu (zu H54 1877 (up (H54.1 1877) g55 y59)) 1876 (up ((zu H54 1877 (up (H54.1 1877) g55 y59)).1 1876) g55 (z_lor (H54.1 1876 g55) se))).1 1887) 0 0)).1 1826) 99 1)) from (fr_o (fr_a (fr_a (fr_a (fr_rf _ _ _) (by decide)) (by decide)) (by decide)) (by decide))) (by decide) (by decide) (by decide)).2.2.2.2 rfl)) hooH54 (by omega : 0 ≤ (H54.1 1826 89) ∧ (H54.1 1826 89) ≤ 60) (by omega : (H54.1 1826 101) = (cs : Int)) (by omega) (show tm (ma (H.1 1833) (H.1 1830)) (m_sg (H.1 1826 3) (H.1 1826 8) 60) (H54.1 1888) cs 0 1 by rw [show (H54.1 1888) = (H1.1 1888) from hfH54.2.1 1888 (by decide) (by decide)]; exact hct) (by omega) (fun _ => ⟨(show (1 : Int) = ((1 : Nat) : Int) by omega), by omega, (tm_one (show up (H54.1 1887) 0 0 0 = 0 from up_eq _ _ _))⟩) (by omega : (100000 - 1000 * (cn : Int) - 10 * ((H1.1 1826 89)).toNat - 10).toNat < w)
    · intro H1 ty se b c fi g k m sn hf hb hc hm hR hoo hvv1 hcz hcs9 hct hk hst9 hw
      refine h_rng (fun hrg86 => ?_)
      have hQ1 : sP H H1 := sP_fr (sP_rf H) hf (by decide) (by decide)
      have hP1 : PWc H1 := PWc_fr hP hf (by decide) (by decide)
      obtain ⟨⟨pb1, pb2, pb3, pb4, pb5⟩, pw1, pw2, pw3, pw4⟩ := (id hP : PW H (H.1 1826 1) (H.1 1826 3) (H.1 1826 8) (H.1 1826 13) (H.1 1826 19))
      obtain ⟨ol, ou, og⟩ := RS_o hO ho1
      have hgl := RG_lt hR
      refine h_run 3 (pc' := 234) (l' := [(0, .inr (.inr 1826)), (1, .inl (i : Int)), (2, .inl (o : Int)), (3, .inl (H.1 1826 89)), (4, .inl ty), (5, .inr (.inl se)), (7, .inl (b : Int)), (8, .inl c), (9, .inl (fi : Int)), (10, .inl (g : Int)), (11, .inl (k : Int))]) (st' := [.inl (H1.1 1826 89), .inl (k : Int)]) rfl ?_
      have g87 : -2147483648 ≤ (H1.1 1826 89) ∧ (H1.1 1826 89) ≤ 2147483647 := hrg86.1 1826 13 89 _ .int rfl rfl
      refine h_ige (off := 23) (t := 257) rfl rfl (by omega) (by omega) (fun c88 => ?_) (fun c88 => ?_)
      · refine h_run 1 (pc' := 259) (l' := [(0, .inr (.inr 1826)), (1, .inl (i : Int)), (2, .inl (o : Int)), (3, .inl (H.1 1826 89)), (4, .inl ty), (5, .inr (.inl se)), (7, .inl (b : Int)), (8, .inl c), (9, .inl (fi : Int)), (10, .inl (g : Int)), (11, .inl (k : Int))]) (st' := [.inl (b : Int)]) rfl ?_
        refine h_zeq (off := 26) (t := 285) rfl rfl (by omega) (fun c89 => ?_) (fun c89 => ?_)
        · refine h_run 4 (pc' := 126) (l' := [(0, .inr (.inr 1826)), (1, .inl (i : Int)), (2, .inl (o : Int)), (3, .inl (H.1 1826 89)), (4, .inl ty), (5, .inr (.inl se)), (7, .inl 0), (8, .inl (c + 1)), (9, .inl (fi : Int)), (10, .inl (g : Int)), (11, .inl (k : Int))]) (st' := []) rfl ?_
          have g90 : -2147483648 ≤ (H1.1 1826 101) ∧ (H1.1 1826 101) ≤ 2147483647 := hrg86.1 1826 13 101 _ .int rfl rfl
          refine h_loc [0, 1, 2, 3, 4, 5, 7, 8] rfl ?_
          exact ih.2.1 _ ty se 0 (c + 1) (m) hf (by omega) (by omega) (by omega) (RG_RW (RG_b hR _ (fun q9 => absurd q9 (by decide)))) hoo (by omega : 0 ≤ (H1.1 1826 89) ∧ (H1.1 1826 89) ≤ 60) (by omega : (H1.1 1826 101) = (cs : Int)) (by omega) hct (by omega : (100000 - 1000 * (c + 1)).toNat < w)
        · have hRGH1 : RG H H1 n m g 1 := by have h9 := hR; rw [show b = 1 by omega] at h9; exact h9
          have hooH1 := hoo
          have hsz9 := (hst9 (by omega)).1
          have hsz8 := (hst9 (by omega)).2.1
          refine h_run 3 (pc' := 266) (l' := [(0, .inr (.inr 1826)), (1, .inl (i : Int)), (2, .inl (o : Int)), (3, .inl (H.1 1826 89)), (4, .inl ty), (5, .inr (.inl se)), (7, .inl (b : Int)), (8, .inl c), (9, .inl (fi : Int)), (10, .inl (g : Int)), (11, .inl (k : Int))]) (st' := [.inl (o : Int), .inl (g : Int), .inr (.inr 1826)]) rfl ?_
          have g93 : -2147483648 ≤ (H1.1 1826 99) ∧ (H1.1 1826 99) ≤ 2147483647 := hrg86.1 1826 13 99 _ .int rfl rfl
          have g94 : -2147483648 ≤ (H1.1 1826 101) ∧ (H1.1 1826 101) ≤ 2147483647 := hrg86.1 1826 13 101 _ .int rfl rfl
          have rg92 := hRGH1
          obtain ⟨o1rg92, o2rg92, o3rg92⟩ := RS_o rg92.1 (show (H1.1 1871) 0 = (o : Int) from hooH1)
          have hQH91 : sP H H1 := sP_fr (sP_rf H) hf (by decide) (by decide)
          refine h_cv (i := 650) (j := 259) (b := 1826) (M' := mt_259) (xs := [.inl (o : Int), .inl (g : Int)]) (rest := []) rfl rfl rfl rfl rfl rfl (Nat.le_of_ble_eq_true rfl) (Nat.le_of_ble_eq_true rfl) (by omega) (m_isCallPut (P := H) (cs := cs) (sn := sn) (by omega) hQH91 ⟨RG_lt rg92, o1rg92, RG_ne rg92 (show (H1.1 1871) 0 = (o : Int) from hooH1)⟩ o3rg92.1 (show (H1.1 1826 101) = (cs : Int) ∧ 1 ≤ cs ∧ cs ≤ 60 by omega) hct (show (H1.1 1826 99) = ((sn : Nat) : Int) ∧ sn ≤ 4 by omega) (hst9 (by omega)).2.2) ?_
          rintro _ H91 ⟨hfH91, hkH91, (rfl | ⟨rfl, hxH91⟩)⟩
          · refine h_rng (fun hrg95 => ?_)
            have hf96 : fr [53, 76, 77, 89, 93, 95, 99, 101] [1847, 1856, 1871, 1872, 1873, 1874, 1875, 1876, 1877, 1878, 1879, 1880, 1881, 1882, 1883, 1884, 1885, 1887, 1888] H H91 := fr_t hf hfH91 (by decide) (by decide)
            have hooH91 : (H91.1 1871) 0 = (o : Int) := (congrFun (hfH91.2.1 1871 (by decide) (by decide)) 0).trans hooH1
            have hRZH91 : RG H H91 n m g 0 := RG_fr rg92 hfH91 (by decide) (by decide) (fun x hx => ⟨hkH91 x hx, sH_fr hfH91 (by decide) x⟩) (fun q9 => absurd q9 (by decide))
            refine h_run 0 (pc' := 269) (l' := [(0, .inr (.inr 1826)), (1, .inl (i : Int)), (2, .inl (o : Int)), (3, .inl (H.1 1826 89)), (4, .inl ty), (5, .inr (.inl se)), (7, .inl (b : Int)), (8, .inl c), (9, .inl (fi : Int)), (10, .inl (g : Int)), (11, .inl (k : Int))]) (st' := [.inl 0]) rfl ?_
            refine h_zeq (off := 16) (t := 285) rfl rfl (by decide) (fun _ => ?_) (fun c => absurd c (by decide))
            refine h_run 4 (pc' := 126) (l' := [(0, .inr (.inr 1826)), (1, .inl (i : Int)), (2, .inl (o : Int)), (3, .inl (H.1 1826 89)), (4, .inl ty), (5, .inr (.inl se)), (7, .inl 0), (8, .inl (c + 1)), (9, .inl (fi : Int)), (10, .inl (g : Int)), (11, .inl (k : Int))]) (st' := []) rfl ?_
            have g97 : -2147483648 ≤ (H91.1 1826 89) ∧ (H91.1 1826 89) ≤ 2147483647 := hrg95.1 1826 13 89 _ .int rfl rfl
            have e98 : (H91.1 1826 89) = (H1.1 1826 89) := hfH91.2.2 89 (by decide)
            have g99 : -2147483648 ≤ (H91.1 1826 101) ∧ (H91.1 1826 101) ≤ 2147483647 := hrg95.1 1826 13 101 _ .int rfl rfl
            have e100 : (H91.1 1826 101) = (H1.1 1826 101) := hfH91.2.2 101 (by decide)
            refine h_loc [0, 1, 2, 3, 4, 5, 7, 8] rfl ?_
            exact ih.2.1 _ ty se 0 (c + 1) (m) hf96 (by omega) (by omega) (by omega) (RG_RW hRZH91) hooH91 (by omega : 0 ≤ (H91.1 1826 89) ∧ (H91.1 1826 89) ≤ 60) (by omega : (H91.1 1826 101) = (cs : Int)) (by omega) (show tm (ma (H.1 1833) (H.1 1830)) (m_sg (H.1 1826 3) (H.1 1826 8) 60) (H91.1 1888) cs 0 1 by rw [show (H91.1 1888) = (H1.1 1888) from hfH91.2.1 1888 (by decide) (by decide)]; exact hct) (by omega : (100000 - 1000 * (c + 1)).toNat < w)
          · refine h_rng (fun hrg101 => ?_)
            have hf102 : fr [53, 76, 77, 89, 93, 95, 99, 101] [1847, 1856, 1871, 1872, 1873, 1874, 1875, 1876, 1877, 1878, 1879, 1880, 1881, 1882, 1883, 1884, 1885, 1887, 1888] H H91 := fr_t hf hfH91 (by decide) (by decide)
            have hooH91 : (H91.1 1871) 0 = (o : Int) := (congrFun (hfH91.2.1 1871 (by decide) (by decide)) 0).trans hooH1
            have hRGH91 : RG H H91 n m g 1 := RG_fr rg92 hfH91 (by decide) (by decide) (fun x hx => ⟨hkH91 x hx, sH_fr hfH91 (by decide) x⟩) (fun _ => ⟨hxH91, hys_s (rg92.2.2.2.2 rfl).2 (sH_fr hfH91 (by decide) g)⟩)
            refine h_run 0 (pc' := 269) (l' := [(0, .inr (.inr 1826)), (1, .inl (i : Int)), (2, .inl (o : Int)), (3, .inl (H.1 1826 89)), (4, .inl ty), (5, .inr (.inl se)), (7, .inl (b : Int)), (8, .inl c), (9, .inl (fi : Int)), (10, .inl (g : Int)), (11, .inl (k : Int))]) (st' := [.inl 1]) rfl ?_
            refine h_zeq (off := 16) (t := 285) rfl rfl (by decide) (fun c => absurd c (by decide)) (fun _ => ?_)
            refine h_run 2 (pc' := 275) (l' := [(0, .inr (.inr 1826)), (1, .inl (i : Int)), (2, .inl (o : Int)), (3, .inl (H.1 1826 89)), (4, .inl ty), (5, .inr (.inl se)), (7, .inl (b : Int)), (8, .inl c), (9, .inl (fi : Int)), (10, .inl (g : Int)), (11, .inl (k : Int))]) (st' := [.inl (g : Int), .inr (.inr 1826)]) rfl ?_
            have g106 : -2147483648 ≤ (H91.1 1826 99) ∧ (H91.1 1826 99) ≤ 2147483647 := hrg101.1 1826 13 99 _ .int rfl rfl
            have e107 : (H91.1 1826 99) = (H1.1 1826 99) := hfH91.2.2 99 (by decide)
            have g108 : -2147483648 ≤ (H91.1 1826 101) ∧ (H91.1 1826 101) ≤ 2147483647 := hrg101.1 1826 13 101 _ .int rfl rfl
            have e109 : (H91.1 1826 101) = (H1.1 1826 101) := hfH91.2.2 101 (by decide)
            have rg104 := hRGH91
            obtain ⟨o1rg104, o2rg104, o3rg104⟩ := RS_o rg104.1 (show (H91.1 1871) 0 = (o : Int) from hooH91)
            obtain ⟨ny105, ny1051, ny1052, ny1053⟩ := (rg104.2.2.2.2 rfl).2
            have hQH103 : sP H H91 := sP_fr (sP_rf H) hf102 (by decide) (by decide)
            refine h_cv (i := 653) (j := 260) (b := 1826) (M' := mt_260) (xs := [.inl (g : Int)]) (rest := []) rfl rfl rfl rfl rfl rfl (Nat.le_of_ble_eq_true rfl) (Nat.le_of_ble_eq_true rfl) (by omega) (m_isToldFor (P := H) (cs := cs) (sn := sn) (by omega) (RG_lt rg104) ⟨ny1051, ny1052⟩ ny1053 (show (H91.1 1826 101) = (cs : Int) ∧ 1 ≤ cs ∧ cs ≤ 60 by omega) (show tm (ma (H.1 1833) (H.1 1830)) (m_sg (H.1 1826 3) (H.1 1826 8) 60) (H91.1 1888) cs 0 1 by rw [show (H91.1 1888) = (H1.1 1888) from hfH91.2.1 1888 (by decide) (by decide)]; exact hct) (show (H91.1 1826 99) = ((sn : Nat) : Int) ∧ sn ≤ 4 by omega) (by rw [show (H91.1 1887) = (H1.1 1887) from hfH91.2.1 1887 (by decide) (by decide)]; exact (hst9 (by omega)).2.2)) ?_
            rintro _ H103 ⟨hfH103, hkH103, hyH103, (rfl | rfl)⟩
            · refine h_rng (fun hrg110 => ?_)
              have hf111 : fr [53, 76, 77, 89, 93, 95, 99, 101] [1847, 1856, 1871, 1872, 1873, 1874, 1875, 1876, 1877, 1878, 1879, 1880, 1881, 1882, 1883, 1884, 1885, 1887, 1888] H H103 := fr_t hf102 hfH103 (by decide) (by decide)
              have hooH103 : (H103.1 1871) 0 = (o : Int) := (congrFun (hfH103.2.1 1871 (by decide) (by decide)) 0).trans hooH91
              have hRGH103 : RG H H103 n m g 1 := RG_fr rg104 hfH103 (by decide) (by decide) (fun x hx => ⟨sS_fr hfH103 (by decide) x, hkH103 x hx⟩) (fun _ => ⟨(fun s hs => sOK_s ((rg104.2.2.2.2 rfl).1 s hs) hs (sS_fr hfH103 (by decide) g)), hyH103⟩)
              have hRZH103 : RG H H103 n m g 0 := RG_b hRGH103 _ (fun q9 => absurd q9 (by decide))
              refine h_run 0 (pc' := 278) (l' := [(0, .inr (.inr 1826)), (1, .inl (i : Int)), (2, .inl (o : Int)), (3, .inl (H.1 1826 89)), (4, .inl ty), (5, .inr (.inl se)), (7, .inl (b : Int)), (8, .inl c), (9, .inl (fi : Int)), (10, .inl (g : Int)), (11, .inl (k : Int))]) (st' := [.inl 0]) rfl ?_
              refine h_zeq (off := 7) (t := 285) rfl rfl (by decide) (fun _ => ?_) (fun c => absurd c (by decide))
              refine h_run 4 (pc' := 126) (l' := [(0, .inr (.inr 1826)), (1, .inl (i : Int)), (2, .inl (o : Int)), (3, .inl (H.1 1826 89)), (4, .inl ty), (5, .inr (.inl se)), (7, .inl 0), (8, .inl (c + 1)), (9, .inl (fi : Int)), (10, .inl (g : Int)), (11, .inl (k : Int))]) (st' := []) rfl ?_
              have g112 : -2147483648 ≤ (H103.1 1826 89) ∧ (H103.1 1826 89) ≤ 2147483647 := hrg110.1 1826 13 89 _ .int rfl rfl
              have e113 : (H103.1 1826 89) = (H91.1 1826 89) := hfH103.2.2 89 (by decide)
              have e114 : (H91.1 1826 89) = (H1.1 1826 89) := hfH91.2.2 89 (by decide)
              have g115 : -2147483648 ≤ (H103.1 1826 101) ∧ (H103.1 1826 101) ≤ 2147483647 := hrg110.1 1826 13 101 _ .int rfl rfl
              have e116 : (H103.1 1826 101) = (H91.1 1826 101) := hfH103.2.2 101 (by decide)
              refine h_loc [0, 1, 2, 3, 4, 5, 7, 8] rfl ?_
              exact ih.2.1 _ ty se 0 (c + 1) (m) hf111 (by omega) (by omega) (by omega) (RG_RW hRZH103) hooH103 (by omega : 0 ≤ (H103.1 1826 89) ∧ (H103.1 1826 89) ≤ 60) (by omega : (H103.1 1826 101) = (cs : Int)) (by omega) (show tm (ma (H.1 1833) (H.1 1830)) (m_sg (H.1 1826 3) (H.1 1826 8) 60) (H103.1 1888) cs 0 1 by rw [show (H103.1 1888) = (H91.1 1888) from hfH103.2.1 1888 (by decide) (by decide), show (H91.1 1888) = (H1.1 1888) from hfH91.2.1 1888 (by decide) (by decide)]; exact hct) (by omega : (100000 - 1000 * (c + 1)).toNat < w)
            · refine h_rng (fun hrg117 => ?_)
              have hf118 : fr [53, 76, 77, 89, 93, 95, 99, 101] [1847, 1856, 1871, 1872, 1873, 1874, 1875, 1876, 1877, 1878, 1879, 1880, 1881, 1882, 1883, 1884, 1885, 1887, 1888] H H103 := fr_t hf102 hfH103 (by decide) (by decide)
              have hooH103 : (H103.1 1871) 0 = (o : Int) := (congrFun (hfH103.2.1 1871 (by decide) (by decide)) 0).trans hooH91
              have hRGH103 : RG H H103 n m g 1 := RG_fr rg104 hfH103 (by decide) (by decide) (fun x hx => ⟨sS_fr hfH103 (by decide) x, hkH103 x hx⟩) (fun _ => ⟨(fun s hs => sOK_s ((rg104.2.2.2.2 rfl).1 s hs) hs (sS_fr hfH103 (by decide) g)), hyH103⟩)
              have hRZH103 : RG H H103 n m g 0 := RG_b hRGH103 _ (fun q9 => absurd q9 (by decide))
              refine h_run 0 (pc' := 278) (l' := [(0, .inr (.inr 1826)), (1, .inl (i : Int)), (2, .inl (o : Int)), (3, .inl (H.1 1826 89)), (4, .inl ty), (5, .inr (.inl se)), (7, .inl (b : Int)), (8, .inl c), (9, .inl (fi : Int)), (10, .inl (g : Int)), (11, .inl (k : Int))]) (st' := [.inl 1]) rfl ?_
              refine h_zeq (off := 7) (t := 285) rfl rfl (by decide) (fun c => absurd c (by decide)) (fun _ => ?_)
              refine h_run 5 (pc' := 126) (l' := [(0, .inr (.inr 1826)), (1, .inl (i : Int)), (2, .inl (o : Int)), (3, .inl (H.1 1826 89)), (4, .inl ty), (5, .inr (.inl se)), (7, .inl 1), (8, .inl (c + 1)), (9, .inl (fi : Int)), (10, .inl (g : Int)), (11, .inl (k : Int))]) (st' := []) rfl ?_
              have g119 : -2147483648 ≤ (H103.1 1826 89) ∧ (H103.1 1826 89) ≤ 2147483647 := hrg117.1 1826 13 89 _ .int rfl rfl
              have e120 : (H103.1 1826 89) = (H91.1 1826 89) := hfH103.2.2 89 (by decide)
              have e121 : (H91.1 1826 89) = (H1.1 1826 89) := hfH91.2.2 89 (by decide)
              have g122 : -2147483648 ≤ (H103.1 1826 101) ∧ (H103.1 1826 101) ≤ 2147483647 := hrg117.1 1826 13 101 _ .int rfl rfl
              have e123 : (H103.1 1826 101) = (H91.1 1826 101) := hfH103.2.2 101 (by decide)
              refine h_loc [0, 1, 2, 3, 4, 5, 7, 8] rfl ?_
              exact ih.2.1 _ ty se 1 (c + 1) (m) hf118 (by omega) (by omega) (by omega) (RG_RW hRGH103) hooH103 (by omega : 0 ≤ (H103.1 1826 89) ∧ (H103.1 1826 89) ≤ 60) (by omega : (H103.1 1826 101) = (cs : Int)) (by omega) (show tm (ma (H.1 1833) (H.1 1830)) (m_sg (H.1 1826 3) (H.1 1826 8) 60) (H103.1 1888) cs 0 1 by rw [show (H103.1 1888) = (H91.1 1888) from hfH103.2.1 1888 (by decide) (by decide), show (H91.1 1888) = (H1.1 1888) from hfH91.2.1 1888 (by decide) (by decide)]; exact hct) (by omega : (100000 - 1000 * (c + 1)).toNat < w)
      · refine h_run 4 (pc' := 244) (l' := [(0, .inr (.inr 1826)), (1, .inl (i : Int)), (2, .inl (o : Int)), (3, .inl (H.1 1826 89)), (4, .inl ty), (5, .inr (.inl se)), (7, .inl (b : Int)), (8, .inl c), (9, .inl (fi : Int)), (10, .inl (g : Int)), (11, .inl (k : Int))]) (st' := [.inl (g : Int), .inr (.inr 1876), .inl (g : Int), .inr (.inr 1876)]) rfl ?_
        refine h_lld (c := 1876) (j := g) (i := (g : Int)) rfl rfl (by decide) rfl (by omega) ?_
        have g124 : -9223372036854775808 ≤ (H1.1 1876 g) ∧ (H1.1 1876 g) ≤ 9223372036854775807 := hrg86.2 1876 g 40 .long rfl (by omega)
        refine h_run 0 (pc' := 245) (l' := [(0, .inr (.inr 1826)), (1, .inl (i : Int)), (2, .inl (o : Int)), (3, .inl (H.1 1826 89)), (4, .inl ty), (5, .inr (.inl se)), (7, .inl (b : Int)), (8, .inl c), (9, .inl (fi : Int)), (10, .inl (g : Int)), (11, .inl (k : Int))]) (st' := [.inr (.inl (H1.1 1876 g)), .inl (g : Int), .inr (.inr 1876)]) rfl ?_
        refine h_run 4 (pc' := 250) (l' := [(0, .inr (.inr 1826)), (1, .inl (i : Int)), (2, .inl (o : Int)), (3, .inl (H.1 1826 89)), (4, .inl ty), (5, .inr (.inl se)), (7, .inl (b : Int)), (8, .inl c), (9, .inl (fi : Int)), (10, .inl (g : Int)), (11, .inl (k : Int))]) (st' := [.inr (.inl (z_lor (H1.1 1876 g) (z_lshl 1 (k : Int)))), .inl (g : Int), .inr (.inr 1876)]) rfl ?_
        refine h_lst (c := 1876) (j := g) (i := (g : Int)) (x := (z_lor (H1.1 1876 g) (z_lshl 1 (k : Int)))) rfl rfl (by decide) (by decide) rfl (by omega) (z_long _) ?_
        refine h_run 2 (pc' := 228) (l' := [(0, .inr (.inr 1826)), (1, .inl (i : Int)), (2, .inl (o : Int)), (3, .inl (H.1 1826 89)), (4, .inl ty), (5, .inr (.inl se)), (7, .inl (b : Int)), (8, .inl c), (9, .inl (fi : Int)), (10, .inl (g : Int)), (11, .inl ((k : Int) + 1))]) (st' := []) rfl ?_
        have g125 : -2147483648 ≤ (H1.1 1826 101) ∧ (H1.1 1826 101) ≤ 2147483647 := hrg86.1 1826 13 101 _ .int rfl rfl
        have g126 : -2147483648 ≤ (H1.1 1826 99) ∧ (H1.1 1826 99) ≤ 2147483647 := hrg86.1 1826 13 99 _ .int rfl rfl
        rw [show ((k : Int) + 1) = (((k + 1) : Nat) : Int) by omega]
        exact ih.2.2 _ ty se b c fi g (k + 1) (m) (sn) (fr_a hf (by decide)) (by omega) (by omega) (by omega) (RG_fr0 hR (show fr [] [1876] H1 (zu H1 1876 (up (H1.1 1876) g (z_lor (H1.1 1876 g) (z_lshl 1 (k : Int))))) from (fr_a (fr_rf _ _ _) (by decide))) (by decide) (by decide) (by decide)) hoo (by omega : 0 ≤ (H1.1 1826 89) ∧ (H1.1 1826 89) ≤ 60) (by omega : (H1.1 1826 101) = (cs : Int)) (by omega) hct (by omega) hst9 (by omega : (100000 - 1000 * c - 10 * (k + 1) - 10).toNat < w)
set_option maxRecDepth 100000 in
theorem m_casesOfCall {zC : Nat → Option zsh} {d : Nat} (hd : 4 ≤ d) {H : hp} {n o i cs N : Nat} (hP : PWc H) (hO : OS H H n) (hvv : 0 ≤ (H.1 1826 89) ∧ (H.1 1826 89) ≤ 60) (hpr : 0 ≤ (H.1 1826 74) ∧ (H.1 1826 74) < 16) (ho1 : (H.1 1871) 0 = (o : Int)) (hTi : tm (ma (H.1 1833) (H.1 1830)) (m_sg (H.1 1826 3) (H.1 1826 8) 60) (H.1 1884) cs i 1) (hiN : i + cs ≤ N ∧ N ≤ 60) (hnf : 100 ≤ (H.1 1884) i ∧ (H.1 1884) i < 1000) : hG (zs zC) d mt_258 0 (zargs 0 [.inr (.inr 1826), .inl (i : Int)]) [] H (fun r9 H2 => fr [53, 76, 77, 89, 93, 95, 99, 101] [1847, 1856, 1871, 1872, 1873, 1874, 1875, 1876, 1877, 1878, 1879, 1880, 1881, 1882, 1883, 1884, 1885, 1887, 1888] H H2 ∧ (0 ≤ (H2.1 1871) 0 ∧ (H2.1 1871) 0 < 40) ∧ (0 ≤ (H2.1 1826 89) ∧ (H2.1 1826 89) ≤ 60) ∧ ((r9 = some (.inl (-105)) ∧ OS H H2 n) ∨ ∃ n2 : Nat, r9 = some (.inl (n2 : Int)) ∧ (H2.1 1826 77) = (n2 : Int) ∧ (n2 = 0 ∨ OS H H2 n2))) := by
  refine h_rng (fun hrg0 => ?_)
  refine h_run 0 (pc' := 0) (l' := [(0, .inr (.inr 1826)), (1, .inl (i : Int))]) (st' := []) rfl ?_
  obtain ⟨⟨pb1, pb2, pb3, pb4, pb5⟩, pw1, pw2, pw3, pw4⟩ := (id hP : PW H (H.1 1826 1) (H.1 1826 3) (H.1 1826 8) (H.1 1826 13) (H.1 1826 19))
  obtain ⟨ol, ou, og⟩ := RS_o hO ho1
  have hcs9 : 1 ≤ cs := tm_le hTi
  have hsg := tm_ok hTi 0 (by omega)
  rw [Nat.add_zero] at hsg
  unfold m_sg at hsg
  refine h_run 3 (pc' := 5) (l' := [(0, .inr (.inr 1826)), (1, .inl (i : Int))]) (st' := [.inl 0, .inr (.inr 1871)]) rfl ?_
  refine h_ild (c := 1871) (j := 0) (i := 0) rfl rfl (by decide) rfl (by omega) ?_
  have g127 : -2147483648 ≤ (H.1 1871 0) ∧ (H.1 1871 0) ≤ 2147483647 := hrg0.2 1871 0 13 .int rfl (by omega)
  refine h_run 0 (pc' := 6) (l' := [(0, .inr (.inr 1826)), (1, .inl (i : Int))]) (st' := [.inl (H.1 1871 0)]) rfl ?_
  rw [show (H.1 1871 0) = (o : Int) by omega]
  refine h_run 3 (pc' := 11) (l' := [(0, .inr (.inr 1826)), (1, .inl (i : Int)), (2, .inl (o : Int))]) (st' := [.inl (H.1 1826 89)]) rfl ?_
  have g128 : -2147483648 ≤ (H.1 1826 89) ∧ (H.1 1826 89) ≤ 2147483647 := hrg0.1 1826 13 89 _ .int rfl rfl
  refine h_run 6 (pc' := 21) (l' := [(0, .inr (.inr 1826)), (1, .inl (i : Int)), (2, .inl (o : Int)), (3, .inl (H.1 1826 89))]) (st' := [.inl (i : Int), .inr (.inr 1884), .inr (.inr 1835)]) rfl ?_
  refine h_ild (c := 1884) (j := i) (i := (i : Int)) rfl rfl (by decide) rfl (by omega) ?_
  have g129 : -2147483648 ≤ (H.1 1884 i) ∧ (H.1 1884 i) ≤ 2147483647 := hrg0.2 1884 i 128 .int rfl (by omega)
  refine h_run 0 (pc' := 22) (l' := [(0, .inr (.inr 1826)), (1, .inl (i : Int)), (2, .inl (o : Int)), (3, .inl (H.1 1826 89))]) (st' := [.inl (H.1 1884 i), .inr (.inr 1835)]) rfl ?_
  refine h_run 2 (pc' := 25) (l' := [(0, .inr (.inr 1826)), (1, .inl (i : Int)), (2, .inl (o : Int)), (3, .inl (H.1 1826 89))]) (st' := [.inl ((H.1 1884 i) - 100), .inr (.inr 1835)]) rfl ?_
  refine h_ild (c := 1835) (j := (((H.1 1884 i) - 100)).toNat) (i := ((H.1 1884 i) - 100)) rfl rfl (by decide) (by omega) (by omega) ?_
  have g130 : -2147483648 ≤ (H.1 1835 (((H.1 1884 i) - 100)).toNat) ∧ (H.1 1835 (((H.1 1884 i) - 100)).toNat) ≤ 2147483647 := hrg0.2 1835 (((H.1 1884 i) - 100)).toNat 16 .int rfl (by omega)
  refine h_run 0 (pc' := 26) (l' := [(0, .inr (.inr 1826)), (1, .inl (i : Int)), (2, .inl (o : Int)), (3, .inl (H.1 1826 89))]) (st' := [.inl (H.1 1835 (((H.1 1884 i) - 100)).toNat)]) rfl ?_
  refine h_run 6 (pc' := 35) (l' := [(0, .inr (.inr 1826)), (1, .inl (i : Int)), (2, .inl (o : Int)), (3, .inl (H.1 1826 89)), (4, .inl (H.1 1835 (((H.1 1884 i) - 100)).toNat))]) (st' := [.inl (i : Int), .inr (.inr 1884), .inr (.inr 1826), .inr (.inr 1826)]) rfl ?_
  refine h_cv (i := 427) (j := 155) (b := 1826) (M' := mt_155) (xs := [.inl (i : Int), .inr (.inr 1884)]) (rest := [.inr (.inr 1826)]) rfl rfl rfl rfl rfl rfl (Nat.le_of_ble_eq_true rfl) (Nat.le_of_ble_eq_true rfl) (by omega) (m_behind (by omega) (n := 128) (a := i) (k := cs) rfl (by decide) (tm_sg0 hTi (fun s9 h9 => by unfold m_sg at h9; unfold sg0; omega)) (by omega)) ?_
  rintro _ _ ⟨rfl, rfl⟩
  refine h_run 0 (pc' := 38) (l' := [(0, .inr (.inr 1826)), (1, .inl (i : Int)), (2, .inl (o : Int)), (3, .inl (H.1 1826 89)), (4, .inl (H.1 1835 (((H.1 1884 i) - 100)).toNat))]) (st' := [.inl ((i + cs : Nat) : Int), .inr (.inr 1826)]) rfl ?_
  refine h_run 2 (pc' := 40) (l' := [(0, .inr (.inr 1826)), (1, .inl (i : Int)), (2, .inl (o : Int)), (3, .inl (H.1 1826 89)), (4, .inl (H.1 1835 (((H.1 1884 i) - 100)).toNat))]) (st' := [.inl (((i + cs : Nat) : Int) - (i : Int)), .inr (.inr 1826)]) rfl ?_
  refine h_puti (i := 647) (ci := 13) (k := 101) (a := 1826) (x := (((i + cs : Nat) : Int) - (i : Int))) rfl rfl rfl rfl rfl rfl (by decide) (by omega) ?_
  refine h_run 4 (pc' := 49) (l' := [(0, .inr (.inr 1826)), (1, .inl (i : Int)), (2, .inl (o : Int)), (3, .inl (H.1 1826 89)), (4, .inl (H.1 1835 (((H.1 1884 i) - 100)).toNat)), (5, .inr (.inl 0)), (7, .inl 0)]) (st' := []) rfl ?_
  exact (m_casesOfCall_cut hd hP hO hvv hpr ho1 hTi hiN hnf _).1 _ (H.1 1835 (((H.1 1884 i) - 100)).toNat) (0 : Int) 0 (fr_o (fr_rf _ _ _) (by decide)) (RS_s hO rfl rfl rfl (fun x => ⟨⟨fun _ _ => rfl, fun _ _ => rfl⟩, ⟨rfl, fun _ _ => rfl, fun _ _ => rfl⟩⟩)) (by omega : (((i + cs : Nat) : Int) - (i : Int)) = (cs : Int)) (by omega) ho1 (by omega : (H.1 1826 89) = (H.1 1826 89)) rfl (by omega) (fun x hx => absurd hx (Nat.not_lt_zero _)) (Nat.lt_succ_self _)
