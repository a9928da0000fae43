/-! the reference: cases of a variable, of a call -/
/-! casesOf -/
set_option maxRecDepth 100000 in
theorem m_casesOf_cut {zC : Nat → Option zsh} {d : Nat} (hd : 4 ≤ d) {H : hp} {n o v : Nat} (hP : PWc H) (hO : OS H H n) (hvv : 0 ≤ (H.1 1826 89) ∧ (H.1 1826 89) ≤ 60) (hpr : 0 ≤ (H.1 1826 74) ∧ (H.1 1826 74) < 16) (ho1 : (H.1 1871) 0 = (o : Int)) (hv : v < 60) : ∀ w : Nat, (∀ (H1 : hp) (fx : Nat) (b : Nat) (c : Int) (m : Nat), (fr [53, 76, 77, 89, 93, 95, 99, 101] [1847, 1856, 1871, 1872, 1873, 1874, 1875, 1876, 1877, 1878, 1879, 1880, 1881, 1882, 1883, 1884, 1885, 1887, 1888] H H1) → (b ≤ 1) → (-1 ≤ c ∧ c ≤ (H.1 1826 3)) → ((m : Int) ≤ c + 1) → (RW H H1 n m (b : Int)) → ((H1.1 1871) 0 = (o : Int)) → (0 ≤ (H1.1 1826 89) ∧ (H1.1 1826 89) ≤ 60) → (fx ≤ 1) → (100000 - 1000 * c).toNat < w → hG (zs zC) d mt_257 58 [(0, .inr (.inr 1826)), (1, .inl (v : Int)), (2, .inl (o : Int)), (3, .inl (H.1 1826 89)), (4, .inl (fx : Int)), (5, .inl (b : Int)), (6, .inl c)] [] H1 (fun r9 H2 => fr [53, 76, 77, 89, 93, 95, 99, 101] [1847, 1856, 1871, 1872, 1873, 1874, 1875, 1876, 1877, 1878, 1879, 1880, 1881, 1882, 1883, 1884, 1885, 1887, 1888] H H2 ∧ (0 ≤ (H2.1 1871) 0 ∧ (H2.1 1871) 0 < 40) ∧ (0 ≤ (H2.1 1826 89) ∧ (H2.1 1826 89) ≤ 60) ∧ ((r9 = some (.inl (-105)) ∧ OS H H2 n) ∨ ∃ n2 : Nat, r9 = some (.inl (n2 : Int)) ∧ (H2.1 1826 77) = (n2 : Int) ∧ (n2 = 0 ∨ OS H H2 n2)))) ∧ (∀ (H1 : hp) (fx : Nat) (b : Nat) (c : Int) (fi : Nat) (g : Nat) (k : Nat) (m : Nat), (fr [53, 76, 77, 89, 93, 95, 99, 101] [1847, 1856, 1871, 1872, 1873, 1874, 1875, 1876, 1877, 1878, 1879, 1880, 1881, 1882, 1883, 1884, 1885, 1887, 1888] H H1) → (b ≤ 1) → (-1 ≤ c ∧ c < (H.1 1826 3)) → ((m : Int) ≤ c + 2) → (RG H H1 n m g (b : Int)) → ((H1.1 1871) 0 = (o : Int)) → (0 ≤ (H1.1 1826 89) ∧ (H1.1 1826 89) ≤ 60) → (k ≤ 61) → (fx ≤ 1) → (100000 - 1000 * c - 10 * k - 10).toNat < w → hG (zs zC) d mt_257 190 [(0, .inr (.inr 1826)), (1, .inl (v : Int)), (2, .inl (o : Int)), (3, .inl (H.1 1826 89)), (4, .inl (fx : Int)), (5, .inl (b : Int)), (6, .inl c), (7, .inl (fi : Int)), (8, .inl (g : Int)), (9, .inl (k : Int))] [] H1 (fun r9 H2 => fr [53, 76, 77, 89, 93, 95, 99, 101] [1847, 1856, 1871, 1872, 1873, 1874, 1875, 1876, 1877, 1878, 1879, 1880, 1881, 1882, 1883, 1884, 1885, 1887, 1888] H H2 ∧ (0 ≤ (H2.1 1871) 0 ∧ (H2.1 1871) 0 < 40) ∧ (0 ≤ (H2.1 1826 89) ∧ (H2.1 1826 89) ≤ 60) ∧ ((r9 = some (.inl (-105)) ∧ OS H H2 n) ∨ ∃ n2 : Nat, r9 = some (.inl (n2 : Int)) ∧ (H2.1 1826 77) = (n2 : Int) ∧ (n2 = 0 ∨ OS H H2 n2)))) := by
  intro w
  induction w with
  | zero => exact ⟨fun _ _ _ _ _ _ _ _ _ _ _ _ _ h => absurd h (Nat.not_lt_zero _), fun _ _ _ _ _ _ _ _ _ _ _ _ _ _ _ _ _ h => absurd h (Nat.not_lt_zero _)⟩
  | succ w ih =>
    refine ⟨?_, ?_⟩
    · intro H1 fx b c m hf hb hc hm hW hoo hvv1 hfx hw
      refine h_rng (fun hrg1 => ?_)
      have hQ1 : sP H H1 := sP_fr (sP_rf H) hf (by decide) (by decide)
      have hP1 : PWc H1 := PWc_fr hP hf (by decide) (by decide)
      obtain ⟨⟨pb1, pb2, pb3, pb4, pb5⟩, pw1, pw2, pw3, pw4⟩ := (id hP : PW H (H.1 1826 1) (H.1 1826 3) (H.1 1826 8) (H.1 1826 13) (H.1 1826 19))
      obtain ⟨ol, ou, og⟩ := RS_o hO ho1
      refine h_run 3 (pc' := 64) (l' := [(0, .inr (.inr 1826)), (1, .inl (v : Int)), (2, .inl (o : Int)), (3, .inl (H.1 1826 89)), (4, .inl (fx : Int)), (5, .inl (b : Int)), (6, .inl c)]) (st' := [.inl (H1.1 1826 3), .inl c]) rfl ?_
      have g2 : -2147483648 ≤ (H1.1 1826 3) ∧ (H1.1 1826 3) ≤ 2147483647 := hrg1.1 1826 13 3 _ .int rfl rfl
      have e3 : (H1.1 1826 3) = (H.1 1826 3) := hf.2.2 3 (by decide)
      refine h_ige (off := 166) (t := 230) rfl rfl (by omega) (by omega) (fun c4 => ?_) (fun c4 => ?_)
      · refine h_run 2 (pc' := 233) (l' := [(0, .inr (.inr 1826)), (1, .inl (v : Int)), (2, .inl (o : Int)), (3, .inl (H.1 1826 89)), (4, .inl (fx : Int)), (5, .inl (b : Int)), (6, .inl c)]) (st' := [.inl (b : Int), .inr (.inr 1826)]) rfl ?_
        have g6 : -2147483648 ≤ (H1.1 1826 74) ∧ (H1.1 1826 74) ≤ 2147483647 := hrg1.1 1826 13 74 _ .int rfl rfl
        have e7 : (H1.1 1826 74) = (H.1 1826 74) := hf.2.2 74 (by decide)
        refine h_cv (i := 631) (j := 234) (b := 1826) (M' := mt_234) (xs := [.inl (b : Int)]) (rest := []) rfl rfl rfl rfl rfl rfl (Nat.le_of_ble_eq_true rfl) (Nat.le_of_ble_eq_true rfl) (by omega) (m_replace (P := H) (n := n) (m := m) (by omega) (by omega) hW.1 hW.2.1 hW.2.2 (show 0 ≤ (H1.1 1826 74) ∧ (H1.1 1826 74) < 16 by omega)) ?_
        rintro _ H5 ⟨hfH5, horH5, (⟨rfl, hOH5⟩ | ⟨n2H5, rfl, hnH5, hOH5⟩)⟩
        · refine h_rng (fun hrg8 => ?_)
          have hf9 : fr [53, 76, 77, 89, 93, 95, 99, 101] [1847, 1856, 1871, 1872, 1873, 1874, 1875, 1876, 1877, 1878, 1879, 1880, 1881, 1882, 1883, 1884, 1885, 1887, 1888] H H5 := fr_t hf hfH5 (by decide) (by decide)
          refine h_run 0 (pc' := 236) (l' := [(0, .inr (.inr 1826)), (1, .inl (v : Int)), (2, .inl (o : Int)), (3, .inl (H.1 1826 89)), (4, .inl (fx : Int)), (5, .inl (b : Int)), (6, .inl c)]) (st' := [.inl (-105)]) rfl ?_
          refine h_run 4 (pc' := 243) (l' := [(0, .inr (.inr 1826)), (1, .inl (v : Int)), (2, .inl (o : Int)), (3, .inl (H.1 1826 89)), (4, .inl (fx : Int)), (5, .inl (b : Int)), (6, .inl (-105))]) (st' := [.inl (-105), .inl (-105), .inr (.inr 1826)]) rfl ?_
          refine h_ine (off := 7) (t := 250) rfl rfl (by decide) (by decide) (fun c => absurd c (by decide)) (fun _ => ?_)
          refine h_run 2 (pc' := 254) (l' := [(0, .inr (.inr 1826)), (1, .inl (v : Int)), (2, .inl (o : Int)), (3, .inl (H.1 1826 89)), (4, .inl (fx : Int)), (5, .inl (b : Int)), (6, .inl (-105))]) (st' := [.inl (H.1 1826 89), .inr (.inr 1826)]) rfl ?_
          refine h_puti (i := 541) (ci := 13) (k := 89) (a := 1826) (x := (H.1 1826 89)) rfl rfl rfl rfl rfl rfl (by decide) (by omega) ?_
          refine h_run 1 (pc' := 259) (l' := [(0, .inr (.inr 1826)), (1, .inl (v : Int)), (2, .inl (o : Int)), (3, .inl (H.1 1826 89)), (4, .inl (fx : Int)), (5, .inl (b : Int)), (6, .inl (-105))]) (st' := [.inl (-105)]) rfl ?_
          refine h_reti (x := (-105)) rfl rfl ?_
          refine ⟨(fr_o hf9 (by decide)), horH5, (show 0 ≤ (H.1 1826 89) ∧ (H.1 1826 89) ≤ 60 by omega), ?_⟩
          exact Or.inl ⟨rfl, (RS_s hOH5 rfl rfl rfl (fun x => ⟨⟨fun _ _ => rfl, fun _ _ => rfl⟩, ⟨rfl, fun _ _ => rfl, fun _ _ => rfl⟩⟩))⟩
        · refine h_rng (fun hrg10 => ?_)
          have hf11 : fr [53, 76, 77, 89, 93, 95, 99, 101] [1847, 1856, 1871, 1872, 1873, 1874, 1875, 1876, 1877, 1878, 1879, 1880, 1881, 1882, 1883, 1884, 1885, 1887, 1888] H H5 := fr_t hf hfH5 (by decide) (by decide)
          have hbH5 : n2H5 ≤ 12 := by rcases hOH5 with q9 | q9; { rw [q9]; decide }; { exact q9.1.2.2.1 }
          refine h_run 0 (pc' := 236) (l' := [(0, .inr (.inr 1826)), (1, .inl (v : Int)), (2, .inl (o : Int)), (3, .inl (H.1 1826 89)), (4, .inl (fx : Int)), (5, .inl (b : Int)), (6, .inl c)]) (st' := [.inl (n2H5 : Int)]) rfl ?_
          refine h_run 4 (pc' := 243) (l' := [(0, .inr (.inr 1826)), (1, .inl (v : Int)), (2, .inl (o : Int)), (3, .inl (H.1 1826 89)), (4, .inl (fx : Int)), (5, .inl (b : Int)), (6, .inl (n2H5 : Int))]) (st' := [.inl (-105), .inl (n2H5 : Int), .inr (.inr 1826)]) rfl ?_
          refine h_ine (off := 7) (t := 250) rfl rfl (by omega) (by decide) (fun c12 => ?_) (fun c12 => ?_)
          · refine h_run 2 (pc' := 254) (l' := [(0, .inr (.inr 1826)), (1, .inl (v : Int)), (2, .inl (o : Int)), (3, .inl (H.1 1826 89)), (4, .inl (fx : Int)), (5, .inl (b : Int)), (6, .inl (n2H5 : Int))]) (st' := [.inl (H5.1 1826 89), .inr (.inr 1826)]) rfl ?_
            have g13 : -2147483648 ≤ (H5.1 1826 89) ∧ (H5.1 1826 89) ≤ 2147483647 := hrg10.1 1826 13 89 _ .int rfl rfl
            have e14 : (H5.1 1826 89) = (H1.1 1826 89) := hfH5.2.2 89 (by decide)
            refine h_puti (i := 541) (ci := 13) (k := 89) (a := 1826) (x := (H5.1 1826 89)) rfl rfl rfl rfl rfl rfl (by decide) (by omega) ?_
            refine h_run 1 (pc' := 259) (l' := [(0, .inr (.inr 1826)), (1, .inl (v : Int)), (2, .inl (o : Int)), (3, .inl (H.1 1826 89)), (4, .inl (fx : Int)), (5, .inl (b : Int)), (6, .inl (n2H5 : Int))]) (st' := [.inl (n2H5 : Int)]) rfl ?_
            refine h_reti (x := (n2H5 : Int)) rfl rfl ?_
            refine ⟨(fr_o hf11 (by decide)), horH5, (show 0 ≤ (H5.1 1826 89) ∧ (H5.1 1826 89) ≤ 60 by omega), ?_⟩
            refine Or.inr ⟨n2H5, rfl, hnH5, ?_⟩
            rcases hOH5 with q9 | q9
            · exact Or.inl q9
            · exact Or.inr (RS_s q9 rfl rfl rfl (fun x => ⟨⟨fun _ _ => rfl, fun _ _ => rfl⟩, ⟨rfl, fun _ _ => rfl, fun _ _ => rfl⟩⟩))
          · refine h_run 2 (pc' := 254) (l' := [(0, .inr (.inr 1826)), (1, .inl (v : Int)), (2, .inl (o : Int)), (3, .inl (H.1 1826 89)), (4, .inl (fx : Int)), (5, .inl (b : Int)), (6, .inl (n2H5 : Int))]) (st' := [.inl (H.1 1826 89), .inr (.inr 1826)]) rfl ?_
            refine h_puti (i := 541) (ci := 13) (k := 89) (a := 1826) (x := (H.1 1826 89)) rfl rfl rfl rfl rfl rfl (by decide) (by omega) ?_
            refine h_run 1 (pc' := 259) (l' := [(0, .inr (.inr 1826)), (1, .inl (v : Int)), (2, .inl (o : Int)), (3, .inl (H.1 1826 89)), (4, .inl (fx : Int)), (5, .inl (b : Int)), (6, .inl (n2H5 : Int))]) (st' := [.inl (n2H5 : Int)]) rfl ?_
            refine h_reti (x := (n2H5 : Int)) rfl rfl ?_
            refine ⟨(fr_o hf11 (by decide)), horH5, (show 0 ≤ (H.1 1826 89) ∧ (H.1 1826 89) ≤ 60 by omega), ?_⟩
            refine Or.inr ⟨n2H5, rfl, hnH5, ?_⟩
            rcases hOH5 with q9 | q9
            · exact Or.inl q9
            · exact Or.inr (RS_s q9 rfl rfl rfl (fun x => ⟨⟨fun _ _ => rfl, fun _ _ => rfl⟩, ⟨rfl, fun _ _ => rfl, fun _ _ => rfl⟩⟩))
      · refine h_run 1 (pc' := 69) (l' := [(0, .inr (.inr 1826)), (1, .inl (v : Int)), (2, .inl (o : Int)), (3, .inl (H.1 1826 89)), (4, .inl (fx : Int)), (5, .inl (b : Int)), (6, .inl c)]) (st' := [.inl (b : Int)]) rfl ?_
        refine h_zeq (off := 161) (t := 230) rfl rfl (by omega) (fun c15 => ?_) (fun c15 => ?_)
        · refine h_run 2 (pc' := 233) (l' := [(0, .inr (.inr 1826)), (1, .inl (v : Int)), (2, .inl (o : Int)), (3, .inl (H.1 1826 89)), (4, .inl (fx : Int)), (5, .inl (b : Int)), (6, .inl c)]) (st' := [.inl (b : Int), .inr (.inr 1826)]) rfl ?_
          have g17 : -2147483648 ≤ (H1.1 1826 74) ∧ (H1.1 1826 74) ≤ 2147483647 := hrg1.1 1826 13 74 _ .int rfl rfl
          have e18 : (H1.1 1826 74) = (H.1 1826 74) := hf.2.2 74 (by decide)
          refine h_cv (i := 631) (j := 234) (b := 1826) (M' := mt_234) (xs := [.inl (b : Int)]) (rest := []) rfl rfl rfl rfl rfl rfl (Nat.le_of_ble_eq_true rfl) (Nat.le_of_ble_eq_true rfl) (by omega) (m_replace (P := H) (n := n) (m := m) (by omega) (by omega) hW.1 hW.2.1 hW.2.2 (show 0 ≤ (H1.1 1826 74) ∧ (H1.1 1826 74) < 16 by omega)) ?_
          rintro _ H16 ⟨hfH16, horH16, (⟨rfl, hOH16⟩ | ⟨n2H16, rfl, hnH16, hOH16⟩)⟩
          · refine h_rng (fun hrg19 => ?_)
            have hf20 : fr [53, 76, 77, 89, 93, 95, 99, 101] [1847, 1856, 1871, 1872, 1873, 1874, 1875, 1876, 1877, 1878, 1879, 1880, 1881, 1882, 1883, 1884, 1885, 1887, 1888] H H16 := fr_t hf hfH16 (by decide) (by decide)
            refine h_run 0 (pc' := 236) (l' := [(0, .inr (.inr 1826)), (1, .inl (v : Int)), (2, .inl (o : Int)), (3, .inl (H.1 1826 89)), (4, .inl (fx : Int)), (5, .inl (b : Int)), (6, .inl c)]) (st' := [.inl (-105)]) rfl ?_
            refine h_run 4 (pc' := 243) (l' := [(0, .inr (.inr 1826)), (1, .inl (v : Int)), (2, .inl (o : Int)), (3, .inl (H.1 1826 89)), (4, .inl (fx : Int)), (5, .inl (b : Int)), (6, .inl (-105))]) (st' := [.inl (-105), .inl (-105), .inr (.inr 1826)]) rfl ?_
            refine h_ine (off := 7) (t := 250) rfl rfl (by decide) (by decide) (fun c => absurd c (by decide)) (fun _ => ?_)
            refine h_run 2 (pc' := 254) (l' := [(0, .inr (.inr 1826)), (1, .inl (v : Int)), (2, .inl (o : Int)), (3, .inl (H.1 1826 89)), (4, .inl (fx : Int)), (5, .inl (b : Int)), (6, .inl (-105))]) (st' := [.inl (H.1 1826 89), .inr (.inr 1826)]) rfl ?_
            refine h_puti (i := 541) (ci := 13) (k := 89) (a := 1826) (x := (H.1 1826 89)) rfl rfl rfl rfl rfl rfl (by decide) (by omega) ?_
            refine h_run 1 (pc' := 259) (l' := [(0, .inr (.inr 1826)), (1, .inl (v : Int)), (2, .inl (o : Int)), (3, .inl (H.1 1826 89)), (4, .inl (fx : Int)), (5, .inl (b : Int)), (6, .inl (-105))]) (st' := [.inl (-105)]) rfl ?_
            refine h_reti (x := (-105)) rfl rfl ?_
            refine ⟨(fr_o hf20 (by decide)), horH16, (show 0 ≤ (H.1 1826 89) ∧ (H.1 1826 89) ≤ 60 by omega), ?_⟩
            exact Or.inl ⟨rfl, (RS_s hOH16 rfl rfl rfl (fun x => ⟨⟨fun _ _ => rfl, fun _ _ => rfl⟩, ⟨rfl, fun _ _ => rfl, fun _ _ => rfl⟩⟩))⟩
          · refine h_rng (fun hrg21 => ?_)
            have hf22 : fr [53, 76, 77, 89, 93, 95, 99, 101] [1847, 1856, 1871, 1872, 1873, 1874, 1875, 1876, 1877, 1878, 1879, 1880, 1881, 1882, 1883, 1884, 1885, 1887, 1888] H H16 := fr_t hf hfH16 (by decide) (by decide)
            have hbH16 : n2H16 ≤ 12 := by rcases hOH16 with q9 | q9; { rw [q9]; decide }; { exact q9.1.2.2.1 }
            refine h_run 0 (pc' := 236) (l' := [(0, .inr (.inr 1826)), (1, .inl (v : Int)), (2, .inl (o : Int)), (3, .inl (H.1 1826 89)), (4, .inl (fx : Int)), (5, .inl (b : Int)), (6, .inl c)]) (st' := [.inl (n2H16 : Int)]) rfl ?_
            refine h_run 4 (pc' := 243) (l' := [(0, .inr (.inr 1826)), (1, .inl (v : Int)), (2, .inl (o : Int)), (3, .inl (H.1 1826 89)), (4, .inl (fx : Int)), (5, .inl (b : Int)), (6, .inl (n2H16 : Int))]) (st' := [.inl (-105), .inl (n2H16 : Int), .inr (.inr 1826)]) rfl ?_
            refine h_ine (off := 7) (t := 250) rfl rfl (by omega) (by decide) (fun c23 => ?_) (fun c23 => ?_)
            · refine h_run 2 (pc' := 254) (l' := [(0, .inr (.inr 1826)), (1, .inl (v : Int)), (2, .inl (o : Int)), (3, .inl (H.1 1826 89)), (4, .inl (fx : Int)), (5, .inl (b : Int)), (6, .inl (n2H16 : Int))]) (st' := [.inl (H16.1 1826 89), .inr (.inr 1826)]) rfl ?_
              have g24 : -2147483648 ≤ (H16.1 1826 89) ∧ (H16.1 1826 89) ≤ 2147483647 := hrg21.1 1826 13 89 _ .int rfl rfl
              have e25 : (H16.1 1826 89) = (H1.1 1826 89) := hfH16.2.2 89 (by decide)
              refine h_puti (i := 541) (ci := 13) (k := 89) (a := 1826) (x := (H16.1 1826 89)) rfl rfl rfl rfl rfl rfl (by decide) (by omega) ?_
              refine h_run 1 (pc' := 259) (l' := [(0, .inr (.inr 1826)), (1, .inl (v : Int)), (2, .inl (o : Int)), (3, .inl (H.1 1826 89)), (4, .inl (fx : Int)), (5, .inl (b : Int)), (6, .inl (n2H16 : Int))]) (st' := [.inl (n2H16 : Int)]) rfl ?_
              refine h_reti (x := (n2H16 : Int)) rfl rfl ?_
              refine ⟨(fr_o hf22 (by decide)), horH16, (show 0 ≤ (H16.1 1826 89) ∧ (H16.1 1826 89) ≤ 60 by omega), ?_⟩
              refine Or.inr ⟨n2H16, rfl, hnH16, ?_⟩
              rcases hOH16 with q9 | q9
              · exact Or.inl q9
              · exact Or.inr (RS_s q9 rfl rfl rfl (fun x => ⟨⟨fun _ _ => rfl, fun _ _ => rfl⟩, ⟨rfl, fun _ _ => rfl, fun _ _ => rfl⟩⟩))
            · refine h_run 2 (pc' := 254) (l' := [(0, .inr (.inr 1826)), (1, .inl (v : Int)), (2, .inl (o : Int)), (3, .inl (H.1 1826 89)), (4, .inl (fx : Int)), (5, .inl (b : Int)), (6, .inl (n2H16 : Int))]) (st' := [.inl (H.1 1826 89), .inr (.inr 1826)]) rfl ?_
              refine h_puti (i := 541) (ci := 13) (k := 89) (a := 1826) (x := (H.1 1826 89)) rfl rfl rfl rfl rfl rfl (by decide) (by omega) ?_
              refine h_run 1 (pc' := 259) (l' := [(0, .inr (.inr 1826)), (1, .inl (v : Int)), (2, .inl (o : Int)), (3, .inl (H.1 1826 89)), (4, .inl (fx : Int)), (5, .inl (b : Int)), (6, .inl (n2H16 : Int))]) (st' := [.inl (n2H16 : Int)]) rfl ?_
              refine h_reti (x := (n2H16 : Int)) rfl rfl ?_
              refine ⟨(fr_o hf22 (by decide)), horH16, (show 0 ≤ (H.1 1826 89) ∧ (H.1 1826 89) ≤ 60 by omega), ?_⟩
              refine Or.inr ⟨n2H16, rfl, hnH16, ?_⟩
              rcases hOH16 with q9 | q9
              · exact Or.inl q9
              · exact Or.inr (RS_s q9 rfl rfl rfl (fun x => ⟨⟨fun _ _ => rfl, fun _ _ => rfl⟩, ⟨rfl, fun _ _ => rfl, fun _ _ => rfl⟩⟩))
        · refine h_run 2 (pc' := 75) (l' := [(0, .inr (.inr 1826)), (1, .inl (v : Int)), (2, .inl (o : Int)), (3, .inl (H.1 1826 89)), (4, .inl (fx : Int)), (5, .inl (b : Int)), (6, .inl c)]) (st' := [.inl (-1), .inl c]) rfl ?_
          refine h_ieq (off := 19) (t := 94) rfl rfl (by omega) (by decide) (fun c26 => ?_) (fun c26 => ?_)
          · refine h_run 2 (pc' := 98) (l' := [(0, .inr (.inr 1826)), (1, .inl (v : Int)), (2, .inl (o : Int)), (3, .inl (H.1 1826 89)), (4, .inl (fx : Int)), (5, .inl (b : Int)), (6, .inl c)]) (st' := [.inl (H1.1 1826 89)]) rfl ?_
            have g27 : -2147483648 ≤ (H1.1 1826 89) ∧ (H1.1 1826 89) ≤ 2147483647 := hrg1.1 1826 13 89 _ .int rfl rfl
            refine h_run 3 (pc' := 102) (l' := [(0, .inr (.inr 1826)), (1, .inl (v : Int)), (2, .inl (o : Int)), (3, .inl (H.1 1826 89)), (4, .inl (fx : Int)), (5, .inl (b : Int)), (6, .inl c), (7, .inl (H1.1 1826 89))]) (st' := [.inl (o : Int), .inr (.inr 1826)]) rfl ?_
            have hWg29 : RW H H1 n m 1 := (RW_fr (b := 1) (by have h9 := hW; rw [show b = 1 by omega] at h9; exact h9) (show fr [] [] H1 H1 from (fr_rf _ _ _)) (by decide) (by decide) (by decide))
            obtain ⟨zg29, hzg29⟩ := RS_free hWg29.1
            obtain ⟨o1g29, o2g29, o3g29⟩ := RS_o hWg29.1 (show (H1.1 1871) 0 = (o : Int) from hoo)
            refine h_cv (i := 616) (j := 233) (b := 1826) (M' := mt_233) (xs := [.inl (o : Int)]) (rest := []) rfl rfl rfl rfl rfl rfl (Nat.le_of_ble_eq_true rfl) (Nat.le_of_ble_eq_true rfl) (by omega) (m_newGoal (P := H) (m := m) (by omega) hzg29 ⟨o1g29, o2g29⟩ o3g29 ⟨hWg29.2.1, by omega⟩) ?_
            rintro _ H28 ⟨g29, rfl, lg29, ug29, hfH28, e3g29, e5g29, e6g29, kg29, e4g29⟩
            refine h_rng (fun hrg30 => ?_)
            have hf31 : fr [53, 76, 77, 89, 93, 95, 99, 101] [1847, 1856, 1871, 1872, 1873, 1874, 1875, 1876, 1877, 1878, 1879, 1880, 1881, 1882, 1883, 1884, 1885, 1887, 1888] H H28 := fr_t hf hfH28 (by decide) (by decide)
            have hRGH28 : RG H H28 n (m + 1) g29 1 := RW_new hWg29 rfl (by omega) lg29 ug29 hfH28 (by decide) (by decide) e3g29 e5g29 e6g29 kg29 e4g29
            have hooH28 : (H28.1 1871) 0 = (o : Int) := (congrFun (hfH28.2.1 1871 (by decide) (by decide)) 0).trans hoo
            refine h_run 0 (pc' := 105) (l' := [(0, .inr (.inr 1826)), (1, .inl (v : Int)), (2, .inl (o : Int)), (3, .inl (H.1 1826 89)), (4, .inl (fx : Int)), (5, .inl (b : Int)), (6, .inl c), (7, .inl (H1.1 1826 89))]) (st' := [.inl (g29 : Int)]) rfl ?_
            refine h_run 5 (pc' := 114) (l' := [(0, .inr (.inr 1826)), (1, .inl (v : Int)), (2, .inl (o : Int)), (3, .inl (H.1 1826 89)), (4, .inl (fx : Int)), (5, .inl (b : Int)), (6, .inl c), (7, .inl (H1.1 1826 89)), (8, .inl (g29 : Int))]) (st' := [.inl (g29 : Int), .inr (.inr 1877), .inl (g29 : Int), .inr (.inr 1877)]) rfl ?_
            refine h_ild (c := 1877) (j := g29) (i := (g29 : Int)) rfl rfl (by decide) rfl (by omega) ?_
            have g32 : -2147483648 ≤ (H28.1 1877 g29) ∧ (H28.1 1877 g29) ≤ 2147483647 := hrg30.2 1877 g29 40 .int rfl (by omega)
            refine h_run 0 (pc' := 115) (l' := [(0, .inr (.inr 1826)), (1, .inl (v : Int)), (2, .inl (o : Int)), (3, .inl (H.1 1826 89)), (4, .inl (fx : Int)), (5, .inl (b : Int)), (6, .inl c), (7, .inl (H1.1 1826 89)), (8, .inl (g29 : Int))]) (st' := [.inl (H28.1 1877 g29), .inl (g29 : Int), .inr (.inr 1877)]) rfl ?_
            refine h_run 2 (pc' := 117) (l' := [(0, .inr (.inr 1826)), (1, .inl (v : Int)), (2, .inl (o : Int)), (3, .inl (H.1 1826 89)), (4, .inl (fx : Int)), (5, .inl (b : Int)), (6, .inl c), (7, .inl (H1.1 1826 89)), (8, .inl (g29 : Int))]) (st' := [.inl ((H28.1 1877 g29) + 1), .inl (g29 : Int), .inr (.inr 1877)]) rfl ?_
            refine h_nrm (fun y33 hy33 => ?_)
            refine h_run 0 (pc' := 117) (l' := [(0, .inr (.inr 1826)), (1, .inl (v : Int)), (2, .inl (o : Int)), (3, .inl (H.1 1826 89)), (4, .inl (fx : Int)), (5, .inl (b : Int)), (6, .inl c), (7, .inl (H1.1 1826 89)), (8, .inl (g29 : Int))]) (st' := [.inl y33, .inl (g29 : Int), .inr (.inr 1877)]) rfl ?_
            refine h_ist (c := 1877) (j := g29) (i := (g29 : Int)) (x := y33) rfl rfl (by decide) (by decide) rfl (by omega) (by omega) ?_
            refine h_run 2 (pc' := 121) (l' := [(0, .inr (.inr 1826)), (1, .inl (v : Int)), (2, .inl (o : Int)), (3, .inl (H.1 1826 89)), (4, .inl (fx : Int)), (5, .inl (b : Int)), (6, .inl c), (7, .inl (H1.1 1826 89)), (8, .inl (g29 : Int))]) (st' := [.inl (-1), .inl c]) rfl ?_
            refine h_ine (off := 18) (t := 139) rfl rfl (by omega) (by decide) (fun c34 => ?_) (fun c34 => ?_)
            · exfalso
              omega
            · refine h_run 4 (pc' := 130) (l' := [(0, .inr (.inr 1826)), (1, .inl (v : Int)), (2, .inl (o : Int)), (3, .inl (H.1 1826 89)), (4, .inl (fx : Int)), (5, .inl (b : Int)), (6, .inl c), (7, .inl (H1.1 1826 89)), (8, .inl (g29 : Int))]) (st' := [.inl 0, .inl 0, .inr (.inr 1887)]) rfl ?_
              refine h_ist (c := 1887) (j := 0) (i := 0) (x := 0) rfl rfl (by decide) (by decide) rfl (by omega) (by decide) ?_
              refine h_run 2 (pc' := 133) (l' := [(0, .inr (.inr 1826)), (1, .inl (v : Int)), (2, .inl (o : Int)), (3, .inl (H.1 1826 89)), (4, .inl (fx : Int)), (5, .inl (b : Int)), (6, .inl c), (7, .inl (H1.1 1826 89)), (8, .inl (g29 : Int))]) (st' := [.inl 1, .inr (.inr 1826)]) rfl ?_
              refine h_puti (i := 604) (ci := 13) (k := 99) (a := 1826) (x := 1) rfl rfl rfl rfl rfl rfl (by decide) (by decide) ?_
              refine h_run 2 (pc' := 155) (l' := [(0, .inr (.inr 1826)), (1, .inl (v : Int)), (2, .inl (o : Int)), (3, .inl (H.1 1826 89)), (4, .inl (fx : Int)), (5, .inl (b : Int)), (6, .inl c), (7, .inl (H1.1 1826 89)), (8, .inl (g29 : Int))]) (st' := [.inl (b : Int)]) rfl ?_
              refine h_zeq (off := 28) (t := 183) rfl rfl (by omega) (fun c35 => ?_) (fun c35 => ?_)
              · exfalso
                omega
              · refine h_run 4 (pc' := 163) (l' := [(0, .inr (.inr 1826)), (1, .inl (v : Int)), (2, .inl (o : Int)), (3, .inl (H.1 1826 89)), (4, .inl (fx : Int)), (5, .inl (b : Int)), (6, .inl c), (7, .inl (H1.1 1826 89)), (8, .inl (g29 : Int))]) (st' := [.inl (v : Int), .inl (o : Int), .inl (g29 : Int), .inr (.inr 1826)]) rfl ?_
                have rg37 : RG H (zu (zu (zu H28 1877 (up (H28.1 1877) g29 y33)) 1887 (up ((zu H28 1877 (up (H28.1 1877) g29 y33)).1 1887) 0 0)) 1826 (up ((zu (zu H28 1877 (up (H28.1 1877) g29 y33)) 1887 (up ((zu H28 1877 (up (H28.1 1877) g29 y33)).1 1887) 0 0)).1 1826) 99 1)) n (m + 1) g29 1 := RG_fr0 hRGH28 (show fr [99] [1877, 1887] H28 (zu (zu (zu H28 1877 (up (H28.1 1877) g29 y33)) 1887 (up ((zu H28 1877 (up (H28.1 1877) g29 y33)).1 1887) 0 0)) 1826 (up ((zu (zu H28 1877 (up (H28.1 1877) g29 y33)) 1887 (up ((zu H28 1877 (up (H28.1 1877) g29 y33)).1 1887) 0 0)).1 1826) 99 1)) from (fr_o (fr_a (fr_a (fr_rf _ _ _) (by decide)) (by decide)) (by decide))) (by decide) (by decide) (by decide)
                obtain ⟨o1rg37, o2rg37, o3rg37⟩ := RS_o rg37.1 (show (H28.1 1871) 0 = (o : Int) from hooH28)
                have hQH36 : sP H (zu (zu (zu H28 1877 (up (H28.1 1877) g29 y33)) 1887 (up ((zu H28 1877 (up (H28.1 1877) g29 y33)).1 1887) 0 0)) 1826 (up ((zu (zu H28 1877 (up (H28.1 1877) g29 y33)) 1887 (up ((zu H28 1877 (up (H28.1 1877) g29 y33)).1 1887) 0 0)).1 1826) 99 1)) := sP_fr (sP_rf H) (fr_o (fr_a (fr_a hf31 (by decide)) (by decide)) (by decide)) (by decide) (by decide)
                refine h_cv (i := 619) (j := 250) (b := 1826) (M' := mt_250) (xs := [.inl (v : Int), .inl (o : Int), .inl (g29 : Int)]) (rest := []) rfl rfl rfl rfl rfl rfl (Nat.le_of_ble_eq_true rfl) (Nat.le_of_ble_eq_true rfl) (by omega) (m_isPut (P := H) (sn := 1) (by omega) hQH36 ⟨RG_lt rg37, o1rg37, RG_ne rg37 (show (H28.1 1871) 0 = (o : Int) from hooH28), by omega⟩ o3rg37.1 (show (1 : Int) = ((1 : Nat) : Int) ∧ 1 ≤ 4 by omega) (tm_one (show up (H28.1 1887) 0 0 0 = 0 from up_eq _ _ _))) ?_
                rintro _ H36 ⟨hfH36, hkH36, (rfl | ⟨rfl, hxH36⟩)⟩
                · refine h_rng (fun hrg38 => ?_)
                  have hf39 : fr [53, 76, 77, 89, 93, 95, 99, 101] [1847, 1856, 1871, 1872, 1873, 1874, 1875, 1876, 1877, 1878, 1879, 1880, 1881, 1882, 1883, 1884, 1885, 1887, 1888] H H36 := fr_t (fr_o (fr_a (fr_a hf31 (by decide)) (by decide)) (by decide)) hfH36 (by decide) (by decide)
                  have hooH36 : (H36.1 1871) 0 = (o : Int) := (congrFun (hfH36.2.1 1871 (by decide) (by decide)) 0).trans hooH28
                  have hRZH36 : RG H H36 n (m + 1) g29 0 := RG_fr rg37 hfH36 (by decide) (by decide) (fun x hx => ⟨hkH36 x hx, sH_fr hfH36 (by decide) x⟩) (fun q9 => absurd q9 (by decide))
                  refine h_run 0 (pc' := 166) (l' := [(0, .inr (.inr 1826)), (1, .inl (v : Int)), (2, .inl (o : Int)), (3, .inl (H.1 1826 89)), (4, .inl (fx : Int)), (5, .inl (b : Int)), (6, .inl c), (7, .inl (H1.1 1826 89)), (8, .inl (g29 : Int))]) (st' := [.inl 0]) rfl ?_
                  refine h_zeq (off := 17) (t := 183) rfl rfl (by decide) (fun _ => ?_) (fun c => absurd c (by decide))
                  refine h_run 4 (pc' := 190) (l' := [(0, .inr (.inr 1826)), (1, .inl (v : Int)), (2, .inl (o : Int)), (3, .inl (H.1 1826 89)), (4, .inl (fx : Int)), (5, .inl 0), (6, .inl c), (7, .inl (H1.1 1826 89)), (8, .inl (g29 : Int)), (9, .inl (H1.1 1826 89))]) (st' := []) rfl ?_
                  have g40 : -2147483648 ≤ (H36.1 1826 89) ∧ (H36.1 1826 89) ≤ 2147483647 := hrg38.1 1826 13 89 _ .int rfl rfl
                  have e41 : (H36.1 1826 89) = (H28.1 1826 89) := hfH36.2.2 89 (by decide)
                  have e42 : (H28.1 1826 89) = (H1.1 1826 89) := hfH28.2.2 89 (by decide)
                  rw [show (H1.1 1826 89) = ((((H1.1 1826 89)).toNat : Nat) : Int) by omega]
                  exact ih.2 _ fx 0 c ((H1.1 1826 89)).toNat g29 ((H1.1 1826 89)).toNat (m + 1) hf39 (by omega) (by omega) (by omega) hRZH36 hooH36 (by omega : 0 ≤ (H36.1 1826 89) ∧ (H36.1 1826 89) ≤ 60) (by omega) (by omega) (by omega : (100000 - 1000 * c - 10 * ((H1.1 1826 89)).toNat - 10).toNat < w)
                · refine h_rng (fun hrg43 => ?_)
                  have hf44 : fr [53, 76, 77, 89, 93, 95, 99, 101] [1847, 1856, 1871, 1872, 1873, 1874, 1875, 1876, 1877, 1878, 1879, 1880, 1881, 1882, 1883, 1884, 1885, 1887, 1888] H H36 := fr_t (fr_o (fr_a (fr_a hf31 (by decide)) (by decide)) (by decide)) hfH36 (by decide) (by decide)
                  have hooH36 : (H36.1 1871) 0 = (o : Int) := (congrFun (hfH36.2.1 1871 (by decide) (by decide)) 0).trans hooH28
                  have hRGH36 : RG H H36 n (m + 1) g29 1 := RG_fr rg37 hfH36 (by decide) (by decide) (fun x hx => ⟨hkH36 x hx, sH_fr hfH36 (by decide) x⟩) (fun _ => ⟨hxH36, hys_s (rg37.2.2.2.2 rfl).2 (sH_fr hfH36 (by decide) g29)⟩)
                  refine h_run 0 (pc' := 166) (l' := [(0, .inr (.inr 1826)), (1, .inl (v : Int)), (2, .inl (o : Int)), (3, .inl (H.1 1826 89)), (4, .inl (fx : Int)), (5, .inl (b : Int)), (6, .inl c), (7, .inl (H1.1 1826 89)), (8, .inl (g29 : Int))]) (st' := [.inl 1]) rfl ?_
                  refine h_zeq (off := 17) (t := 183) rfl rfl (by decide) (fun c => absurd c (by decide)) (fun _ => ?_)
                  refine h_run 3 (pc' := 173) (l' := [(0, .inr (.inr 1826)), (1, .inl (v : Int)), (2, .inl (o : Int)), (3, .inl (H.1 1826 89)), (4, .inl (fx : Int)), (5, .inl (b : Int)), (6, .inl c), (7, .inl (H1.1 1826 89)), (8, .inl (g29 : Int))]) (st' := [.inl (v : Int), .inl (g29 : Int), .inr (.inr 1826)]) rfl ?_
                  have g48 : -2147483648 ≤ (H36.1 1826 99) ∧ (H36.1 1826 99) ≤ 2147483647 := hrg43.1 1826 13 99 _ .int rfl rfl
                  have e49 : (H36.1 1826 99) = 1 := hfH36.2.2 99 (by decide)
                  have rg46 := hRGH36
                  obtain ⟨o1rg46, o2rg46, o3rg46⟩ := RS_o rg46.1 (show (H36.1 1871) 0 = (o : Int) from hooH36)
                  obtain ⟨ny47, ny471, ny472, ny473⟩ := (rg46.2.2.2.2 rfl).2
                  have hQH45 : sP H H36 := sP_fr (sP_rf H) hf44 (by decide) (by decide)
                  refine h_cv (i := 644) (j := 251) (b := 1826) (M' := mt_251) (xs := [.inl (v : Int), .inl (g29 : Int)]) (rest := []) rfl rfl rfl rfl rfl rfl (Nat.le_of_ble_eq_true rfl) (Nat.le_of_ble_eq_true rfl) (by omega) (m_isHypsPut (P := H) (sn := 1) (by omega) hQH45 ⟨RG_lt rg46, by omega⟩ ⟨ny471, ny472⟩ ny473 (show (H36.1 1826 99) = ((1 : Nat) : Int) ∧ 1 ≤ 4 by omega) (tm_one (show (H36.1 1887) 0 = 0 by rw [show (H36.1 1887) = up (H28.1 1887) 0 0 from hfH36.2.1 1887 (by decide) (by decide), up_eq]))) ?_
                  rintro _ H45 ⟨hfH45, hkH45, (rfl | ⟨rfl, hxH45⟩)⟩
                  · refine h_rng (fun hrg50 => ?_)
                    have hf51 : fr [53, 76, 77, 89, 93, 95, 99, 101] [1847, 1856, 1871, 1872, 1873, 1874, 1875, 1876, 1877, 1878, 1879, 1880, 1881, 1882, 1883, 1884, 1885, 1887, 1888] H H45 := fr_t hf44 hfH45 (by decide) (by decide)
                    have hooH45 : (H45.1 1871) 0 = (o : Int) := (congrFun (hfH45.2.1 1871 (by decide) (by decide)) 0).trans hooH36
                    have hRZH45 : RG H H45 n (m + 1) g29 0 := RG_fr rg46 hfH45 (by decide) (by decide) (fun x hx => ⟨sS_fr hfH45 (by decide) x, hkH45 x hx⟩) (fun q9 => absurd q9 (by decide))
                    refine h_run 0 (pc' := 176) (l' := [(0, .inr (.inr 1826)), (1, .inl (v : Int)), (2, .inl (o : Int)), (3, .inl (H.1 1826 89)), (4, .inl (fx : Int)), (5, .inl (b : Int)), (6, .inl c), (7, .inl (H1.1 1826 89)), (8, .inl (g29 : Int))]) (st' := [.inl 0]) rfl ?_
                    refine h_zeq (off := 7) (t := 183) rfl rfl (by decide) (fun _ => ?_) (fun c => absurd c (by decide))
                    refine h_run 4 (pc' := 190) (l' := [(0, .inr (.inr 1826)), (1, .inl (v : Int)), (2, .inl (o : Int)), (3, .inl (H.1 1826 89)), (4, .inl (fx : Int)), (5, .inl 0), (6, .inl c), (7, .inl (H1.1 1826 89)), (8, .inl (g29 : Int)), (9, .inl (H1.1 1826 89))]) (st' := []) rfl ?_
                    have g52 : -2147483648 ≤ (H45.1 1826 89) ∧ (H45.1 1826 89) ≤ 2147483647 := hrg50.1 1826 13 89 _ .int rfl rfl
                    have e53 : (H45.1 1826 89) = (H36.1 1826 89) := hfH45.2.2 89 (by decide)
                    have e54 : (H36.1 1826 89) = (H28.1 1826 89) := hfH36.2.2 89 (by decide)
                    have e55 : (H28.1 1826 89) = (H1.1 1826 89) := hfH28.2.2 89 (by decide)
                    rw [show (H1.1 1826 89) = ((((H1.1 1826 89)).toNat : Nat) : Int) by omega]
                    exact ih.2 _ fx 0 c ((H1.1 1826 89)).toNat g29 ((H1.1 1826 89)).toNat (m + 1) hf51 (by omega) (by omega) (by omega) hRZH45 hooH45 (by omega : 0 ≤ (H45.1 1826 89) ∧ (H45.1 1826 89) ≤ 60) (by omega) (by omega) (by omega : (100000 - 1000 * c - 10 * ((H1.1 1826 89)).toNat - 10).toNat < w)
                  · refine h_rng (fun hrg56 => ?_)
                    have hf57 : fr [53, 76, 77, 89, 93, 95, 99, 101] [1847, 1856, 1871, 1872, 1873, 1874, 1875, 1876, 1877, 1878, 1879, 1880, 1881, 1882, 1883, 1884, 1885, 1887, 1888] H H45 := fr_t hf44 hfH45 (by decide) (by decide)
                    have hooH45 : (H45.1 1871) 0 = (o : Int) := (congrFun (hfH45.2.1 1871 (by decide) (by decide)) 0).trans hooH36
                    have hRGH45 : RG H H45 n (m + 1) g29 1 := RG_fr rg46 hfH45 (by decide) (by decide) (fun x hx => ⟨sS_fr hfH45 (by decide) x, hkH45 x hx⟩) (fun _ => ⟨(fun s hs => sOK_s ((rg46.2.2.2.2 rfl).1 s hs) hs (sS_fr hfH45 (by decide) g29)), hxH45⟩)
                    refine h_run 0 (pc' := 176) (l' := [(0, .inr (.inr 1826)), (1, .inl (v : Int)), (2, .inl (o : Int)), (3, .inl (H.1 1826 89)), (4, .inl (fx : Int)), (5, .inl (b : Int)), (6, .inl c), (7, .inl (H1.1 1826 89)), (8, .inl (g29 : Int))]) (st' := [.inl 1]) rfl ?_
                    refine h_zeq (off := 7) (t := 183) rfl rfl (by decide) (fun c => absurd c (by decide)) (fun _ => ?_)
                    refine h_run 5 (pc' := 190) (l' := [(0, .inr (.inr 1826)), (1, .inl (v : Int)), (2, .inl (o : Int)), (3, .inl (H.1 1826 89)), (4, .inl (fx : Int)), (5, .inl 1), (6, .inl c), (7, .inl (H1.1 1826 89)), (8, .inl (g29 : Int)), (9, .inl (H1.1 1826 89))]) (st' := []) rfl ?_
                    have g58 : -2147483648 ≤ (H45.1 1826 89) ∧ (H45.1 1826 89) ≤ 2147483647 := hrg56.1 1826 13 89 _ .int rfl rfl
                    have e59 : (H45.1 1826 89) = (H36.1 1826 89) := hfH45.2.2 89 (by decide)
                    have e60 : (H36.1 1826 89) = (H28.1 1826 89) := hfH36.2.2 89 (by decide)
                    have e61 : (H28.1 1826 89) = (H1.1 1826 89) := hfH28.2.2 89 (by decide)
                    rw [show (H1.1 1826 89) = ((((H1.1 1826 89)).toNat : Nat) : Int) by omega]
                    exact ih.2 _ fx 1 c ((H1.1 1826 89)).toNat g29 ((H1.1 1826 89)).toNat (m + 1) hf57 (by omega) (by omega) (by omega) hRGH45 hooH45 (by omega : 0 ≤ (H45.1 1826 89) ∧ (H45.1 1826 89) ≤ 60) (by omega) (by omega) (by omega : (100000 - 1000 * c - 10 * ((H1.1 1826 89)).toNat - 10).toNat < w)
          · obtain ⟨cn, hcn⟩ : ∃ k9 : Nat, c = (k9 : Int) := ⟨(c).toNat, by omega⟩
            rw [show c = (cn : Int) from hcn]
            have eca : (H1.1 1829) = (H.1 1829) := hf.2.1 1829 (by decide) (by decide)
            refine h_run 3 (pc' := 84) (l' := [(0, .inr (.inr 1826)), (1, .inl (v : Int)), (2, .inl (o : Int)), (3, .inl (H.1 1826 89)), (4, .inl (fx : Int)), (5, .inl (b : Int)), (6, .inl (cn : Int))]) (st' := [.inl (cn : Int), .inr (.inr 1829)]) rfl ?_
            refine h_ild (c := 1829) (j := cn) (i := (cn : Int)) rfl rfl (by decide) rfl (by omega) ?_
            have g62 : -2147483648 ≤ (H1.1 1829 cn) ∧ (H1.1 1829 cn) ≤ 2147483647 := hrg1.2 1829 cn 16 .int rfl (by omega)
            have e63 : (H1.1 1829 cn) = (H.1 1829 cn) := congrFun (hf.2.1 1829 (by decide) (by decide)) cn
            refine h_run 0 (pc' := 85) (l' := [(0, .inr (.inr 1826)), (1, .inl (v : Int)), (2, .inl (o : Int)), (3, .inl (H.1 1826 89)), (4, .inl (fx : Int)), (5, .inl (b : Int)), (6, .inl (cn : Int))]) (st' := [.inl (H1.1 1829 cn)]) rfl ?_
            refine h_run 3 (pc' := 90) (l' := [(0, .inr (.inr 1826)), (1, .inl (v : Int)), (2, .inl (o : Int)), (3, .inl (H.1 1826 89)), (4, .inl (fx : Int)), (5, .inl (b : Int)), (6, .inl (cn : Int))]) (st' := [.inl (v : Int), .inr (.inr 1882), .inl (H1.1 1829 cn)]) rfl ?_
            refine h_ild (c := 1882) (j := v) (i := (v : Int)) rfl rfl (by decide) rfl (by omega) ?_
            have g64 : -2147483648 ≤ (H1.1 1882 v) ∧ (H1.1 1882 v) ≤ 2147483647 := hrg1.2 1882 v 60 .int rfl (by omega)
            refine h_run 0 (pc' := 91) (l' := [(0, .inr (.inr 1826)), (1, .inl (v : Int)), (2, .inl (o : Int)), (3, .inl (H.1 1826 89)), (4, .inl (fx : Int)), (5, .inl (b : Int)), (6, .inl (cn : Int))]) (st' := [.inl (H1.1 1882 v), .inl (H1.1 1829 cn)]) rfl ?_
            refine h_ine (off := 133) (t := 224) rfl rfl (by omega) (by omega) (fun c65 => ?_) (fun c65 => ?_)
            · refine h_run 2 (pc' := 58) (l' := [(0, .inr (.inr 1826)), (1, .inl (v : Int)), (2, .inl (o : Int)), (3, .inl (H.1 1826 89)), (4, .inl (fx : Int)), (5, .inl (b : Int)), (6, .inl ((cn : Int) + 1))]) (st' := []) rfl ?_
              have g66 : -2147483648 ≤ (H1.1 1826 89) ∧ (H1.1 1826 89) ≤ 2147483647 := hrg1.1 1826 13 89 _ .int rfl rfl
              exact ih.1 _ fx b ((cn : Int) + 1) (m) hf (by omega) (by omega) (by omega) hW hoo (by omega : 0 ≤ (H1.1 1826 89) ∧ (H1.1 1826 89) ≤ 60) (by omega) (by omega : (100000 - 1000 * ((cn : Int) + 1)).toNat < w)
            · refine h_run 2 (pc' := 98) (l' := [(0, .inr (.inr 1826)), (1, .inl (v : Int)), (2, .inl (o : Int)), (3, .inl (H.1 1826 89)), (4, .inl (fx : Int)), (5, .inl (b : Int)), (6, .inl (cn : Int))]) (st' := [.inl (H1.1 1826 89)]) rfl ?_
              have g67 : -2147483648 ≤ (H1.1 1826 89) ∧ (H1.1 1826 89) ≤ 2147483647 := hrg1.1 1826 13 89 _ .int rfl rfl
              refine h_run 3 (pc' := 102) (l' := [(0, .inr (.inr 1826)), (1, .inl (v : Int)), (2, .inl (o : Int)), (3, .inl (H.1 1826 89)), (4, .inl (fx : Int)), (5, .inl (b : Int)), (6, .inl (cn : Int)), (7, .inl (H1.1 1826 89))]) (st' := [.inl (o : Int), .inr (.inr 1826)]) rfl ?_
              have hWg69 : RW H H1 n m 1 := (RW_fr (b := 1) (by have h9 := hW; rw [show b = 1 by omega] at h9; exact h9) (show fr [] [] H1 H1 from (fr_rf _ _ _)) (by decide) (by decide) (by decide))
              obtain ⟨zg69, hzg69⟩ := RS_free hWg69.1
              obtain ⟨o1g69, o2g69, o3g69⟩ := RS_o hWg69.1 (show (H1.1 1871) 0 = (o : Int) from hoo)
              refine h_cv (i := 616) (j := 233) (b := 1826) (M' := mt_233) (xs := [.inl (o : Int)]) (rest := []) rfl rfl rfl rfl rfl rfl (Nat.le_of_ble_eq_true rfl) (Nat.le_of_ble_eq_true rfl) (by omega) (m_newGoal (P := H) (m := m) (by omega) hzg69 ⟨o1g69, o2g69⟩ o3g69 ⟨hWg69.2.1, by omega⟩) ?_
              rintro _ H68 ⟨g69, rfl, lg69, ug69, hfH68, e3g69, e5g69, e6g69, kg69, e4g69⟩
              refine h_rng (fun hrg70 => ?_)
              have hf71 : fr [53, 76, 77, 89, 93, 95, 99, 101] [1847, 1856, 1871, 1872, 1873, 1874, 1875, 1876, 1877, 1878, 1879, 1880, 1881, 1882, 1883, 1884, 1885, 1887, 1888] H H68 := fr_t hf hfH68 (by decide) (by decide)
              have hRGH68 : RG H H68 n (m + 1) g69 1 := RW_new hWg69 rfl (by omega) lg69 ug69 hfH68 (by decide) (by decide) e3g69 e5g69 e6g69 kg69 e4g69
              have hooH68 : (H68.1 1871) 0 = (o : Int) := (congrFun (hfH68.2.1 1871 (by decide) (by decide)) 0).trans hoo
              refine h_run 0 (pc' := 105) (l' := [(0, .inr (.inr 1826)), (1, .inl (v : Int)), (2, .inl (o : Int)), (3, .inl (H.1 1826 89)), (4, .inl (fx : Int)), (5, .inl (b : Int)), (6, .inl (cn : Int)), (7, .inl (H1.1 1826 89))]) (st' := [.inl (g69 : Int)]) rfl ?_
              refine h_run 5 (pc' := 114) (l' := [(0, .inr (.inr 1826)), (1, .inl (v : Int)), (2, .inl (o : Int)), (3, .inl (H.1 1826 89)), (4, .inl (fx : Int)), (5, .inl (b : Int)), (6, .inl (cn : Int)), (7, .inl (H1.1 1826 89)), (8, .inl (g69 : Int))]) (st' := [.inl (g69 : Int), .inr (.inr 1877), .inl (g69 : Int), .inr (.inr 1877)]) rfl ?_
              refine h_ild (c := 1877) (j := g69) (i := (g69 : Int)) rfl rfl (by decide) rfl (by omega) ?_
              have g72 : -2147483648 ≤ (H68.1 1877 g69) ∧ (H68.1 1877 g69) ≤ 2147483647 := hrg70.2 1877 g69 40 .int rfl (by omega)
              refine h_run 0 (pc' := 115) (l' := [(0, .inr (.inr 1826)), (1, .inl (v : Int)), (2, .inl (o : Int)), (3, .inl (H.1 1826 89)), (4, .inl (fx : Int)), (5, .inl (b : Int)), (6, .inl (cn : Int)), (7, .inl (H1.1 1826 89)), (8, .inl (g69 : Int))]) (st' := [.inl (H68.1 1877 g69), .inl (g69 : Int), .inr (.inr 1877)]) rfl ?_
              refine h_run 2 (pc' := 117) (l' := [(0, .inr (.inr 1826)), (1, .inl (v : Int)), (2, .inl (o : Int)), (3, .inl (H.1 1826 89)), (4, .inl (fx : Int)), (5, .inl (b : Int)), (6, .inl (cn : Int)), (7, .inl (H1.1 1826 89)), (8, .inl (g69 : Int))]) (st' := [.inl ((H68.1 1877 g69) + 1), .inl (g69 : Int), .inr (.inr 1877)]) rfl ?_
              refine h_nrm (fun y73 hy73 => ?_)
              refine h_run 0 (pc' := 117) (l' := [(0, .inr (.inr 1826)), (1, .inl (v : Int)), (2, .inl (o : Int)), (3, .inl (H.1 1826 89)), (4, .inl (fx : Int)), (5, .inl (b : Int)), (6, .inl (cn : Int)), (7, .inl (H1.1 1826 89)), (8, .inl (g69 : Int))]) (st' := [.inl y73, .inl (g69 : Int), .inr (.inr 1877)]) rfl ?_
              refine h_ist (c := 1877) (j := g69) (i := (g69 : Int)) (x := y73) rfl rfl (by decide) (by decide) rfl (by omega) (by omega) ?_
              refine h_run 2 (pc' := 121) (l' := [(0, .inr (.inr 1826)), (1, .inl (v : Int)), (2, .inl (o : Int)), (3, .inl (H.1 1826 89)), (4, .inl (fx : Int)), (5, .inl (b : Int)), (6, .inl (cn : Int)), (7, .inl (H1.1 1826 89)), (8, .inl (g69 : Int))]) (st' := [.inl (-1), .inl (cn : Int)]) rfl ?_
              refine h_ine (off := 18) (t := 139) rfl rfl (by omega) (by decide) (fun c74 => ?_) (fun c74 => ?_)
              · have hca := (pw1 cn (by omega)).1
                obtain ⟨q, hq⟩ : ∃ q : Nat, (H.1 1830) cn = (q : Int) := ⟨((H.1 1830) cn).toNat, by omega⟩
                refine h_run 5 (pc' := 147) (l' := [(0, .inr (.inr 1826)), (1, .inl (v : Int)), (2, .inl (o : Int)), (3, .inl (H.1 1826 89)), (4, .inl (fx : Int)), (5, .inl (b : Int)), (6, .inl (cn : Int)), (7, .inl (H1.1 1826 89)), (8, .inl (g69 : Int))]) (st' := [.inl (v : Int), .inr (.inr 1883), .inl (cn : Int), .inr (.inr 1826)]) rfl ?_
                refine h_bld (c := 1883) (j := v) (i := (v : Int)) (Or.inr rfl) rfl rfl (by decide) rfl (by omega) ?_
                have g75 : 0 ≤ (H68.1 1883 v) ∧ (H68.1 1883 v) ≤ 1 := hrg70.2 1883 v 60 .boolean rfl (by omega)
                have e76 : (H68.1 1883 v) = (H1.1 1883 v) := congrFun (hfH68.2.1 1883 (by decide) (by decide)) v
                refine h_run 0 (pc' := 148) (l' := [(0, .inr (.inr 1826)), (1, .inl (v : Int)), (2, .inl (o : Int)), (3, .inl (H.1 1826 89)), (4, .inl (fx : Int)), (5, .inl (b : Int)), (6, .inl (cn : Int)), (7, .inl (H1.1 1826 89)), (8, .inl (g69 : Int))]) (st' := [.inl (H68.1 1883 v), .inl (cn : Int), .inr (.inr 1826)]) rfl ?_
                have g78 : -2147483648 ≤ (H68.1 1826 3) ∧ (H68.1 1826 3) ≤ 2147483647 := hrg70.1 1826 13 3 _ .int rfl rfl
                have e79 : (H68.1 1826 3) = (H1.1 1826 3) := hfH68.2.2 3 (by decide)
                have g80 : -2147483648 ≤ (H68.1 1826 89) ∧ (H68.1 1826 89) ≤ 2147483647 := hrg70.1 1826 13 89 _ .int rfl rfl
                have e81 : (H68.1 1826 89) = (H1.1 1826 89) := hfH68.2.2 89 (by decide)
                have rg82 : RG H (zu H68 1877 (up (H68.1 1877) g69 y73)) n (m + 1) g69 1 := RG_fr0 hRGH68 (show fr [] [1877] H68 (zu H68 1877 (up (H68.1 1877) g69 y73)) from (fr_a (fr_rf _ _ _) (by decide))) (by decide) (by decide) (by decide)
                have hPH77 : PWc (zu H68 1877 (up (H68.1 1877) g69 y73)) := PWc_fr hP (fr_a hf71 (by decide)) (by decide) (by decide)
                have hQH77 : sP H (zu H68 1877 (up (H68.1 1877) g69 y73)) := sP_fr (sP_rf H) (fr_a hf71 (by decide)) (by decide) (by decide)
                refine h_cv (i := 623) (j := 249) (b := 1826) (M' := mt_249) (xs := [.inl (H68.1 1883 v), .inl (cn : Int)]) (rest := []) rfl rfl rfl rfl rfl rfl (Nat.le_of_ble_eq_true rfl) (Nat.le_of_ble_eq_true rfl) (by omega) (m_isNew (q := q) (by omega) hPH77 (show (_ : Int) < (H68.1 1826 3) by omega) (by rw [hQH77.2.1]; exact hq) (show 0 ≤ (H68.1 1826 89) ∧ (H68.1 1826 89) ≤ 60 by omega) (by omega)) ?_
                rintro _ H77 ⟨hfH77, hsH77, (⟨rfl, hvH77⟩ | ⟨rfl, hvH77, hwH77, htH77⟩)⟩
                · refine h_rng (fun hrg83 => ?_)
                  have hf84 : fr [53, 76, 77, 89, 93, 95, 99, 101] [1847, 1856, 1871, 1872, 1873, 1874, 1875, 1876, 1877, 1878, 1879, 1880, 1881, 1882, 1883, 1884, 1885, 1887, 1888] H H77 := fr_t (fr_a hf71 (by decide)) hfH77 (by decide) (by decide)
                  have hRGH77 : RG H H77 n (m + 1) g69 1 := RG_fr0 rg82 hfH77 (by decide) (by decide) (by decide)
                  have hooH77 : (H77.1 1871) 0 = (o : Int) := (congrFun (hfH77.2.1 1871 (by decide) (by decide)) 0).trans hooH68
                  have hvxH77 : (H77.1 1826 89) = (H68.1 1826 89) := hvH77
                  refine h_run 0 (pc' := 151) (l' := [(0, .inr (.inr 1826)), (1, .inl (v : Int)), (2, .inl (o : Int)), (3, .inl (H.1 1826 89)), (4, .inl (fx : Int)), (5, .inl (b : Int)), (6, .inl (cn : Int)), (7, .inl (H1.1 1826 89)), (8, .inl (g69 : Int))]) (st' := [.inl 0]) rfl ?_
                  refine h_run 2 (pc' := 155) (l' := [(0, .inr (.inr 1826)), (1, .inl (v : Int)), (2, .inl (o : Int)), (3, .inl (H.1 1826 89)), (4, .inl (fx : Int)), (5, .inl 0), (6, .inl (cn : Int)), (7, .inl (H1.1 1826 89)), (8, .inl (g69 : Int))]) (st' := [.inl 0]) rfl ?_
                  refine h_zeq (off := 28) (t := 183) rfl rfl (by decide) (fun _ => ?_) (fun c => absurd c (by decide))
                  refine h_run 4 (pc' := 190) (l' := [(0, .inr (.inr 1826)), (1, .inl (v : Int)), (2, .inl (o : Int)), (3, .inl (H.1 1826 89)), (4, .inl (fx : Int)), (5, .inl 0), (6, .inl (cn : Int)), (7, .inl (H1.1 1826 89)), (8, .inl (g69 : Int)), (9, .inl (H1.1 1826 89))]) (st' := []) rfl ?_
                  have g85 : -2147483648 ≤ (H77.1 1826 89) ∧ (H77.1 1826 89) ≤ 2147483647 := hrg83.1 1826 13 89 _ .int rfl rfl
                  rw [show (H1.1 1826 89) = ((((H1.1 1826 89)).toNat : Nat) : Int) by omega]
                  exact ih.2 _ fx 0 (cn : Int) ((H1.1 1826 89)).toNat g69 ((H1.1 1826 89)).toNat (m + 1) hf84 (by omega) (by omega) (by omega) (RG_b hRGH77 _ (fun q9 => absurd q9 (by decide))) hooH77 (by omega : 0 ≤ (H77.1 1826 89) ∧ (H77.1 1826 89) ≤ 60) (by omega) (by omega) (by omega : (100000 - 1000 * (cn : Int) - 10 * ((H1.1 1826 89)).toNat - 10).toNat < w)
                · refine h_rng (fun hrg86 => ?_)
                  have hf87 : fr [53, 76, 77, 89, 93, 95, 99, 101] [1847, 1856, 1871, 1872, 1873, 1874, 1875, 1876, 1877, 1878, 1879, 1880, 1881, 1882, 1883, 1884, 1885, 1887, 1888] H H77 := fr_t (fr_a hf71 (by decide)) hfH77 (by decide) (by decide)
                  have hRGH77 : RG H H77 n (m + 1) g69 1 := RG_fr0 rg82 hfH77 (by decide) (by decide) (by decide)
                  have hooH77 : (H77.1 1871) 0 = (o : Int) := (congrFun (hfH77.2.1 1871 (by decide) (by decide)) 0).trans hooH68
                  have hvxH77 : (H77.1 1826 89) = (H68.1 1826 89) + (q : Int) ∧ (H68.1 1826 89) + (q : Int) ≤ 60 := ⟨hvH77, hwH77⟩
                  have hstH77 : tm (ma (H.1 1833) (H.1 1830)) (m_sg (H.1 1826 3) (H.1 1826 8) 60) (H77.1 1887) (1 + q) 0 1 := by have h9 := htH77; rw [hQH77.1, hQH77.2.1, hQH77.2.2.1, hQH77.2.2.2] at h9; exact h9
                  refine h_run 0 (pc' := 151) (l' := [(0, .inr (.inr 1826)), (1, .inl (v : Int)), (2, .inl (o : Int)), (3, .inl (H.1 1826 89)), (4, .inl (fx : Int)), (5, .inl (b : Int)), (6, .inl (cn : Int)), (7, .inl (H1.1 1826 89)), (8, .inl (g69 : Int))]) (st' := [.inl 1]) rfl ?_
                  refine h_run 2 (pc' := 155) (l' := [(0, .inr (.inr 1826)), (1, .inl (v : Int)), (2, .inl (o : Int)), (3, .inl (H.1 1826 89)), (4, .inl (fx : Int)), (5, .inl 1), (6, .inl (cn : Int)), (7, .inl (H1.1 1826 89)), (8, .inl (g69 : Int))]) (st' := [.inl 1]) rfl ?_
                  refine h_zeq (off := 28) (t := 183) rfl rfl (by decide) (fun c => absurd c (by decide)) (fun _ => ?_)
                  refine h_run 4 (pc' := 163) (l' := [(0, .inr (.inr 1826)), (1, .inl (v : Int)), (2, .inl (o : Int)), (3, .inl (H.1 1826 89)), (4, .inl (fx : Int)), (5, .inl 1), (6, .inl (cn : Int)), (7, .inl (H1.1 1826 89)), (8, .inl (g69 : Int))]) (st' := [.inl (v : Int), .inl (o : Int), .inl (g69 : Int), .inr (.inr 1826)]) rfl ?_
                  have g90 : -2147483648 ≤ (H77.1 1826 99) ∧ (H77.1 1826 99) ≤ 2147483647 := hrg86.1 1826 13 99 _ .int rfl rfl
                  have rg89 := hRGH77
                  obtain ⟨o1rg89, o2rg89, o3rg89⟩ := RS_o rg89.1 (show (H77.1 1871) 0 = (o : Int) from hooH77)
                  have hQH88 : sP H H77 := sP_fr (sP_rf H) hf87 (by decide) (by decide)
                  refine h_cv (i := 619) (j := 250) (b := 1826) (M' := mt_250) (xs := [.inl (v : Int), .inl (o : Int), .inl (g69 : Int)]) (rest := []) rfl rfl rfl rfl rfl rfl (Nat.le_of_ble_eq_true rfl) (Nat.le_of_ble_eq_true rfl) (by omega) (m_isPut (P := H) (sn := (1 + q)) (by omega) hQH88 ⟨RG_lt rg89, o1rg89, RG_ne rg89 (show (H77.1 1871) 0 = (o : Int) from hooH77), by omega⟩ o3rg89.1 (show (H77.1 1826 99) = (((1 + q) : Nat) : Int) ∧ (1 + q) ≤ 4 by omega) hstH77) ?_
                  rintro _ H88 ⟨hfH88, hkH88, (rfl | ⟨rfl, hxH88⟩)⟩
                  · refine h_rng (fun hrg91 => ?_)
                    have hf92 : fr [53, 76, 77, 89, 93, 95, 99, 101] [1847, 1856, 1871, 1872, 1873, 1874, 1875, 1876, 1877, 1878, 1879, 1880, 1881, 1882, 1883, 1884, 1885, 1887, 1888] H H88 := fr_t hf87 hfH88 (by decide) (by decide)
                    have hooH88 : (H88.1 1871) 0 = (o : Int) := (congrFun (hfH88.2.1 1871 (by decide) (by decide)) 0).trans hooH77
                    have hRZH88 : RG H H88 n (m + 1) g69 0 := RG_fr rg89 hfH88 (by decide) (by decide) (fun x hx => ⟨hkH88 x hx, sH_fr hfH88 (by decide) x⟩) (fun q9 => absurd q9 (by decide))
                    refine h_run 0 (pc' := 166) (l' := [(0, .inr (.inr 1826)), (1, .inl (v : Int)), (2, .inl (o : Int)), (3, .inl (H.1 1826 89)), (4, .inl (fx : Int)), (5, .inl 1), (6, .inl (cn : Int)), (7, .inl (H1.1 1826 89)), (8, .inl (g69 : Int))]) (st' := [.inl 0]) rfl ?_
                    refine h_zeq (off := 17) (t := 183) rfl rfl (by decide) (fun _ => ?_) (fun c => absurd c (by decide))
                    refine h_run 4 (pc' := 190) (l' := [(0, .inr (.inr 1826)), (1, .inl (v : Int)), (2, .inl (o : Int)), (3, .inl (H.1 1826 89)), (4, .inl (fx : Int)), (5, .inl 0), (6, .inl (cn : Int)), (7, .inl (H1.1 1826 89)), (8, .inl (g69 : Int)), (9, .inl (H1.1 1826 89))]) (st' := []) rfl ?_
                    have g93 : -2147483648 ≤ (H88.1 1826 89) ∧ (H88.1 1826 89) ≤ 2147483647 := hrg91.1 1826 13 89 _ .int rfl rfl
                    have e94 : (H88.1 1826 89) = (H77.1 1826 89) := hfH88.2.2 89 (by decide)
                    rw [show (H1.1 1826 89) = ((((H1.1 1826 89)).toNat : Nat) : Int) by omega]
                    exact ih.2 _ fx 0 (cn : Int) ((H1.1 1826 89)).toNat g69 ((H1.1 1826 89)).toNat (m + 1) hf92 (by omega) (by omega) (by omega) hRZH88 hooH88 (by omega : 0 ≤ (H88.1 1826 89) ∧ (H88.1 1826 89) ≤ 60) (by omega) (by omega) (by omega : (100000 - 1000 * (cn : Int) - 10 * ((H1.1 1826 89)).toNat - 10).toNat < w)
                  · refine h_rng (fun hrg95 => ?_)
                    have hf96 : fr [53, 76, 77, 89, 93, 95, 99, 101] [1847, 1856, 1871, 1872, 1873, 1874, 1875, 1876, 1877, 1878, 1879, 1880, 1881, 1882, 1883, 1884, 1885, 1887, 1888] H H88 := fr_t hf87 hfH88 (by decide) (by decide)
                    have hooH88 : (H88.1 1871) 0 = (o : Int) := (congrFun (hfH88.2.1 1871 (by decide) (by decide)) 0).trans hooH77
                    have hRGH88 : RG H H88 n (m + 1) g69 1 := RG_fr rg89 hfH88 (by decide) (by decide) (fun x hx => ⟨hkH88 x hx, sH_fr hfH88 (by decide) x⟩) (fun _ => ⟨hxH88, hys_s (rg89.2.2.2.2 rfl).2 (sH_fr hfH88 (by decide) g69)⟩)
                    refine h_run 0 (pc' := 166) (l' := [(0, .inr (.inr 1826)), (1, .inl (v : Int)), (2, .inl (o : Int)), (3, .inl (H.1 1826 89)), (4, .inl (fx : Int)), (5, .inl 1), (6, .inl (cn : Int)), (7, .inl (H1.1 1826 89)), (8, .inl (g69 : Int))]) (st' := [.inl 1]) rfl ?_
                    refine h_zeq (off := 17) (t := 183) rfl rfl (by decide) (fun c => absurd c (by decide)) (fun _ => ?_)
                    refine h_run 3 (pc' := 173) (l' := [(0, .inr (.inr 1826)), (1, .inl (v : Int)), (2, .inl (o : Int)), (3, .inl (H.1 1826 89)), (4, .inl (fx : Int)), (5, .inl 1), (6, .inl (cn : Int)), (7, .inl (H1.1 1826 89)), (8, .inl (g69 : Int))]) (st' := [.inl (v : Int), .inl (g69 : Int), .inr (.inr 1826)]) rfl ?_
                    have g100 : -2147483648 ≤ (H88.1 1826 99) ∧ (H88.1 1826 99) ≤ 2147483647 := hrg95.1 1826 13 99 _ .int rfl rfl
                    have e101 : (H88.1 1826 99) = (H77.1 1826 99) := hfH88.2.2 99 (by decide)
                    have rg98 := hRGH88
                    obtain ⟨o1rg98, o2rg98, o3rg98⟩ := RS_o rg98.1 (show (H88.1 1871) 0 = (o : Int) from hooH88)
                    obtain ⟨ny99, ny991, ny992, ny993⟩ := (rg98.2.2.2.2 rfl).2
                    have hQH97 : sP H H88 := sP_fr (sP_rf H) hf96 (by decide) (by decide)
                    refine h_cv (i := 644) (j := 251) (b := 1826) (M' := mt_251) (xs := [.inl (v : Int), .inl (g69 : Int)]) (rest := []) rfl rfl rfl rfl rfl rfl (Nat.le_of_ble_eq_true rfl) (Nat.le_of_ble_eq_true rfl) (by omega) (m_isHypsPut (P := H) (sn := (1 + q)) (by omega) hQH97 ⟨RG_lt rg98, by omega⟩ ⟨ny991, ny992⟩ ny993 (show (H88.1 1826 99) = (((1 + q) : Nat) : Int) ∧ (1 + q) ≤ 4 by omega) (by rw [show (H88.1 1887) = (H77.1 1887) from hfH88.2.1 1887 (by decide) (by decide)]; exact hstH77)) ?_
                    rintro _ H97 ⟨hfH97, hkH97, (rfl | ⟨rfl, hxH97⟩)⟩
                    · refine h_rng (fun hrg102 => ?_)
                      have hf103 : fr [53, 76, 77, 89, 93, 95, 99, 101] [1847, 1856, 1871, 1872, 1873, 1874, 1875, 1876, 1877, 1878, 1879, 1880, 1881, 1882, 1883, 1884, 1885, 1887, 1888] H H97 := fr_t hf96 hfH97 (by decide) (by decide)
                      have hooH97 : (H97.1 1871) 0 = (o : Int) := (congrFun (hfH97.2.1 1871 (by decide) (by decide)) 0).trans hooH88
                      have hRZH97 : RG H H97 n (m + 1) g69 0 := RG_fr rg98 hfH97 (by decide) (by decide) (fun x hx => ⟨sS_fr hfH97 (by decide) x, hkH97 x hx⟩) (fun q9 => absurd q9 (by decide))
                      refine h_run 0 (pc' := 176) (l' := [(0, .inr (.inr 1826)), (1, .inl (v : Int)), (2, .inl (o : Int)), (3, .inl (H.1 1826 89)), (4, .inl (fx : Int)), (5, .inl 1), (6, .inl (cn : Int)), (7, .inl (H1.1 1826 89)), (8, .inl (g69 : Int))]) (st' := [.inl 0]) rfl ?_
                      refine h_zeq (off := 7) (t := 183) rfl rfl (by decide) (fun _ => ?_) (fun c => absurd c (by decide))
                      refine h_run 4 (pc' := 190) (l' := [(0, .inr (.inr 1826)), (1, .inl (v : Int)), (2, .inl (o : Int)), (3, .inl (H.1 1826 89)), (4, .inl (fx : Int)), (5, .inl 0), (6, .inl (cn : Int)), (7, .inl (H1.1 1826 89)), (8, .inl (g69 : Int)), (9, .inl (H1.1 1826 89))]) (st' := []) rfl ?_
                      have g104 : -2147483648 ≤ (H97.1 1826 89) ∧ (H97.1 1826 89) ≤ 2147483647 := hrg102.1 1826 13 89 _ .int rfl rfl
                      have e105 : (H97.1 1826 89) = (H88.1 1826 89) := hfH97.2.2 89 (by decide)
                      have e106 : (H88.1 1826 89) = (H77.1 1826 89) := hfH88.2.2 89 (by decide)
                      rw [show (H1.1 1826 89) = ((((H1.1 1826 89)).toNat : Nat) : Int) by omega]
                      exact ih.2 _ fx 0 (cn : Int) ((H1.1 1826 89)).toNat g69 ((H1.1 1826 89)).toNat (m + 1) hf103 (by omega) (by omega) (by omega) hRZH97 hooH97 (by omega : 0 ≤ (H97.1 1826 89) ∧ (H97.1 1826 89) ≤ 60) (by omega) (by omega) (by omega : (100000 - 1000 * (cn : Int) - 10 * ((H1.1 1826 89)).toNat - 10).toNat < w)
                    · refine h_rng (fun hrg107 => ?_)
                      have hf108 : fr [53, 76, 77, 89, 93, 95, 99, 101] [1847, 1856, 1871, 1872, 1873, 1874, 1875, 1876, 1877, 1878, 1879, 1880, 1881, 1882, 1883, 1884, 1885, 1887, 1888] H H97 := fr_t hf96 hfH97 (by decide) (by decide)
                      have hooH97 : (H97.1 1871) 0 = (o : Int) := (congrFun (hfH97.2.1 1871 (by decide) (by decide)) 0).trans hooH88
                      have hRGH97 : RG H H97 n (m + 1) g69 1 := RG_fr rg98 hfH97 (by decide) (by decide) (fun x hx => ⟨sS_fr hfH97 (by decide) x, hkH97 x hx⟩) (fun _ => ⟨(fun s hs => sOK_s ((rg98.2.2.2.2 rfl).1 s hs) hs (sS_fr hfH97 (by decide) g69)), hxH97⟩)
                      refine h_run 0 (pc' := 176) (l' := [(0, .inr (.inr 1826)), (1, .inl (v : Int)), (2, .inl (o : Int)), (3, .inl (H.1 1826 89)), (4, .inl (fx : Int)), (5, .inl 1), (6, .inl (cn : Int)), (7, .inl (H1.1 1826 89)), (8, .inl (g69 : Int))]) (st' := [.inl 1]) rfl ?_
                      refine h_zeq (off := 7) (t := 183) rfl rfl (by decide) (fun c => absurd c (by decide)) (fun _ => ?_)
                      refine h_run 5 (pc' := 190) (l' := [(0, .inr (.inr 1826)), (1, .inl (v : Int)), (2, .inl (o : Int)), (3, .inl (H.1 1826 89)), (4, .inl (fx : Int)), (5, .inl 1), (6, .inl (cn : Int)), (7, .inl (H1.1 1826 89)), (8, .inl (g69 : Int)), (9, .inl (H1.1 1826 89))]) (st' := []) rfl ?_
                      have g109 : -2147483648 ≤ (H97.1 1826 89) ∧ (H97.1 1826 89) ≤ 2147483647 := hrg107.1 1826 13 89 _ .int rfl rfl
                      have e110 : (H97.1 1826 89) = (H88.1 1826 89) := hfH97.2.2 89 (by decide)
                      have e111 : (H88.1 1826 89) = (H77.1 1826 89) := hfH88.2.2 89 (by decide)
                      rw [show (H1.1 1826 89) = ((((H1.1 1826 89)).toNat : Nat) : Int) by omega]
                      exact ih.2 _ fx 1 (cn : Int) ((H1.1 1826 89)).toNat g69 ((H1.1 1826 89)).toNat (m + 1) hf108 (by omega) (by omega) (by omega) hRGH97 hooH97 (by omega : 0 ≤ (H97.1 1826 89) ∧ (H97.1 1826 89) ≤ 60) (by omega) (by omega) (by omega : (100000 - 1000 * (cn : Int) - 10 * ((H1.1 1826 89)).toNat - 10).toNat < w)
              · refine h_run 4 (pc' := 130) (l' := [(0, .inr (.inr 1826)), (1, .inl (v : Int)), (2, .inl (o : Int)), (3, .inl (H.1 1826 89)), (4, .inl (fx : Int)), (5, .inl (b : Int)), (6, .inl (cn : Int)), (7, .inl (H1.1 1826 89)), (8, .inl (g69 : Int))]) (st' := [.inl 0, .inl 0, .inr (.inr 1887)]) rfl ?_
                refine h_ist (c := 1887) (j := 0) (i := 0) (x := 0) rfl rfl (by decide) (by decide) rfl (by omega) (by decide) ?_
                refine h_run 2 (pc' := 133) (l' := [(0, .inr (.inr 1826)), (1, .inl (v : Int)), (2, .inl (o : Int)), (3, .inl (H.1 1826 89)), (4, .inl (fx : Int)), (5, .inl (b : Int)), (6, .inl (cn : Int)), (7, .inl (H1.1 1826 89)), (8, .inl (g69 : Int))]) (st' := [.inl 1, .inr (.inr 1826)]) rfl ?_
                refine h_puti (i := 604) (ci := 13) (k := 99) (a := 1826) (x := 1) rfl rfl rfl rfl rfl rfl (by decide) (by decide) ?_
                refine h_run 2 (pc' := 155) (l' := [(0, .inr (.inr 1826)), (1, .inl (v : Int)), (2, .inl (o : Int)), (3, .inl (H.1 1826 89)), (4, .inl (fx : Int)), (5, .inl (b : Int)), (6, .inl (cn : Int)), (7, .inl (H1.1 1826 89)), (8, .inl (g69 : Int))]) (st' := [.inl (b : Int)]) rfl ?_
                refine h_zeq (off := 28) (t := 183) rfl rfl (by omega) (fun c112 => ?_) (fun c112 => ?_)
                · exfalso
                  omega
                · refine h_run 4 (pc' := 163) (l' := [(0, .inr (.inr 1826)), (1, .inl (v : Int)), (2, .inl (o : Int)), (3, .inl (H.1 1826 89)), (4, .inl (fx : Int)), (5, .inl (b : Int)), (6, .inl (cn : Int)), (7, .inl (H1.1 1826 89)), (8, .inl (g69 : Int))]) (st' := [.inl (v : Int), .inl (o : Int), .inl (g69 : Int), .inr (.inr 1826)]) rfl ?_
                  have rg114 : RG H (zu (zu (zu H68 1877 (up (H68.1 1877) g69 y73)) 1887 (up ((zu H68 1877 (up (H68.1 1877) g69 y73)).1 1887) 0 0)) 1826 (up ((zu (zu H68 1877 (up (H68.1 1877) g69 y73)) 1887 (up ((zu H68 1877 (up (H68.1 1877) g69 y73)).1 1887) 0 0)).1 1826) 99 1)) n (m + 1) g69 1 := RG_fr0 hRGH68 (show fr [99] [1877, 1887] H68 (zu (zu (zu H68 1877 (up (H68.1 1877) g69 y73)) 1887 (up ((zu H68 1877 (up (H68.1 1877) g69 y73)).1 1887) 0 0)) 1826 (up ((zu (zu H68 1877 (up (H68.1 1877) g69 y73)) 1887 (up ((zu H68 1877 (up (H68.1 1877) g69 y73)).1 1887) 0 0)).1 1826) 99 1)) from (fr_o (fr_a (fr_a (fr_rf _ _ _) (by decide)) (by decide)) (by decide))) (by decide) (by decide) (by decide)
                  obtain ⟨o1rg114, o2rg114, o3rg114⟩ := RS_o rg114.1 (show (H68.1 1871) 0 = (o : Int) from hooH68)
                  have hQH113 : sP H (zu (zu (zu H68 1877 (up (H68.1 1877) g69 y73)) 1887 (up ((zu H68 1877 (up (H68.1 1877) g69 y73)).1 1887) 0 0)) 1826 (up ((zu (zu H68 1877 (up (H68.1 1877) g69 y73)) 1887 (up ((zu H68 1877 (up (H68.1 1877) g69 y73)).1 1887) 0 0)).1 1826) 99 1)) := sP_fr (sP_rf H) (fr_o (fr_a (fr_a hf71 (by decide)) (by decide)) (by decide)) (by decide) (by decide)
                  refine h_cv (i := 619) (j := 250) (b := 1826) (M' := mt_250) (xs := [.inl (v : Int), .inl (o : Int), .inl (g69 : Int)]) (rest := []) rfl rfl rfl rfl rfl rfl (Nat.le_of_ble_eq_true rfl) (Nat.le_of_ble_eq_true rfl) (by omega) (m_isPut (P := H) (sn := 1) (by omega) hQH113 ⟨RG_lt rg114, o1rg114, RG_ne rg114 (show (H68.1 1871) 0 = (o : Int) from hooH68), by omega⟩ o3rg114.1 (show (1 : Int) = ((1 : Nat) : Int) ∧ 1 ≤ 4 by omega) (tm_one (show up (H68.1 1887) 0 0 0 = 0 from up_eq _ _ _))) ?_
                  rintro _ H113 ⟨hfH113, hkH113, (rfl | ⟨rfl, hxH113⟩)⟩
                  · refine h_rng (fun hrg115 => ?_)
                    have hf116 : fr [53, 76, 77, 89, 93, 95, 99, 101] [1847, 1856, 1871, 1872, 1873, 1874, 1875, 1876, 1877, 1878, 1879, 1880, 1881, 1882, 1883, 1884, 1885, 1887, 1888] H H113 := fr_t (fr_o (fr_a (fr_a hf71 (by decide)) (by decide)) (by decide)) hfH113 (by decide) (by decide)
                    have hooH113 : (H113.1 1871) 0 = (o : Int) := (congrFun (hfH113.2.1 1871 (by decide) (by decide)) 0).trans hooH68
                    have hRZH113 : RG H H113 n (m + 1) g69 0 := RG_fr rg114 hfH113 (by decide) (by decide) (fun x hx => ⟨hkH113 x hx, sH_fr hfH113 (by decide) x⟩) (fun q9 => absurd q9 (by decide))
                    refine h_run 0 (pc' := 166) (l' := [(0, .inr (.inr 1826)), (1, .inl (v : Int)), (2, .inl (o : Int)), (3, .inl (H.1 1826 89)), (4, .inl (fx : Int)), (5, .inl (b : Int)), (6, .inl (cn : Int)), (7, .inl (H1.1 1826 89)), (8, .inl (g69 : Int))]) (st' := [.inl 0]) rfl ?_
                    refine h_zeq (off := 17) (t := 183) rfl rfl (by decide) (fun _ => ?_) (fun c => absurd c (by decide))
                    refine h_run 4 (pc' := 190) (l' := [(0, .inr (.inr 1826)), (1, .inl (v : Int)), (2, .inl (o : Int)), (3, .inl (H.1 1826 89)), (4, .inl (fx : Int)), (5, .inl 0), (6, .inl (cn : Int)), (7, .inl (H1.1 1826 89)), (8, .inl (g69 : Int)), (9, .inl (H1.1 1826 89))]) (st' := []) rfl ?_
                    have g117 : -2147483648 ≤ (H113.1 1826 89) ∧ (H113.1 1826 89) ≤ 2147483647 := hrg115.1 1826 13 89 _ .int rfl rfl
                    have e118 : (H113.1 1826 89) = (H68.1 1826 89) := hfH113.2.2 89 (by decide)
                    have e119 : (H68.1 1826 89) = (H1.1 1826 89) := hfH68.2.2 89 (by decide)
                    rw [show (H1.1 1826 89) = ((((H1.1 1826 89)).toNat : Nat) : Int) by omega]
                    exact ih.2 _ fx 0 (cn : Int) ((H1.1 1826 89)).toNat g69 ((H1.1 1826 89)).toNat (m + 1) hf116 (by omega) (by omega) (by omega) hRZH113 hooH113 (by omega : 0 ≤ (H113.1 1826 89) ∧ (H113.1 1826 89) ≤ 60) (by omega) (by omega) (by omega : (100000 - 1000 * (cn : Int) - 10 * ((H1.1 1826 89)).toNat - 10).toNat < w)
                  · refine h_rng (fun hrg120 => ?_)
                    have hf121 : fr [53, 76, 77, 89, 93, 95, 99, 101] [1847, 1856, 1871, 1872, 1873, 1874, 1875, 1876, 1877, 1878, 1879, 1880, 1881, 1882, 1883, 1884, 1885, 1887, 1888] H H113 := fr_t (fr_o (fr_a (fr_a hf71 (by decide)) (by decide)) (by decide)) hfH113 (by decide) (by decide)
                    have hooH113 : (H113.1 1871) 0 = (o : Int) := (congrFun (hfH113.2.1 1871 (by decide) (by decide)) 0).trans hooH68
                    have hRGH113 : RG H H113 n (m + 1) g69 1 := RG_fr rg114 hfH113 (by decide) (by decide) (fun x hx => ⟨hkH113 x hx, sH_fr hfH113 (by decide) x⟩) (fun _ => ⟨hxH113, hys_s (rg114.2.2.2.2 rfl).2 (sH_fr hfH113 (by decide) g69)⟩)
                    refine h_run 0 (pc' := 166) (l' := [(0, .inr (.inr 1826)), (1, .inl (v : Int)), (2, .inl (o : Int)), (3, .inl (H.1 1826 89)), (4, .inl (fx : Int)), (5, .inl (b : Int)), (6, .inl (cn : Int)), (7, .inl (H1.1 1826 89)), (8, .inl (g69 : Int))]) (st' := [.inl 1]) rfl ?_
                    refine h_zeq (off := 17) (t := 183) rfl rfl (by decide) (fun c => absurd c (by decide)) (fun _ => ?_)
                    refine h_run 3 (pc' := 173) (l' := [(0, .inr (.inr 1826)), (1, .inl (v : Int)), (2, .inl (o : Int)), (3, .inl (H.1 1826 89)), (4, .inl (fx : Int)), (5, .inl (b : Int)), (6, .inl (cn : Int)), (7, .inl (H1.1 1826 89)), (8, .inl (g69 : Int))]) (st' := [.inl (v : Int), .inl (g69 : Int), .inr (.inr 1826)]) rfl ?_
                    have g125 : -2147483648 ≤ (H113.1 1826 99) ∧ (H113.1 1826 99) ≤ 2147483647 := hrg120.1 1826 13 99 _ .int rfl rfl
                    have e126 : (H113.1 1826 99) = 1 := hfH113.2.2 99 (by decide)
                    have rg123 := hRGH113
                    obtain ⟨o1rg123, o2rg123, o3rg123⟩ := RS_o rg123.1 (show (H113.1 1871) 0 = (o : Int) from hooH113)
                    obtain ⟨ny124, ny1241, ny1242, ny1243⟩ := (rg123.2.2.2.2 rfl).2
                    have hQH122 : sP H H113 := sP_fr (sP_rf H) hf121 (by decide) (by decide)
                    refine h_cv (i := 644) (j := 251) (b := 1826) (M' := mt_251) (xs := [.inl (v : Int), .inl (g69 : Int)]) (rest := []) rfl rfl rfl rfl rfl rfl (Nat.le_of_ble_eq_true rfl) (Nat.le_of_ble_eq_true rfl) (by omega) (m_isHypsPut (P := H) (sn := 1) (by omega) hQH122 ⟨RG_lt rg123, by omega⟩ ⟨ny1241, ny1242⟩ ny1243 (show (H113.1 1826 99) = ((1 : Nat) : Int) ∧ 1 ≤ 4 by omega) (tm_one (show (H113.1 1887) 0 = 0 by rw [show (H113.1 1887) = up (H68.1 1887) 0 0 from hfH113.2.1 1887 (by decide) (by decide), up_eq]))) ?_
                    rintro _ H122 ⟨hfH122, hkH122, (rfl | ⟨rfl, hxH122⟩)⟩
                    · refine h_rng (fun hrg127 => ?_)
                      have hf128 : fr [53, 76, 77, 89, 93, 95, 99, 101] [1847, 1856, 1871, 1872, 1873, 1874, 1875, 1876, 1877, 1878, 1879, 1880, 1881, 1882, 1883, 1884, 1885, 1887, 1888] H H122 := fr_t hf121 hfH122 (by decide) (by decide)
                      have hooH122 : (H122.1 1871) 0 = (o : Int) := (congrFun (hfH122.2.1 1871 (by decide) (by decide)) 0).trans hooH113
                      have hRZH122 : RG H H122 n (m + 1) g69 0 := RG_fr rg123 hfH122 (by decide) (by decide) (fun x hx => ⟨sS_fr hfH122 (by decide) x, hkH122 x hx⟩) (fun q9 => absurd q9 (by decide))
                      refine h_run 0 (pc' := 176) (l' := [(0, .inr (.inr 1826)), (1, .inl (v : Int)), (2, .inl (o : Int)), (3, .inl (H.1 1826 89)), (4, .inl (fx : Int)), (5, .inl (b : Int)), (6, .inl (cn : Int)), (7, .inl (H1.1 1826 89)), (8, .inl (g69 : Int))]) (st' := [.inl 0]) rfl ?_
                      refine h_zeq (off := 7) (t := 183) rfl rfl (by decide) (fun _ => ?_) (fun c => absurd c (by decide))
                      refine h_run 4 (pc' := 190) (l' := [(0, .inr (.inr 1826)), (1, .inl (v : Int)), (2, .inl (o : Int)), (3, .inl (H.1 1826 89)), (4, .inl (fx : Int)), (5, .inl 0), (6, .inl (cn : Int)), (7, .inl (H1.1 1826 89)), (8, .inl (g69 : Int)), (9, .inl (H1.1 1826 89))]) (st' := []) rfl ?_
                      have g129 : -2147483648 ≤ (H122.1 1826 89) ∧ (H122.1 1826 89) ≤ 2147483647 := hrg127.1 1826 13 89 _ .int rfl rfl
                      have e130 : (H122.1 1826 89) = (H113.1 1826 89) := hfH122.2.2 89 (by decide)
                      have e131 : (H113.1 1826 89) = (H68.1 1826 89) := hfH113.2.2 89 (by decide)
                      have e132 : (H68.1 1826 89) = (H1.1 1826 89) := hfH68.2.2 89 (by decide)
                      rw [show (H1.1 1826 89) = ((((H1.1 1826 89)).toNat : Nat) : Int) by omega]
                      exact ih.2 _ fx 0 (cn : Int) ((H1.1 1826 89)).toNat g69 ((H1.1 1826 89)).toNat (m + 1) hf128 (by omega) (by omega) (by omega) hRZH122 hooH122 (by omega : 0 ≤ (H122.1 1826 89) ∧ (H122.1 1826 89) ≤ 60) (by omega) (by omega) (by omega : (100000 - 1000 * (cn : Int) - 10 * ((H1.1 1826 89)).toNat - 10).toNat < w)
                    · refine h_rng (fun hrg133 => ?_)
                      have hf134 : fr [53, 76, 77, 89, 93, 95, 99, 101] [1847, 1856, 1871, 1872, 1873, 1874, 1875, 1876, 1877, 1878, 1879, 1880, 1881, 1882, 1883, 1884, 1885, 1887, 1888] H H122 := fr_t hf121 hfH122 (by decide) (by decide)
                      have hooH122 : (H122.1 1871) 0 = (o : Int) := (congrFun (hfH122.2.1 1871 (by decide) (by decide)) 0).trans hooH113
                      have hRGH122 : RG H H122 n (m + 1) g69 1 := RG_fr rg123 hfH122 (by decide) (by decide) (fun x hx => ⟨sS_fr hfH122 (by decide) x, hkH122 x hx⟩) (fun _ => ⟨(fun s hs => sOK_s ((rg123.2.2.2.2 rfl).1 s hs) hs (sS_fr hfH122 (by decide) g69)), hxH122⟩)
                      refine h_run 0 (pc' := 176) (l' := [(0, .inr (.inr 1826)), (1, .inl (v : Int)), (2, .inl (o : Int)), (3, .inl (H.1 1826 89)), (4, .inl (fx : Int)), (5, .inl (b : Int)), (6, .inl (cn : Int)), (7, .inl (H1.1 1826 89)), (8, .inl (g69 : Int))]) (st' := [.inl 1]) rfl ?_
                      refine h_zeq (off := 7) (t := 183) rfl rfl (by decide) (fun c => absurd c (by decide)) (fun _ => ?_)
                      refine h_run 5 (pc' := 190) (l' := [(0, .inr (.inr 1826)), (1, .inl (v : Int)), (2, .inl (o : Int)), (3, .inl (H.1 1826 89)), (4, .inl (fx : Int)), (5, .inl 1), (6, .inl (cn : Int)), (7, .inl (H1.1 1826 89)), (8, .inl (g69 : Int)), (9, .inl (H1.1 1826 89))]) (st' := []) rfl ?_
                      have g135 : -2147483648 ≤ (H122.1 1826 89) ∧ (H122.1 1826 89) ≤ 2147483647 := hrg133.1 1826 13 89 _ .int rfl rfl
                      have e136 : (H122.1 1826 89) = (H113.1 1826 89) := hfH122.2.2 89 (by decide)
                      have e137 : (H113.1 1826 89) = (H68.1 1826 89) := hfH113.2.2 89 (by decide)
                      have e138 : (H68.1 1826 89) = (H1.1 1826 89) := hfH68.2.2 89 (by decide)
                      rw [show (H1.1 1826 89) = ((((H1.1 1826 89)).toNat : Nat) : Int) by omega]
                      exact ih.2 _ fx 1 (cn : Int) ((H1.1 1826 89)).toNat g69 ((H1.1 1826 89)).toNat (m + 1) hf134 (by omega) (by omega) (by omega) hRGH122 hooH122 (by omega : 0 ≤ (H122.1 1826 89) ∧ (H122.1 1826 89) ≤ 60) (by omega) (by omega) (by omega : (100000 - 1000 * (cn : Int) - 10 * ((H1.1 1826 89)).toNat - 10).toNat < w)
    · intro H1 fx b c fi g k m hf hb hc hm hR hoo hvv1 hk hfx hw
      refine h_rng (fun hrg139 => ?_)
      have hQ1 : sP H H1 := sP_fr (sP_rf H) hf (by decide) (by decide)
      have hP1 : PWc H1 := PWc_fr hP hf (by decide) (by decide)
      obtain ⟨⟨pb1, pb2, pb3, pb4, pb5⟩, pw1, pw2, pw3, pw4⟩ := (id hP : PW H (H.1 1826 1) (H.1 1826 3) (H.1 1826 8) (H.1 1826 13) (H.1 1826 19))
      obtain ⟨ol, ou, og⟩ := RS_o hO ho1
      have hgl := RG_lt hR
      refine h_run 3 (pc' := 196) (l' := [(0, .inr (.inr 1826)), (1, .inl (v : Int)), (2, .inl (o : Int)), (3, .inl (H.1 1826 89)), (4, .inl (fx : Int)), (5, .inl (b : Int)), (6, .inl c), (7, .inl (fi : Int)), (8, .inl (g : Int)), (9, .inl (k : Int))]) (st' := [.inl (H1.1 1826 89), .inl (k : Int)]) rfl ?_
      have g140 : -2147483648 ≤ (H1.1 1826 89) ∧ (H1.1 1826 89) ≤ 2147483647 := hrg139.1 1826 13 89 _ .int rfl rfl
      refine h_ige (off := 28) (t := 224) rfl rfl (by omega) (by omega) (fun c141 => ?_) (fun c141 => ?_)
      · refine h_run 2 (pc' := 58) (l' := [(0, .inr (.inr 1826)), (1, .inl (v : Int)), (2, .inl (o : Int)), (3, .inl (H.1 1826 89)), (4, .inl (fx : Int)), (5, .inl (b : Int)), (6, .inl (c + 1)), (7, .inl (fi : Int)), (8, .inl (g : Int)), (9, .inl (k : Int))]) (st' := []) rfl ?_
        refine h_loc [0, 1, 2, 3, 4, 5, 6] rfl ?_
        exact ih.1 _ fx b (c + 1) (m) hf (by omega) (by omega) (by omega) (RG_RW hR) hoo (by omega : 0 ≤ (H1.1 1826 89) ∧ (H1.1 1826 89) ≤ 60) (by omega) (by omega : (100000 - 1000 * (c + 1)).toNat < w)
      · refine h_run 1 (pc' := 201) (l' := [(0, .inr (.inr 1826)), (1, .inl (v : Int)), (2, .inl (o : Int)), (3, .inl (H.1 1826 89)), (4, .inl (fx : Int)), (5, .inl (b : Int)), (6, .inl c), (7, .inl (fi : Int)), (8, .inl (g : Int)), (9, .inl (k : Int))]) (st' := [.inl (fx : Int)]) rfl ?_
        refine h_zeq (off := 23) (t := 224) rfl rfl (by omega) (fun c142 => ?_) (fun c142 => ?_)
        · refine h_run 2 (pc' := 58) (l' := [(0, .inr (.inr 1826)), (1, .inl (v : Int)), (2, .inl (o : Int)), (3, .inl (H.1 1826 89)), (4, .inl (fx : Int)), (5, .inl (b : Int)), (6, .inl (c + 1)), (7, .inl (fi : Int)), (8, .inl (g : Int)), (9, .inl (k : Int))]) (st' := []) rfl ?_
          refine h_loc [0, 1, 2, 3, 4, 5, 6] rfl ?_
          exact ih.1 _ fx b (c + 1) (m) hf (by omega) (by omega) (by omega) (RG_RW hR) hoo (by omega : 0 ≤ (H1.1 1826 89) ∧ (H1.1 1826 89) ≤ 60) (by omega) (by omega : (100000 - 1000 * (c + 1)).toNat < w)
        · refine h_run 4 (pc' := 211) (l' := [(0, .inr (.inr 1826)), (1, .inl (v : Int)), (2, .inl (o : Int)), (3, .inl (H.1 1826 89)), (4, .inl (fx : Int)), (5, .inl (b : Int)), (6, .inl c), (7, .inl (fi : Int)), (8, .inl (g : Int)), (9, .inl (k : Int))]) (st' := [.inl (g : Int), .inr (.inr 1876), .inl (g : Int), .inr (.inr 1876)]) rfl ?_
          refine h_lld (c := 1876) (j := g) (i := (g : Int)) rfl rfl (by decide) rfl (by omega) ?_
          have g143 : -9223372036854775808 ≤ (H1.1 1876 g) ∧ (H1.1 1876 g) ≤ 9223372036854775807 := hrg139.2 1876 g 40 .long rfl (by omega)
          refine h_run 0 (pc' := 212) (l' := [(0, .inr (.inr 1826)), (1, .inl (v : Int)), (2, .inl (o : Int)), (3, .inl (H.1 1826 89)), (4, .inl (fx : Int)), (5, .inl (b : Int)), (6, .inl c), (7, .inl (fi : Int)), (8, .inl (g : Int)), (9, .inl (k : Int))]) (st' := [.inr (.inl (H1.1 1876 g)), .inl (g : Int), .inr (.inr 1876)]) rfl ?_
          refine h_run 4 (pc' := 217) (l' := [(0, .inr (.inr 1826)), (1, .inl (v : Int)), (2, .inl (o : Int)), (3, .inl (H.1 1826 89)), (4, .inl (fx : Int)), (5, .inl (b : Int)), (6, .inl c), (7, .inl (fi : Int)), (8, .inl (g : Int)), (9, .inl (k : Int))]) (st' := [.inr (.inl (z_lor (H1.1 1876 g) (z_lshl 1 (k : Int)))), .inl (g : Int), .inr (.inr 1876)]) rfl ?_
          refine h_lst (c := 1876) (j := g) (i := (g : Int)) (x := (z_lor (H1.1 1876 g) (z_lshl 1 (k : Int)))) rfl rfl (by decide) (by decide) rfl (by omega) (z_long _) ?_
          refine h_run 2 (pc' := 190) (l' := [(0, .inr (.inr 1826)), (1, .inl (v : Int)), (2, .inl (o : Int)), (3, .inl (H.1 1826 89)), (4, .inl (fx : Int)), (5, .inl (b : Int)), (6, .inl c), (7, .inl (fi : Int)), (8, .inl (g : Int)), (9, .inl ((k : Int) + 1))]) (st' := []) rfl ?_
          rw [show ((k : Int) + 1) = (((k + 1) : Nat) : Int) by omega]
          exact ih.2 _ fx b c fi g (k + 1) (m) (fr_a hf (by decide)) (by omega) (by omega) (by omega) (RG_fr0 hR (show fr [] [1876] H1 (zu H1 1876 (up (H1.1 1876) g (z_lor (H1.1 1876 g) (z_lshl 1 (k : Int))))) from (fr_a (fr_rf _ _ _) (by decide))) (by decide) (by decide) (by decide)) hoo (by omega : 0 ≤ (H1.1 1826 89) ∧ (H1.1 1826 89) ≤ 60) (by omega) (by omega) (by omega : (100000 - 1000 * c - 10 * (k + 1) - 10).toNat < w)
set_option maxRecDepth 100000 in
theorem m_casesOf {zC : Nat → Option zsh} {d : Nat} (hd : 4 ≤ d) {H : hp} {n o v : Nat} (hP : PWc H) (hO : OS H H n) (hvv : 0 ≤ (H.1 1826 89) ∧ (H.1 1826 89) ≤ 60) (hpr : 0 ≤ (H.1 1826 74) ∧ (H.1 1826 74) < 16) (ho1 : (H.1 1871) 0 = (o : Int)) (hv : v < 60) : hG (zs zC) d mt_257 0 (zargs 0 [.inr (.inr 1826), .inl (v : Int)]) [] H (fun r9 H2 => fr [53, 76, 77, 89, 93, 95, 99, 101] [1847, 1856, 1871, 1872, 1873, 1874, 1875, 1876, 1877, 1878, 1879, 1880, 1881, 1882, 1883, 1884, 1885, 1887, 1888] H H2 ∧ (0 ≤ (H2.1 1871) 0 ∧ (H2.1 1871) 0 < 40) ∧ (0 ≤ (H2.1 1826 89) ∧ (H2.1 1826 89) ≤ 60) ∧ ((r9 = some (.inl (-105)) ∧ OS H H2 n) ∨ ∃ n2 : Nat, r9 = some (.inl (n2 : Int)) ∧ (H2.1 1826 77) = (n2 : Int) ∧ (n2 = 0 ∨ OS H H2 n2))) := by
  refine h_rng (fun hrg0 => ?_)
  refine h_run 0 (pc' := 0) (l' := [(0, .inr (.inr 1826)), (1, .inl (v : Int))]) (st' := []) rfl ?_
  obtain ⟨⟨pb1, pb2, pb3, pb4, pb5⟩, pw1, pw2, pw3, pw4⟩ := (id hP : PW H (H.1 1826 1) (H.1 1826 3) (H.1 1826 8) (H.1 1826 13) (H.1 1826 19))
  obtain ⟨ol, ou, og⟩ := RS_o hO ho1
  refine h_run 3 (pc' := 5) (l' := [(0, .inr (.inr 1826)), (1, .inl (v : Int))]) (st' := [.inl 0, .inr (.inr 1871)]) rfl ?_
  refine h_ild (c := 1871) (j := 0) (i := 0) rfl rfl (by decide) rfl (by omega) ?_
  have g144 : -2147483648 ≤ (H.1 1871 0) ∧ (H.1 1871 0) ≤ 2147483647 := hrg0.2 1871 0 13 .int rfl (by omega)
  refine h_run 0 (pc' := 6) (l' := [(0, .inr (.inr 1826)), (1, .inl (v : Int))]) (st' := [.inl (H.1 1871 0)]) rfl ?_
  rw [show (H.1 1871 0) = (o : Int) by omega]
  refine h_run 3 (pc' := 11) (l' := [(0, .inr (.inr 1826)), (1, .inl (v : Int)), (2, .inl (o : Int))]) (st' := [.inl (H.1 1826 89)]) rfl ?_
  have g145 : -2147483648 ≤ (H.1 1826 89) ∧ (H.1 1826 89) ≤ 2147483647 := hrg0.1 1826 13 89 _ .int rfl rfl
  refine h_run 4 (pc' := 17) (l' := [(0, .inr (.inr 1826)), (1, .inl (v : Int)), (2, .inl (o : Int)), (3, .inl (H.1 1826 89))]) (st' := [.inl (o : Int), .inr (.inr 1876)]) rfl ?_
  refine h_lld (c := 1876) (j := o) (i := (o : Int)) rfl rfl (by decide) rfl (by omega) ?_
  have g146 : -9223372036854775808 ≤ (H.1 1876 o) ∧ (H.1 1876 o) ≤ 9223372036854775807 := hrg0.2 1876 o 40 .long rfl (by omega)
  refine h_run 0 (pc' := 18) (l' := [(0, .inr (.inr 1826)), (1, .inl (v : Int)), (2, .inl (o : Int)), (3, .inl (H.1 1826 89))]) (st' := [.inr (.inl (H.1 1876 o))]) rfl ?_
  refine h_run 6 (pc' := 24) (l' := [(0, .inr (.inr 1826)), (1, .inl (v : Int)), (2, .inl (o : Int)), (3, .inl (H.1 1826 89))]) (st' := [.inl (z_cmp (z_land (z_lshr (H.1 1876 o) (v : Int)) 1) 1)]) rfl ?_
  refine h_zne (off := 7) (t := 31) rfl rfl (z_int _) (fun c147 => ?_) (fun c147 => ?_)
  · refine h_run 4 (pc' := 36) (l' := [(0, .inr (.inr 1826)), (1, .inl (v : Int)), (2, .inl (o : Int)), (3, .inl (H.1 1826 89)), (4, .inl 0)]) (st' := [.inl 0, .inr (.inr 1826)]) rfl ?_
    refine h_puti (i := 553) (ci := 13) (k := 95) (a := 1826) (x := 0) rfl rfl rfl rfl rfl rfl (by decide) (by decide) ?_
    refine h_run 5 (pc' := 47) (l' := [(0, .inr (.inr 1826)), (1, .inl (v : Int)), (2, .inl (o : Int)), (3, .inl (H.1 1826 89)), (4, .inl 0), (5, .inl 1)]) (st' := [.inl (v : Int), .inr (.inr 1883)]) rfl ?_
    refine h_bld (c := 1883) (j := v) (i := (v : Int)) (Or.inr rfl) rfl rfl (by decide) rfl (by omega) ?_
    have g148 : 0 ≤ (H.1 1883 v) ∧ (H.1 1883 v) ≤ 1 := hrg0.2 1883 v 60 .boolean rfl (by omega)
    refine h_run 0 (pc' := 48) (l' := [(0, .inr (.inr 1826)), (1, .inl (v : Int)), (2, .inl (o : Int)), (3, .inl (H.1 1826 89)), (4, .inl 0), (5, .inl 1)]) (st' := [.inl (H.1 1883 v)]) rfl ?_
    refine h_zeq (off := 7) (t := 55) rfl rfl (by omega) (fun c149 => ?_) (fun c149 => ?_)
    · refine h_run 2 (pc' := 58) (l' := [(0, .inr (.inr 1826)), (1, .inl (v : Int)), (2, .inl (o : Int)), (3, .inl (H.1 1826 89)), (4, .inl 0), (5, .inl 1), (6, .inl (-1))]) (st' := []) rfl ?_
      exact (m_casesOf_cut hd hP hO hvv hpr ho1 hv _).1 _ 0 1 (-1 : Int) (0) (fr_o (fr_rf _ _ _) (by decide)) (by omega) (by omega) (by omega) (RW_begin hO (show fr [95] [] H (zu H 1826 (up (H.1 1826) 95 0)) from (fr_o (fr_rf _ _ _) (by decide))) (by decide) (by decide) (by decide) rfl _) ho1 (by omega : 0 ≤ (H.1 1826 89) ∧ (H.1 1826 89) ≤ 60) (by omega) (Nat.lt_succ_self _)
    · refine h_run 3 (pc' := 58) (l' := [(0, .inr (.inr 1826)), (1, .inl (v : Int)), (2, .inl (o : Int)), (3, .inl (H.1 1826 89)), (4, .inl 0), (5, .inl 1), (6, .inl 0)]) (st' := []) rfl ?_
      exact (m_casesOf_cut hd hP hO hvv hpr ho1 hv _).1 _ 0 1 (0 : Int) (0) (fr_o (fr_rf _ _ _) (by decide)) (by omega) (by omega) (by omega) (RW_begin hO (show fr [95] [] H (zu H 1826 (up (H.1 1826) 95 0)) from (fr_o (fr_rf _ _ _) (by decide))) (by decide) (by decide) (by decide) rfl _) ho1 (by omega : 0 ≤ (H.1 1826 89) ∧ (H.1 1826 89) ≤ 60) (by omega) (Nat.lt_succ_self _)
  · refine h_run 5 (pc' := 36) (l' := [(0, .inr (.inr 1826)), (1, .inl (v : Int)), (2, .inl (o : Int)), (3, .inl (H.1 1826 89)), (4, .inl 1)]) (st' := [.inl 0, .inr (.inr 1826)]) rfl ?_
    refine h_puti (i := 553) (ci := 13) (k := 95) (a := 1826) (x := 0) rfl rfl rfl rfl rfl rfl (by decide) (by decide) ?_
    refine h_run 5 (pc' := 47) (l' := [(0, .inr (.inr 1826)), (1, .inl (v : Int)), (2, .inl (o : Int)), (3, .inl (H.1 1826 89)), (4, .inl 1), (5, .inl 1)]) (st' := [.inl (v : Int), .inr (.inr 1883)]) rfl ?_
    refine h_bld (c := 1883) (j := v) (i := (v : Int)) (Or.inr rfl) rfl rfl (by decide) rfl (by omega) ?_
    have g150 : 0 ≤ (H.1 1883 v) ∧ (H.1 1883 v) ≤ 1 := hrg0.2 1883 v 60 .boolean rfl (by omega)
    refine h_run 0 (pc' := 48) (l' := [(0, .inr (.inr 1826)), (1, .inl (v : Int)), (2, .inl (o : Int)), (3, .inl (H.1 1826 89)), (4, .inl 1), (5, .inl 1)]) (st' := [.inl (H.1 1883 v)]) rfl ?_
    refine h_zeq (off := 7) (t := 55) rfl rfl (by omega) (fun c151 => ?_) (fun c151 => ?_)
    · refine h_run 2 (pc' := 58) (l' := [(0, .inr (.inr 1826)), (1, .inl (v : Int)), (2, .inl (o : Int)), (3, .inl (H.1 1826 89)), (4, .inl 1), (5, .inl 1), (6, .inl (-1))]) (st' := []) rfl ?_
      exact (m_casesOf_cut hd hP hO hvv hpr ho1 hv _).1 _ 1 1 (-1 : Int) (0) (fr_o (fr_rf _ _ _) (by decide)) (by omega) (by omega) (by omega) (RW_begin hO (show fr [95] [] H (zu H 1826 (up (H.1 1826) 95 0)) from (fr_o (fr_rf _ _ _) (by decide))) (by decide) (by decide) (by decide) rfl _) ho1 (by omega : 0 ≤ (H.1 1826 89) ∧ (H.1 1826 89) ≤ 60) (by omega) (Nat.lt_succ_self _)
    · refine h_run 3 (pc' := 58) (l' := [(0, .inr (.inr 1826)), (1, .inl (v : Int)), (2, .inl (o : Int)), (3, .inl (H.1 1826 89)), (4, .inl 1), (5, .inl 1), (6, .inl 0)]) (st' := []) rfl ?_
      exact (m_casesOf_cut hd hP hO hvv hpr ho1 hv _).1 _ 1 1 (0 : Int) (0) (fr_o (fr_rf _ _ _) (by decide)) (by omega) (by omega) (by omega) (RW_begin hO (show fr [95] [] H (zu H 1826 (up (H.1 1826) 95 0)) from (fr_o (fr_rf _ _ _) (by decide))) (by decide) (by decide) (by decide) rfl _) ho1 (by omega : 0 ≤ (H.1 1826 89) ∧ (H.1 1826 89) ≤ 60) (by omega) (Nat.lt_succ_self _)
