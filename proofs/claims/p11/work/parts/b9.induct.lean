/-! the reference: induction -/
/-! inducted -/
set_option maxRecDepth 100000 in
theorem m_inducted_cut {zC : Nat → Option zsh} {d : Nat} (hd : 4 ≤ d) {H : hp} {n o v : Nat} (hP : PWc H) (hO : OS H H n) (hvv : 0 ≤ (H.1 1826 89) ∧ (H.1 1826 89) ≤ 60) (hpr : 0 ≤ (H.1 1826 74) ∧ (H.1 1826 74) < 16) (ho1 : (H.1 1871) 0 = (o : Int)) (hv : v < 60) : ∀ w : Nat, (∀ (H1 : hp) (b : Nat) (c : Nat) (m : Nat), (fr [53, 76, 77, 89, 93, 95, 99, 101] [1847, 1856, 1871, 1872, 1873, 1874, 1875, 1876, 1877, 1878, 1879, 1880, 1881, 1882, 1883, 1884, 1885, 1887, 1888] H H1) → (b ≤ 1) → ((c : Int) ≤ (H.1 1826 3)) → (m ≤ c + 1) → (RW H H1 n m (b : Int)) → ((H1.1 1871) 0 = (o : Int)) → (0 ≤ (H1.1 1826 89) ∧ (H1.1 1826 89) ≤ 60) → 100000 - 1000 * c < w → hG (zs zC) d mt_253 72 [(0, .inr (.inr 1826)), (1, .inl (v : Int)), (2, .inl (o : Int)), (3, .inl (H.1 1826 89)), (4, .inl (b : Int)), (5, .inl (c : Int))] [] H1 (fun r9 H2 => fr [53, 76, 77, 89, 93, 95, 99, 101] [1847, 1856, 1871, 1872, 1873, 1874, 1875, 1876, 1877, 1878, 1879, 1880, 1881, 1882, 1883, 1884, 1885, 1887, 1888] H H2 ∧ (0 ≤ (H2.1 1871) 0 ∧ (H2.1 1871) 0 < 40) ∧ (0 ≤ (H2.1 1826 89) ∧ (H2.1 1826 89) ≤ 60) ∧ ((r9 = some (.inl (-105)) ∧ OS H H2 n) ∨ ∃ n2 : Nat, r9 = some (.inl (n2 : Int)) ∧ (H2.1 1826 77) = (n2 : Int) ∧ (n2 = 0 ∨ OS H H2 n2)))) ∧ (∀ (H1 : hp) (b : Nat) (c : Nat) (fi : Nat) (g : Nat) (k : Nat) (m : Nat), (fr [53, 76, 77, 89, 93, 95, 99, 101] [1847, 1856, 1871, 1872, 1873, 1874, 1875, 1876, 1877, 1878, 1879, 1880, 1881, 1882, 1883, 1884, 1885, 1887, 1888] H H1) → (b ≤ 1) → ((c : Int) < (H.1 1826 3)) → (m ≤ c + 2) → (RG H H1 n m g (b : Int)) → ((H1.1 1871) 0 = (o : Int)) → (0 ≤ (H1.1 1826 89) ∧ (H1.1 1826 89) ≤ 60) → (k ≤ 61) → 100000 - 1000 * c - 10 * k - 10 < w → hG (zs zC) d mt_253 163 [(0, .inr (.inr 1826)), (1, .inl (v : Int)), (2, .inl (o : Int)), (3, .inl (H.1 1826 89)), (4, .inl (b : Int)), (5, .inl (c : Int)), (6, .inl (fi : Int)), (7, .inl (g : Int)), (8, .inl (k : Int))] [] H1 (fun r9 H2 => fr [53, 76, 77, 89, 93, 95, 99, 101] [1847, 1856, 1871, 1872, 1873, 1874, 1875, 1876, 1877, 1878, 1879, 1880, 1881, 1882, 1883, 1884, 1885, 1887, 1888] H H2 ∧ (0 ≤ (H2.1 1871) 0 ∧ (H2.1 1871) 0 < 40) ∧ (0 ≤ (H2.1 1826 89) ∧ (H2.1 1826 89) ≤ 60) ∧ ((r9 = some (.inl (-105)) ∧ OS H H2 n) ∨ ∃ n2 : Nat, r9 = some (.inl (n2 : Int)) ∧ (H2.1 1826 77) = (n2 : Int) ∧ (n2 = 0 ∨ OS H H2 n2)))) := by
  intro w
  induction w with
  | zero => exact ⟨fun _ _ _ _ _ _ _ _ _ _ _ h => absurd h (Nat.not_lt_zero _), fun _ _ _ _ _ _ _ _ _ _ _ _ _ _ _ h => absurd h (Nat.not_lt_zero _)⟩
  | succ w ih =>
    refine ⟨?_, ?_⟩
    · intro H1 b c m hf hb hc hm hW hoo hvv1 hw
      refine h_rng (fun hrg1 => ?_)
      have hQ1 : sP H H1 := sP_fr (sP_rf H) hf (by decide) (by decide)
      have hP1 : PWc H1 := PWc_fr hP hf (by decide) (by decide)
      obtain ⟨⟨pb1, pb2, pb3, pb4, pb5⟩, pw1, pw2, pw3, pw4⟩ := (id hP : PW H (H.1 1826 1) (H.1 1826 3) (H.1 1826 8) (H.1 1826 13) (H.1 1826 19))
      obtain ⟨ol, ou, og⟩ := RS_o hO ho1
      refine h_run 3 (pc' := 78) (l' := [(0, .inr (.inr 1826)), (1, .inl (v : Int)), (2, .inl (o : Int)), (3, .inl (H.1 1826 89)), (4, .inl (b : Int)), (5, .inl (c : Int))]) (st' := [.inl (H1.1 1826 3), .inl (c : Int)]) rfl ?_
      have g2 : -2147483648 ≤ (H1.1 1826 3) ∧ (H1.1 1826 3) ≤ 2147483647 := hrg1.1 1826 13 3 _ .int rfl rfl
      have e3 : (H1.1 1826 3) = (H.1 1826 3) := hf.2.2 3 (by decide)
      refine h_ige (off := 161) (t := 239) rfl rfl (by omega) (by omega) (fun c4 => ?_) (fun c4 => ?_)
      · refine h_run 2 (pc' := 242) (l' := [(0, .inr (.inr 1826)), (1, .inl (v : Int)), (2, .inl (o : Int)), (3, .inl (H.1 1826 89)), (4, .inl (b : Int)), (5, .inl (c : Int))]) (st' := [.inl (b : Int), .inr (.inr 1826)]) rfl ?_
        have g6 : -2147483648 ≤ (H1.1 1826 74) ∧ (H1.1 1826 74) ≤ 2147483647 := hrg1.1 1826 13 74 _ .int rfl rfl
        have e7 : (H1.1 1826 74) = (H.1 1826 74) := hf.2.2 74 (by decide)
        refine h_cv (i := 631) (j := 234) (b := 1826) (M' := mt_234) (xs := [.inl (b : Int)]) (rest := []) rfl rfl rfl rfl rfl rfl (Nat.le_of_ble_eq_true rfl) (Nat.le_of_ble_eq_true rfl) (by omega) (m_replace (P := H) (n := n) (m := m) (by omega) (by omega) hW.1 hW.2.1 hW.2.2 (show 0 ≤ (H1.1 1826 74) ∧ (H1.1 1826 74) < 16 by omega)) ?_
        rintro _ H5 ⟨hfH5, horH5, (⟨rfl, hOH5⟩ | ⟨n2H5, rfl, hnH5, hOH5⟩)⟩
        · refine h_rng (fun hrg8 => ?_)
          have hf9 : fr [53, 76, 77, 89, 93, 95, 99, 101] [1847, 1856, 1871, 1872, 1873, 1874, 1875, 1876, 1877, 1878, 1879, 1880, 1881, 1882, 1883, 1884, 1885, 1887, 1888] H H5 := fr_t hf hfH5 (by decide) (by decide)
          refine h_run 0 (pc' := 245) (l' := [(0, .inr (.inr 1826)), (1, .inl (v : Int)), (2, .inl (o : Int)), (3, .inl (H.1 1826 89)), (4, .inl (b : Int)), (5, .inl (c : Int))]) (st' := [.inl (-105)]) rfl ?_
          refine h_run 4 (pc' := 252) (l' := [(0, .inr (.inr 1826)), (1, .inl (v : Int)), (2, .inl (o : Int)), (3, .inl (H.1 1826 89)), (4, .inl (b : Int)), (5, .inl (-105))]) (st' := [.inl (-105), .inl (-105), .inr (.inr 1826)]) rfl ?_
          refine h_ine (off := 7) (t := 259) rfl rfl (by decide) (by decide) (fun c => absurd c (by decide)) (fun _ => ?_)
          refine h_run 2 (pc' := 263) (l' := [(0, .inr (.inr 1826)), (1, .inl (v : Int)), (2, .inl (o : Int)), (3, .inl (H.1 1826 89)), (4, .inl (b : Int)), (5, .inl (-105))]) (st' := [.inl (H.1 1826 89), .inr (.inr 1826)]) rfl ?_
          refine h_puti (i := 541) (ci := 13) (k := 89) (a := 1826) (x := (H.1 1826 89)) rfl rfl rfl rfl rfl rfl (by decide) (by omega) ?_
          refine h_run 1 (pc' := 268) (l' := [(0, .inr (.inr 1826)), (1, .inl (v : Int)), (2, .inl (o : Int)), (3, .inl (H.1 1826 89)), (4, .inl (b : Int)), (5, .inl (-105))]) (st' := [.inl (-105)]) rfl ?_
          refine h_reti (x := (-105)) rfl rfl ?_
          refine ⟨(fr_o hf9 (by decide)), horH5, (show 0 ≤ (H.1 1826 89) ∧ (H.1 1826 89) ≤ 60 by omega), ?_⟩
          exact Or.inl ⟨rfl, (RS_s hOH5 rfl rfl rfl (fun x => ⟨⟨fun _ _ => rfl, fun _ _ => rfl⟩, ⟨rfl, fun _ _ => rfl, fun _ _ => rfl⟩⟩))⟩
        · refine h_rng (fun hrg10 => ?_)
          have hf11 : fr [53, 76, 77, 89, 93, 95, 99, 101] [1847, 1856, 1871, 1872, 1873, 1874, 1875, 1876, 1877, 1878, 1879, 1880, 1881, 1882, 1883, 1884, 1885, 1887, 1888] H H5 := fr_t hf hfH5 (by decide) (by decide)
          have hbH5 : n2H5 ≤ 12 := by rcases hOH5 with q9 | q9; { rw [q9]; decide }; { exact q9.1.2.2.1 }
          refine h_run 0 (pc' := 245) (l' := [(0, .inr (.inr 1826)), (1, .inl (v : Int)), (2, .inl (o : Int)), (3, .inl (H.1 1826 89)), (4, .inl (b : Int)), (5, .inl (c : Int))]) (st' := [.inl (n2H5 : Int)]) rfl ?_
          refine h_run 4 (pc' := 252) (l' := [(0, .inr (.inr 1826)), (1, .inl (v : Int)), (2, .inl (o : Int)), (3, .inl (H.1 1826 89)), (4, .inl (b : Int)), (5, .inl (n2H5 : Int))]) (st' := [.inl (-105), .inl (n2H5 : Int), .inr (.inr 1826)]) rfl ?_
          refine h_ine (off := 7) (t := 259) rfl rfl (by omega) (by decide) (fun c12 => ?_) (fun c12 => ?_)
          · refine h_run 2 (pc' := 263) (l' := [(0, .inr (.inr 1826)), (1, .inl (v : Int)), (2, .inl (o : Int)), (3, .inl (H.1 1826 89)), (4, .inl (b : Int)), (5, .inl (n2H5 : Int))]) (st' := [.inl (H5.1 1826 89), .inr (.inr 1826)]) rfl ?_
            have g13 : -2147483648 ≤ (H5.1 1826 89) ∧ (H5.1 1826 89) ≤ 2147483647 := hrg10.1 1826 13 89 _ .int rfl rfl
            have e14 : (H5.1 1826 89) = (H1.1 1826 89) := hfH5.2.2 89 (by decide)
            refine h_puti (i := 541) (ci := 13) (k := 89) (a := 1826) (x := (H5.1 1826 89)) rfl rfl rfl rfl rfl rfl (by decide) (by omega) ?_
            refine h_run 1 (pc' := 268) (l' := [(0, .inr (.inr 1826)), (1, .inl (v : Int)), (2, .inl (o : Int)), (3, .inl (H.1 1826 89)), (4, .inl (b : Int)), (5, .inl (n2H5 : Int))]) (st' := [.inl (n2H5 : Int)]) rfl ?_
            refine h_reti (x := (n2H5 : Int)) rfl rfl ?_
            refine ⟨(fr_o hf11 (by decide)), horH5, (show 0 ≤ (H5.1 1826 89) ∧ (H5.1 1826 89) ≤ 60 by omega), ?_⟩
            refine Or.inr ⟨n2H5, rfl, hnH5, ?_⟩
            rcases hOH5 with q9 | q9
            · exact Or.inl q9
            · exact Or.inr (RS_s q9 rfl rfl rfl (fun x => ⟨⟨fun _ _ => rfl, fun _ _ => rfl⟩, ⟨rfl, fun _ _ => rfl, fun _ _ => rfl⟩⟩))
          · refine h_run 2 (pc' := 263) (l' := [(0, .inr (.inr 1826)), (1, .inl (v : Int)), (2, .inl (o : Int)), (3, .inl (H.1 1826 89)), (4, .inl (b : Int)), (5, .inl (n2H5 : Int))]) (st' := [.inl (H.1 1826 89), .inr (.inr 1826)]) rfl ?_
            refine h_puti (i := 541) (ci := 13) (k := 89) (a := 1826) (x := (H.1 1826 89)) rfl rfl rfl rfl rfl rfl (by decide) (by omega) ?_
            refine h_run 1 (pc' := 268) (l' := [(0, .inr (.inr 1826)), (1, .inl (v : Int)), (2, .inl (o : Int)), (3, .inl (H.1 1826 89)), (4, .inl (b : Int)), (5, .inl (n2H5 : Int))]) (st' := [.inl (n2H5 : Int)]) rfl ?_
            refine h_reti (x := (n2H5 : Int)) rfl rfl ?_
            refine ⟨(fr_o hf11 (by decide)), horH5, (show 0 ≤ (H.1 1826 89) ∧ (H.1 1826 89) ≤ 60 by omega), ?_⟩
            refine Or.inr ⟨n2H5, rfl, hnH5, ?_⟩
            rcases hOH5 with q9 | q9
            · exact Or.inl q9
            · exact Or.inr (RS_s q9 rfl rfl rfl (fun x => ⟨⟨fun _ _ => rfl, fun _ _ => rfl⟩, ⟨rfl, fun _ _ => rfl, fun _ _ => rfl⟩⟩))
      · refine h_run 1 (pc' := 83) (l' := [(0, .inr (.inr 1826)), (1, .inl (v : Int)), (2, .inl (o : Int)), (3, .inl (H.1 1826 89)), (4, .inl (b : Int)), (5, .inl (c : Int))]) (st' := [.inl (b : Int)]) rfl ?_
        refine h_zeq (off := 156) (t := 239) rfl rfl (by omega) (fun c15 => ?_) (fun c15 => ?_)
        · refine h_run 2 (pc' := 242) (l' := [(0, .inr (.inr 1826)), (1, .inl (v : Int)), (2, .inl (o : Int)), (3, .inl (H.1 1826 89)), (4, .inl (b : Int)), (5, .inl (c : Int))]) (st' := [.inl (b : Int), .inr (.inr 1826)]) rfl ?_
          have g17 : -2147483648 ≤ (H1.1 1826 74) ∧ (H1.1 1826 74) ≤ 2147483647 := hrg1.1 1826 13 74 _ .int rfl rfl
          have e18 : (H1.1 1826 74) = (H.1 1826 74) := hf.2.2 74 (by decide)
          refine h_cv (i := 631) (j := 234) (b := 1826) (M' := mt_234) (xs := [.inl (b : Int)]) (rest := []) rfl rfl rfl rfl rfl rfl (Nat.le_of_ble_eq_true rfl) (Nat.le_of_ble_eq_true rfl) (by omega) (m_replace (P := H) (n := n) (m := m) (by omega) (by omega) hW.1 hW.2.1 hW.2.2 (show 0 ≤ (H1.1 1826 74) ∧ (H1.1 1826 74) < 16 by omega)) ?_
          rintro _ H16 ⟨hfH16, horH16, (⟨rfl, hOH16⟩ | ⟨n2H16, rfl, hnH16, hOH16⟩)⟩
          · refine h_rng (fun hrg19 => ?_)
            have hf20 : fr [53, 76, 77, 89, 93, 95, 99, 101] [1847, 1856, 1871, 1872, 1873, 1874, 1875, 1876, 1877, 1878, 1879, 1880, 1881, 1882, 1883, 1884, 1885, 1887, 1888] H H16 := fr_t hf hfH16 (by decide) (by decide)
            refine h_run 0 (pc' := 245) (l' := [(0, .inr (.inr 1826)), (1, .inl (v : Int)), (2, .inl (o : Int)), (3, .inl (H.1 1826 89)), (4, .inl (b : Int)), (5, .inl (c : Int))]) (st' := [.inl (-105)]) rfl ?_
            refine h_run 4 (pc' := 252) (l' := [(0, .inr (.inr 1826)), (1, .inl (v : Int)), (2, .inl (o : Int)), (3, .inl (H.1 1826 89)), (4, .inl (b : Int)), (5, .inl (-105))]) (st' := [.inl (-105), .inl (-105), .inr (.inr 1826)]) rfl ?_
            refine h_ine (off := 7) (t := 259) rfl rfl (by decide) (by decide) (fun c => absurd c (by decide)) (fun _ => ?_)
            refine h_run 2 (pc' := 263) (l' := [(0, .inr (.inr 1826)), (1, .inl (v : Int)), (2, .inl (o : Int)), (3, .inl (H.1 1826 89)), (4, .inl (b : Int)), (5, .inl (-105))]) (st' := [.inl (H.1 1826 89), .inr (.inr 1826)]) rfl ?_
            refine h_puti (i := 541) (ci := 13) (k := 89) (a := 1826) (x := (H.1 1826 89)) rfl rfl rfl rfl rfl rfl (by decide) (by omega) ?_
            refine h_run 1 (pc' := 268) (l' := [(0, .inr (.inr 1826)), (1, .inl (v : Int)), (2, .inl (o : Int)), (3, .inl (H.1 1826 89)), (4, .inl (b : Int)), (5, .inl (-105))]) (st' := [.inl (-105)]) rfl ?_
            refine h_reti (x := (-105)) rfl rfl ?_
            refine ⟨(fr_o hf20 (by decide)), horH16, (show 0 ≤ (H.1 1826 89) ∧ (H.1 1826 89) ≤ 60 by omega), ?_⟩
            exact Or.inl ⟨rfl, (RS_s hOH16 rfl rfl rfl (fun x => ⟨⟨fun _ _ => rfl, fun _ _ => rfl⟩, ⟨rfl, fun _ _ => rfl, fun _ _ => rfl⟩⟩))⟩
          · refine h_rng (fun hrg21 => ?_)
            have hf22 : fr [53, 76, 77, 89, 93, 95, 99, 101] [1847, 1856, 1871, 1872, 1873, 1874, 1875, 1876, 1877, 1878, 1879, 1880, 1881, 1882, 1883, 1884, 1885, 1887, 1888] H H16 := fr_t hf hfH16 (by decide) (by decide)
            have hbH16 : n2H16 ≤ 12 := by rcases hOH16 with q9 | q9; { rw [q9]; decide }; { exact q9.1.2.2.1 }
            refine h_run 0 (pc' := 245) (l' := [(0, .inr (.inr 1826)), (1, .inl (v : Int)), (2, .inl (o : Int)), (3, .inl (H.1 1826 89)), (4, .inl (b : Int)), (5, .inl (c : Int))]) (st' := [.inl (n2H16 : Int)]) rfl ?_
            refine h_run 4 (pc' := 252) (l' := [(0, .inr (.inr 1826)), (1, .inl (v : Int)), (2, .inl (o : Int)), (3, .inl (H.1 1826 89)), (4, .inl (b : Int)), (5, .inl (n2H16 : Int))]) (st' := [.inl (-105), .inl (n2H16 : Int), .inr (.inr 1826)]) rfl ?_
            refine h_ine (off := 7) (t := 259) rfl rfl (by omega) (by decide) (fun c23 => ?_) (fun c23 => ?_)
            · refine h_run 2 (pc' := 263) (l' := [(0, .inr (.inr 1826)), (1, .inl (v : Int)), (2, .inl (o : Int)), (3, .inl (H.1 1826 89)), (4, .inl (b : Int)), (5, .inl (n2H16 : Int))]) (st' := [.inl (H16.1 1826 89), .inr (.inr 1826)]) rfl ?_
              have g24 : -2147483648 ≤ (H16.1 1826 89) ∧ (H16.1 1826 89) ≤ 2147483647 := hrg21.1 1826 13 89 _ .int rfl rfl
              have e25 : (H16.1 1826 89) = (H1.1 1826 89) := hfH16.2.2 89 (by decide)
              refine h_puti (i := 541) (ci := 13) (k := 89) (a := 1826) (x := (H16.1 1826 89)) rfl rfl rfl rfl rfl rfl (by decide) (by omega) ?_
              refine h_run 1 (pc' := 268) (l' := [(0, .inr (.inr 1826)), (1, .inl (v : Int)), (2, .inl (o : Int)), (3, .inl (H.1 1826 89)), (4, .inl (b : Int)), (5, .inl (n2H16 : Int))]) (st' := [.inl (n2H16 : Int)]) rfl ?_
              refine h_reti (x := (n2H16 : Int)) rfl rfl ?_
              refine ⟨(fr_o hf22 (by decide)), horH16, (show 0 ≤ (H16.1 1826 89) ∧ (H16.1 1826 89) ≤ 60 by omega), ?_⟩
              refine Or.inr ⟨n2H16, rfl, hnH16, ?_⟩
              rcases hOH16 with q9 | q9
              · exact Or.inl q9
              · exact Or.inr (RS_s q9 rfl rfl rfl (fun x => ⟨⟨fun _ _ => rfl, fun _ _ => rfl⟩, ⟨rfl, fun _ _ => rfl, fun _ _ => rfl⟩⟩))
            · refine h_run 2 (pc' := 263) (l' := [(0, .inr (.inr 1826)), (1, .inl (v : Int)), (2, .inl (o : Int)), (3, .inl (H.1 1826 89)), (4, .inl (b : Int)), (5, .inl (n2H16 : Int))]) (st' := [.inl (H.1 1826 89), .inr (.inr 1826)]) rfl ?_
              refine h_puti (i := 541) (ci := 13) (k := 89) (a := 1826) (x := (H.1 1826 89)) rfl rfl rfl rfl rfl rfl (by decide) (by omega) ?_
              refine h_run 1 (pc' := 268) (l' := [(0, .inr (.inr 1826)), (1, .inl (v : Int)), (2, .inl (o : Int)), (3, .inl (H.1 1826 89)), (4, .inl (b : Int)), (5, .inl (n2H16 : Int))]) (st' := [.inl (n2H16 : Int)]) rfl ?_
              refine h_reti (x := (n2H16 : Int)) rfl rfl ?_
              refine ⟨(fr_o hf22 (by decide)), horH16, (show 0 ≤ (H.1 1826 89) ∧ (H.1 1826 89) ≤ 60 by omega), ?_⟩
              refine Or.inr ⟨n2H16, rfl, hnH16, ?_⟩
              rcases hOH16 with q9 | q9
              · exact Or.inl q9
              · exact Or.inr (RS_s q9 rfl rfl rfl (fun x => ⟨⟨fun _ _ => rfl, fun _ _ => rfl⟩, ⟨rfl, fun _ _ => rfl, fun _ _ => rfl⟩⟩))
        · have hca := (pw1 c (by omega)).1
          have eca : (H1.1 1829) = (H.1 1829) := hf.2.1 1829 (by decide) (by decide)
          refine h_run 3 (pc' := 92) (l' := [(0, .inr (.inr 1826)), (1, .inl (v : Int)), (2, .inl (o : Int)), (3, .inl (H.1 1826 89)), (4, .inl (b : Int)), (5, .inl (c : Int))]) (st' := [.inl (c : Int), .inr (.inr 1829)]) rfl ?_
          refine h_ild (c := 1829) (j := c) (i := (c : Int)) rfl rfl (by decide) rfl (by omega) ?_
          have g26 : -2147483648 ≤ (H1.1 1829 c) ∧ (H1.1 1829 c) ≤ 2147483647 := hrg1.2 1829 c 16 .int rfl (by omega)
          have e27 : (H1.1 1829 c) = (H.1 1829 c) := congrFun (hf.2.1 1829 (by decide) (by decide)) c
          refine h_run 0 (pc' := 93) (l' := [(0, .inr (.inr 1826)), (1, .inl (v : Int)), (2, .inl (o : Int)), (3, .inl (H.1 1826 89)), (4, .inl (b : Int)), (5, .inl (c : Int))]) (st' := [.inl (H1.1 1829 c)]) rfl ?_
          refine h_run 3 (pc' := 98) (l' := [(0, .inr (.inr 1826)), (1, .inl (v : Int)), (2, .inl (o : Int)), (3, .inl (H.1 1826 89)), (4, .inl (b : Int)), (5, .inl (c : Int))]) (st' := [.inl (v : Int), .inr (.inr 1882), .inl (H1.1 1829 c)]) rfl ?_
          refine h_ild (c := 1882) (j := v) (i := (v : Int)) rfl rfl (by decide) rfl (by omega) ?_
          have g28 : -2147483648 ≤ (H1.1 1882 v) ∧ (H1.1 1882 v) ≤ 2147483647 := hrg1.2 1882 v 60 .int rfl (by omega)
          refine h_run 0 (pc' := 99) (l' := [(0, .inr (.inr 1826)), (1, .inl (v : Int)), (2, .inl (o : Int)), (3, .inl (H.1 1826 89)), (4, .inl (b : Int)), (5, .inl (c : Int))]) (st' := [.inl (H1.1 1882 v), .inl (H1.1 1829 c)]) rfl ?_
          refine h_ine (off := 134) (t := 233) rfl rfl (by omega) (by omega) (fun c29 => ?_) (fun c29 => ?_)
          · refine h_run 2 (pc' := 72) (l' := [(0, .inr (.inr 1826)), (1, .inl (v : Int)), (2, .inl (o : Int)), (3, .inl (H.1 1826 89)), (4, .inl (b : Int)), (5, .inl ((c : Int) + 1))]) (st' := []) rfl ?_
            have g30 : -2147483648 ≤ (H1.1 1826 89) ∧ (H1.1 1826 89) ≤ 2147483647 := hrg1.1 1826 13 89 _ .int rfl rfl
            rw [show ((c : Int) + 1) = (((c + 1) : Nat) : Int) by omega]
            exact ih.1 _ b (c + 1) (m) hf (by omega) (by omega) (by omega) hW hoo (by omega : 0 ≤ (H1.1 1826 89) ∧ (H1.1 1826 89) ≤ 60) (by omega : 100000 - 1000 * (c + 1) < w)
          · refine h_run 2 (pc' := 106) (l' := [(0, .inr (.inr 1826)), (1, .inl (v : Int)), (2, .inl (o : Int)), (3, .inl (H.1 1826 89)), (4, .inl (b : Int)), (5, .inl (c : Int))]) (st' := [.inl (H1.1 1826 89)]) rfl ?_
            have g31 : -2147483648 ≤ (H1.1 1826 89) ∧ (H1.1 1826 89) ≤ 2147483647 := hrg1.1 1826 13 89 _ .int rfl rfl
            refine h_run 3 (pc' := 110) (l' := [(0, .inr (.inr 1826)), (1, .inl (v : Int)), (2, .inl (o : Int)), (3, .inl (H.1 1826 89)), (4, .inl (b : Int)), (5, .inl (c : Int)), (6, .inl (H1.1 1826 89))]) (st' := [.inl (o : Int), .inr (.inr 1826)]) rfl ?_
            have hWg33 : RW H H1 n m 1 := (RW_fr (b := 1) (by have h9 := hW; rw [show b = 1 by omega] at h9; exact h9) (show fr [] [] H1 H1 from (fr_rf _ _ _)) (by decide) (by decide) (by decide))
            obtain ⟨zg33, hzg33⟩ := RS_free hWg33.1
            obtain ⟨o1g33, o2g33, o3g33⟩ := RS_o hWg33.1 (show (H1.1 1871) 0 = (o : Int) from hoo)
            refine h_cv (i := 616) (j := 233) (b := 1826) (M' := mt_233) (xs := [.inl (o : Int)]) (rest := []) rfl rfl rfl rfl rfl rfl (Nat.le_of_ble_eq_true rfl) (Nat.le_of_ble_eq_true rfl) (by omega) (m_newGoal (P := H) (m := m) (by omega) hzg33 ⟨o1g33, o2g33⟩ o3g33 ⟨hWg33.2.1, by omega⟩) ?_
            rintro _ H32 ⟨g33, rfl, lg33, ug33, hfH32, e3g33, e5g33, e6g33, kg33, e4g33⟩
            refine h_rng (fun hrg34 => ?_)
            have hf35 : fr [53, 76, 77, 89, 93, 95, 99, 101] [1847, 1856, 1871, 1872, 1873, 1874, 1875, 1876, 1877, 1878, 1879, 1880, 1881, 1882, 1883, 1884, 1885, 1887, 1888] H H32 := fr_t hf hfH32 (by decide) (by decide)
            have hRGH32 : RG H H32 n (m + 1) g33 1 := RW_new hWg33 rfl (by omega) lg33 ug33 hfH32 (by decide) (by decide) e3g33 e5g33 e6g33 kg33 e4g33
            have hooH32 : (H32.1 1871) 0 = (o : Int) := (congrFun (hfH32.2.1 1871 (by decide) (by decide)) 0).trans hoo
            refine h_run 0 (pc' := 113) (l' := [(0, .inr (.inr 1826)), (1, .inl (v : Int)), (2, .inl (o : Int)), (3, .inl (H.1 1826 89)), (4, .inl (b : Int)), (5, .inl (c : Int)), (6, .inl (H1.1 1826 89))]) (st' := [.inl (g33 : Int)]) rfl ?_
            refine h_run 5 (pc' := 122) (l' := [(0, .inr (.inr 1826)), (1, .inl (v : Int)), (2, .inl (o : Int)), (3, .inl (H.1 1826 89)), (4, .inl (b : Int)), (5, .inl (c : Int)), (6, .inl (H1.1 1826 89)), (7, .inl (g33 : Int))]) (st' := [.inl (g33 : Int), .inr (.inr 1877), .inl (g33 : Int), .inr (.inr 1877)]) rfl ?_
            refine h_ild (c := 1877) (j := g33) (i := (g33 : Int)) rfl rfl (by decide) rfl (by omega) ?_
            have g36 : -2147483648 ≤ (H32.1 1877 g33) ∧ (H32.1 1877 g33) ≤ 2147483647 := hrg34.2 1877 g33 40 .int rfl (by omega)
            refine h_run 0 (pc' := 123) (l' := [(0, .inr (.inr 1826)), (1, .inl (v : Int)), (2, .inl (o : Int)), (3, .inl (H.1 1826 89)), (4, .inl (b : Int)), (5, .inl (c : Int)), (6, .inl (H1.1 1826 89)), (7, .inl (g33 : Int))]) (st' := [.inl (H32.1 1877 g33), .inl (g33 : Int), .inr (.inr 1877)]) rfl ?_
            refine h_run 2 (pc' := 125) (l' := [(0, .inr (.inr 1826)), (1, .inl (v : Int)), (2, .inl (o : Int)), (3, .inl (H.1 1826 89)), (4, .inl (b : Int)), (5, .inl (c : Int)), (6, .inl (H1.1 1826 89)), (7, .inl (g33 : Int))]) (st' := [.inl ((H32.1 1877 g33) + 1), .inl (g33 : Int), .inr (.inr 1877)]) rfl ?_
            refine h_nrm (fun y37 hy37 => ?_)
            refine h_run 0 (pc' := 125) (l' := [(0, .inr (.inr 1826)), (1, .inl (v : Int)), (2, .inl (o : Int)), (3, .inl (H.1 1826 89)), (4, .inl (b : Int)), (5, .inl (c : Int)), (6, .inl (H1.1 1826 89)), (7, .inl (g33 : Int))]) (st' := [.inl y37, .inl (g33 : Int), .inr (.inr 1877)]) rfl ?_
            refine h_ist (c := 1877) (j := g33) (i := (g33 : Int)) (x := y37) rfl rfl (by decide) (by decide) rfl (by omega) (by omega) ?_
            obtain ⟨q, hq⟩ : ∃ q : Nat, (H.1 1830) c = (q : Int) := ⟨((H.1 1830) c).toNat, by omega⟩
            refine h_run 5 (pc' := 134) (l' := [(0, .inr (.inr 1826)), (1, .inl (v : Int)), (2, .inl (o : Int)), (3, .inl (H.1 1826 89)), (4, .inl (b : Int)), (5, .inl (c : Int)), (6, .inl (H1.1 1826 89)), (7, .inl (g33 : Int))]) (st' := [.inl (v : Int), .inr (.inr 1883), .inl (c : Int), .inr (.inr 1826)]) rfl ?_
            refine h_bld (c := 1883) (j := v) (i := (v : Int)) (Or.inr rfl) rfl rfl (by decide) rfl (by omega) ?_
            have g38 : 0 ≤ (H32.1 1883 v) ∧ (H32.1 1883 v) ≤ 1 := hrg34.2 1883 v 60 .boolean rfl (by omega)
            have e39 : (H32.1 1883 v) = (H1.1 1883 v) := congrFun (hfH32.2.1 1883 (by decide) (by decide)) v
            refine h_run 0 (pc' := 135) (l' := [(0, .inr (.inr 1826)), (1, .inl (v : Int)), (2, .inl (o : Int)), (3, .inl (H.1 1826 89)), (4, .inl (b : Int)), (5, .inl (c : Int)), (6, .inl (H1.1 1826 89)), (7, .inl (g33 : Int))]) (st' := [.inl (H32.1 1883 v), .inl (c : Int), .inr (.inr 1826)]) rfl ?_
            have g41 : -2147483648 ≤ (H32.1 1826 3) ∧ (H32.1 1826 3) ≤ 2147483647 := hrg34.1 1826 13 3 _ .int rfl rfl
            have e42 : (H32.1 1826 3) = (H1.1 1826 3) := hfH32.2.2 3 (by decide)
            have g43 : -2147483648 ≤ (H32.1 1826 89) ∧ (H32.1 1826 89) ≤ 2147483647 := hrg34.1 1826 13 89 _ .int rfl rfl
            have e44 : (H32.1 1826 89) = (H1.1 1826 89) := hfH32.2.2 89 (by decide)
            have rg45 : RG H (zu H32 1877 (up (H32.1 1877) g33 y37)) n (m + 1) g33 1 := RG_fr0 hRGH32 (show fr [] [1877] H32 (zu H32 1877 (up (H32.1 1877) g33 y37)) from (fr_a (fr_rf _ _ _) (by decide))) (by decide) (by decide) (by decide)
            have hPH40 : PWc (zu H32 1877 (up (H32.1 1877) g33 y37)) := PWc_fr hP (fr_a hf35 (by decide)) (by decide) (by decide)
            have hQH40 : sP H (zu H32 1877 (up (H32.1 1877) g33 y37)) := sP_fr (sP_rf H) (fr_a hf35 (by decide)) (by decide) (by decide)
            refine h_cv (i := 623) (j := 249) (b := 1826) (M' := mt_249) (xs := [.inl (H32.1 1883 v), .inl (c : Int)]) (rest := []) rfl rfl rfl rfl rfl rfl (Nat.le_of_ble_eq_true rfl) (Nat.le_of_ble_eq_true rfl) (by omega) (m_isNew (q := q) (by omega) hPH40 (show (_ : Int) < (H32.1 1826 3) by omega) (by rw [hQH40.2.1]; exact hq) (show 0 ≤ (H32.1 1826 89) ∧ (H32.1 1826 89) ≤ 60 by omega) (by omega)) ?_
            rintro _ H40 ⟨hfH40, hsH40, (⟨rfl, hvH40⟩ | ⟨rfl, hvH40, hwH40, htH40⟩)⟩
            · refine h_rng (fun hrg46 => ?_)
              have hf47 : fr [53, 76, 77, 89, 93, 95, 99, 101] [1847, 1856, 1871, 1872, 1873, 1874, 1875, 1876, 1877, 1878, 1879, 1880, 1881, 1882, 1883, 1884, 1885, 1887, 1888] H H40 := fr_t (fr_a hf35 (by decide)) hfH40 (by decide) (by decide)
              have hRGH40 : RG H H40 n (m + 1) g33 1 := RG_fr0 rg45 hfH40 (by decide) (by decide) (by decide)
              have hooH40 : (H40.1 1871) 0 = (o : Int) := (congrFun (hfH40.2.1 1871 (by decide) (by decide)) 0).trans hooH32
              have hvxH40 : (H40.1 1826 89) = (H32.1 1826 89) := hvH40
              refine h_run 0 (pc' := 138) (l' := [(0, .inr (.inr 1826)), (1, .inl (v : Int)), (2, .inl (o : Int)), (3, .inl (H.1 1826 89)), (4, .inl (b : Int)), (5, .inl (c : Int)), (6, .inl (H1.1 1826 89)), (7, .inl (g33 : Int))]) (st' := [.inl 0]) rfl ?_
              refine h_zeq (off := 18) (t := 156) rfl rfl (by decide) (fun _ => ?_) (fun c => absurd c (by decide))
              refine h_run 4 (pc' := 163) (l' := [(0, .inr (.inr 1826)), (1, .inl (v : Int)), (2, .inl (o : Int)), (3, .inl (H.1 1826 89)), (4, .inl 0), (5, .inl (c : Int)), (6, .inl (H1.1 1826 89)), (7, .inl (g33 : Int)), (8, .inl (H1.1 1826 89))]) (st' := []) rfl ?_
              have g48 : -2147483648 ≤ (H40.1 1826 89) ∧ (H40.1 1826 89) ≤ 2147483647 := hrg46.1 1826 13 89 _ .int rfl rfl
              rw [show (H1.1 1826 89) = ((((H1.1 1826 89)).toNat : Nat) : Int) by omega]
              exact ih.2 _ 0 c ((H1.1 1826 89)).toNat g33 ((H1.1 1826 89)).toNat (m + 1) hf47 (by omega) (by omega) (by omega) (RG_b hRGH40 _ (fun q9 => absurd q9 (by decide))) hooH40 (by omega : 0 ≤ (H40.1 1826 89) ∧ (H40.1 1826 89) ≤ 60) (by omega) (by omega : 100000 - 1000 * c - 10 * ((H1.1 1826 89)).toNat - 10 < w)
            · refine h_rng (fun hrg49 => ?_)
              have hf50 : fr [53, 76, 77, 89, 93, 95, 99, 101] [1847, 1856, 1871, 1872, 1873, 1874, 1875, 1876, 1877, 1878, 1879, 1880, 1881, 1882, 1883, 1884, 1885, 1887, 1888] H H40 := fr_t (fr_a hf35 (by decide)) hfH40 (by decide) (by decide)
              have hRGH40 : RG H H40 n (m + 1) g33 1 := RG_fr0 rg45 hfH40 (by decide) (by decide) (by decide)
              have hooH40 : (H40.1 1871) 0 = (o : Int) := (congrFun (hfH40.2.1 1871 (by decide) (by decide)) 0).trans hooH32
              have hvxH40 : (H40.1 1826 89) = (H32.1 1826 89) + (q : Int) ∧ (H32.1 1826 89) + (q : Int) ≤ 60 := ⟨hvH40, hwH40⟩
              have hstH40 : tm (ma (H.1 1833) (H.1 1830)) (m_sg (H.1 1826 3) (H.1 1826 8) 60) (H40.1 1887) (1 + q) 0 1 := by have h9 := htH40; rw [hQH40.1, hQH40.2.1, hQH40.2.2.1, hQH40.2.2.2] at h9; exact h9
              refine h_run 0 (pc' := 138) (l' := [(0, .inr (.inr 1826)), (1, .inl (v : Int)), (2, .inl (o : Int)), (3, .inl (H.1 1826 89)), (4, .inl (b : Int)), (5, .inl (c : Int)), (6, .inl (H1.1 1826 89)), (7, .inl (g33 : Int))]) (st' := [.inl 1]) rfl ?_
              refine h_zeq (off := 18) (t := 156) rfl rfl (by decide) (fun c => absurd c (by decide)) (fun _ => ?_)
              refine h_run 4 (pc' := 146) (l' := [(0, .inr (.inr 1826)), (1, .inl (v : Int)), (2, .inl (o : Int)), (3, .inl (H.1 1826 89)), (4, .inl (b : Int)), (5, .inl (c : Int)), (6, .inl (H1.1 1826 89)), (7, .inl (g33 : Int))]) (st' := [.inl (v : Int), .inl (o : Int), .inl (g33 : Int), .inr (.inr 1826)]) rfl ?_
              have g53 : -2147483648 ≤ (H40.1 1826 99) ∧ (H40.1 1826 99) ≤ 2147483647 := hrg49.1 1826 13 99 _ .int rfl rfl
              have rg52 := hRGH40
              obtain ⟨o1rg52, o2rg52, o3rg52⟩ := RS_o rg52.1 (show (H40.1 1871) 0 = (o : Int) from hooH40)
              have hQH51 : sP H H40 := sP_fr (sP_rf H) hf50 (by decide) (by decide)
              refine h_cv (i := 619) (j := 250) (b := 1826) (M' := mt_250) (xs := [.inl (v : Int), .inl (o : Int), .inl (g33 : Int)]) (rest := []) rfl rfl rfl rfl rfl rfl (Nat.le_of_ble_eq_true rfl) (Nat.le_of_ble_eq_true rfl) (by omega) (m_isPut (P := H) (sn := (1 + q)) (by omega) hQH51 ⟨RG_lt rg52, o1rg52, RG_ne rg52 (show (H40.1 1871) 0 = (o : Int) from hooH40), by omega⟩ o3rg52.1 (show (H40.1 1826 99) = (((1 + q) : Nat) : Int) ∧ (1 + q) ≤ 4 by omega) hstH40) ?_
              rintro _ H51 ⟨hfH51, hkH51, (rfl | ⟨rfl, hxH51⟩)⟩
              · refine h_rng (fun hrg54 => ?_)
                have hf55 : fr [53, 76, 77, 89, 93, 95, 99, 101] [1847, 1856, 1871, 1872, 1873, 1874, 1875, 1876, 1877, 1878, 1879, 1880, 1881, 1882, 1883, 1884, 1885, 1887, 1888] H H51 := fr_t hf50 hfH51 (by decide) (by decide)
                have hooH51 : (H51.1 1871) 0 = (o : Int) := (congrFun (hfH51.2.1 1871 (by decide) (by decide)) 0).trans hooH40
                have hRZH51 : RG H H51 n (m + 1) g33 0 := RG_fr rg52 hfH51 (by decide) (by decide) (fun x hx => ⟨hkH51 x hx, sH_fr hfH51 (by decide) x⟩) (fun q9 => absurd q9 (by decide))
                refine h_run 0 (pc' := 149) (l' := [(0, .inr (.inr 1826)), (1, .inl (v : Int)), (2, .inl (o : Int)), (3, .inl (H.1 1826 89)), (4, .inl (b : Int)), (5, .inl (c : Int)), (6, .inl (H1.1 1826 89)), (7, .inl (g33 : Int))]) (st' := [.inl 0]) rfl ?_
                refine h_zeq (off := 7) (t := 156) rfl rfl (by decide) (fun _ => ?_) (fun c => absurd c (by decide))
                refine h_run 4 (pc' := 163) (l' := [(0, .inr (.inr 1826)), (1, .inl (v : Int)), (2, .inl (o : Int)), (3, .inl (H.1 1826 89)), (4, .inl 0), (5, .inl (c : Int)), (6, .inl (H1.1 1826 89)), (7, .inl (g33 : Int)), (8, .inl (H1.1 1826 89))]) (st' := []) rfl ?_
                have g56 : -2147483648 ≤ (H51.1 1826 89) ∧ (H51.1 1826 89) ≤ 2147483647 := hrg54.1 1826 13 89 _ .int rfl rfl
                have e57 : (H51.1 1826 89) = (H40.1 1826 89) := hfH51.2.2 89 (by decide)
                rw [show (H1.1 1826 89) = ((((H1.1 1826 89)).toNat : Nat) : Int) by omega]
                exact ih.2 _ 0 c ((H1.1 1826 89)).toNat g33 ((H1.1 1826 89)).toNat (m + 1) hf55 (by omega) (by omega) (by omega) hRZH51 hooH51 (by omega : 0 ≤ (H51.1 1826 89) ∧ (H51.1 1826 89) ≤ 60) (by omega) (by omega : 100000 - 1000 * c - 10 * ((H1.1 1826 89)).toNat - 10 < w)
              · refine h_rng (fun hrg58 => ?_)
                have hf59 : fr [53, 76, 77, 89, 93, 95, 99, 101] [1847, 1856, 1871, 1872, 1873, 1874, 1875, 1876, 1877, 1878, 1879, 1880, 1881, 1882, 1883, 1884, 1885, 1887, 1888] H H51 := fr_t hf50 hfH51 (by decide) (by decide)
                have hooH51 : (H51.1 1871) 0 = (o : Int) := (congrFun (hfH51.2.1 1871 (by decide) (by decide)) 0).trans hooH40
                have hRGH51 : RG H H51 n (m + 1) g33 1 := RG_fr rg52 hfH51 (by decide) (by decide) (fun x hx => ⟨hkH51 x hx, sH_fr hfH51 (by decide) x⟩) (fun _ => ⟨hxH51, hys_s (rg52.2.2.2.2 rfl).2 (sH_fr hfH51 (by decide) g33)⟩)
                refine h_run 0 (pc' := 149) (l' := [(0, .inr (.inr 1826)), (1, .inl (v : Int)), (2, .inl (o : Int)), (3, .inl (H.1 1826 89)), (4, .inl (b : Int)), (5, .inl (c : Int)), (6, .inl (H1.1 1826 89)), (7, .inl (g33 : Int))]) (st' := [.inl 1]) rfl ?_
                refine h_zeq (off := 7) (t := 156) rfl rfl (by decide) (fun c => absurd c (by decide)) (fun _ => ?_)
                refine h_run 5 (pc' := 163) (l' := [(0, .inr (.inr 1826)), (1, .inl (v : Int)), (2, .inl (o : Int)), (3, .inl (H.1 1826 89)), (4, .inl 1), (5, .inl (c : Int)), (6, .inl (H1.1 1826 89)), (7, .inl (g33 : Int)), (8, .inl (H1.1 1826 89))]) (st' := []) rfl ?_
                have g60 : -2147483648 ≤ (H51.1 1826 89) ∧ (H51.1 1826 89) ≤ 2147483647 := hrg58.1 1826 13 89 _ .int rfl rfl
                have e61 : (H51.1 1826 89) = (H40.1 1826 89) := hfH51.2.2 89 (by decide)
                rw [show (H1.1 1826 89) = ((((H1.1 1826 89)).toNat : Nat) : Int) by omega]
                exact ih.2 _ 1 c ((H1.1 1826 89)).toNat g33 ((H1.1 1826 89)).toNat (m + 1) hf59 (by omega) (by omega) (by omega) hRGH51 hooH51 (by omega : 0 ≤ (H51.1 1826 89) ∧ (H51.1 1826 89) ≤ 60) (by omega) (by omega : 100000 - 1000 * c - 10 * ((H1.1 1826 89)).toNat - 10 < w)
    · intro H1 b c fi g k m hf hb hc hm hR hoo hvv1 hk hw
      refine h_rng (fun hrg62 => ?_)
      have hQ1 : sP H H1 := sP_fr (sP_rf H) hf (by decide) (by decide)
      have hP1 : PWc H1 := PWc_fr hP hf (by decide) (by decide)
      obtain ⟨⟨pb1, pb2, pb3, pb4, pb5⟩, pw1, pw2, pw3, pw4⟩ := (id hP : PW H (H.1 1826 1) (H.1 1826 3) (H.1 1826 8) (H.1 1826 13) (H.1 1826 19))
      obtain ⟨ol, ou, og⟩ := RS_o hO ho1
      have hgl := RG_lt hR
      have hRGH1 : b = 1 → RG H H1 n m g 1 := fun q9 => by have h9 := hR; rw [q9] at h9; exact h9
      have hooH1 := hoo
      refine h_run 3 (pc' := 169) (l' := [(0, .inr (.inr 1826)), (1, .inl (v : Int)), (2, .inl (o : Int)), (3, .inl (H.1 1826 89)), (4, .inl (b : Int)), (5, .inl (c : Int)), (6, .inl (fi : Int)), (7, .inl (g : Int)), (8, .inl (k : Int))]) (st' := [.inl (H1.1 1826 89), .inl (k : Int)]) rfl ?_
      have g63 : -2147483648 ≤ (H1.1 1826 89) ∧ (H1.1 1826 89) ≤ 2147483647 := hrg62.1 1826 13 89 _ .int rfl rfl
      refine h_ige (off := 64) (t := 233) rfl rfl (by omega) (by omega) (fun c64 => ?_) (fun c64 => ?_)
      · refine h_run 2 (pc' := 72) (l' := [(0, .inr (.inr 1826)), (1, .inl (v : Int)), (2, .inl (o : Int)), (3, .inl (H.1 1826 89)), (4, .inl (b : Int)), (5, .inl ((c : Int) + 1)), (6, .inl (fi : Int)), (7, .inl (g : Int)), (8, .inl (k : Int))]) (st' := []) rfl ?_
        refine h_loc [0, 1, 2, 3, 4, 5] rfl ?_
        rw [show ((c : Int) + 1) = (((c + 1) : Nat) : Int) by omega]
        exact ih.1 _ b (c + 1) (m) hf (by omega) (by omega) (by omega) (RG_RW hR) hoo (by omega : 0 ≤ (H1.1 1826 89) ∧ (H1.1 1826 89) ≤ 60) (by omega : 100000 - 1000 * (c + 1) < w)
      · refine h_run 1 (pc' := 174) (l' := [(0, .inr (.inr 1826)), (1, .inl (v : Int)), (2, .inl (o : Int)), (3, .inl (H.1 1826 89)), (4, .inl (b : Int)), (5, .inl (c : Int)), (6, .inl (fi : Int)), (7, .inl (g : Int)), (8, .inl (k : Int))]) (st' := [.inl (b : Int)]) rfl ?_
        refine h_zeq (off := 59) (t := 233) rfl rfl (by omega) (fun c65 => ?_) (fun c65 => ?_)
        · refine h_run 2 (pc' := 72) (l' := [(0, .inr (.inr 1826)), (1, .inl (v : Int)), (2, .inl (o : Int)), (3, .inl (H.1 1826 89)), (4, .inl (b : Int)), (5, .inl ((c : Int) + 1)), (6, .inl (fi : Int)), (7, .inl (g : Int)), (8, .inl (k : Int))]) (st' := []) rfl ?_
          refine h_loc [0, 1, 2, 3, 4, 5] rfl ?_
          rw [show ((c : Int) + 1) = (((c + 1) : Nat) : Int) by omega]
          exact ih.1 _ b (c + 1) (m) hf (by omega) (by omega) (by omega) (RG_RW hR) hoo (by omega : 0 ≤ (H1.1 1826 89) ∧ (H1.1 1826 89) ≤ 60) (by omega : 100000 - 1000 * (c + 1) < w)
        · replace hRGH1 := hRGH1 (by omega)
          refine h_run 4 (pc' := 184) (l' := [(0, .inr (.inr 1826)), (1, .inl (v : Int)), (2, .inl (o : Int)), (3, .inl (H.1 1826 89)), (4, .inl (b : Int)), (5, .inl (c : Int)), (6, .inl (fi : Int)), (7, .inl (g : Int)), (8, .inl (k : Int))]) (st' := [.inl (g : Int), .inr (.inr 1876), .inl (g : Int), .inr (.inr 1876)]) rfl ?_
          refine h_lld (c := 1876) (j := g) (i := (g : Int)) rfl rfl (by decide) rfl (by omega) ?_
          have g66 : -9223372036854775808 ≤ (H1.1 1876 g) ∧ (H1.1 1876 g) ≤ 9223372036854775807 := hrg62.2 1876 g 40 .long rfl (by omega)
          refine h_run 0 (pc' := 185) (l' := [(0, .inr (.inr 1826)), (1, .inl (v : Int)), (2, .inl (o : Int)), (3, .inl (H.1 1826 89)), (4, .inl (b : Int)), (5, .inl (c : Int)), (6, .inl (fi : Int)), (7, .inl (g : Int)), (8, .inl (k : Int))]) (st' := [.inr (.inl (H1.1 1876 g)), .inl (g : Int), .inr (.inr 1876)]) rfl ?_
          refine h_run 4 (pc' := 190) (l' := [(0, .inr (.inr 1826)), (1, .inl (v : Int)), (2, .inl (o : Int)), (3, .inl (H.1 1826 89)), (4, .inl (b : Int)), (5, .inl (c : Int)), (6, .inl (fi : Int)), (7, .inl (g : Int)), (8, .inl (k : Int))]) (st' := [.inr (.inl (z_lor (H1.1 1876 g) (z_lshl 1 (k : Int)))), .inl (g : Int), .inr (.inr 1876)]) rfl ?_
          refine h_lst (c := 1876) (j := g) (i := (g : Int)) (x := (z_lor (H1.1 1876 g) (z_lshl 1 (k : Int)))) rfl rfl (by decide) (by decide) rfl (by omega) (z_long _) ?_
          refine h_run 3 (pc' := 197) (l' := [(0, .inr (.inr 1826)), (1, .inl (v : Int)), (2, .inl (o : Int)), (3, .inl (H.1 1826 89)), (4, .inl (b : Int)), (5, .inl (c : Int)), (6, .inl (fi : Int)), (7, .inl (g : Int)), (8, .inl (k : Int))]) (st' := [.inl (k : Int), .inr (.inr 1882)]) rfl ?_
          refine h_ild (c := 1882) (j := k) (i := (k : Int)) rfl rfl (by decide) rfl (by omega) ?_
          have g67 : -2147483648 ≤ (H1.1 1882 k) ∧ (H1.1 1882 k) ≤ 2147483647 := hrg62.2 1882 k 60 .int rfl (by omega)
          refine h_run 0 (pc' := 198) (l' := [(0, .inr (.inr 1826)), (1, .inl (v : Int)), (2, .inl (o : Int)), (3, .inl (H.1 1826 89)), (4, .inl (b : Int)), (5, .inl (c : Int)), (6, .inl (fi : Int)), (7, .inl (g : Int)), (8, .inl (k : Int))]) (st' := [.inl (H1.1 1882 k)]) rfl ?_
          refine h_run 3 (pc' := 203) (l' := [(0, .inr (.inr 1826)), (1, .inl (v : Int)), (2, .inl (o : Int)), (3, .inl (H.1 1826 89)), (4, .inl (b : Int)), (5, .inl (c : Int)), (6, .inl (fi : Int)), (7, .inl (g : Int)), (8, .inl (k : Int))]) (st' := [.inl (v : Int), .inr (.inr 1882), .inl (H1.1 1882 k)]) rfl ?_
          refine h_ild (c := 1882) (j := v) (i := (v : Int)) rfl rfl (by decide) rfl (by omega) ?_
          have g68 : -2147483648 ≤ (H1.1 1882 v) ∧ (H1.1 1882 v) ≤ 2147483647 := hrg62.2 1882 v 60 .int rfl (by omega)
          refine h_run 0 (pc' := 204) (l' := [(0, .inr (.inr 1826)), (1, .inl (v : Int)), (2, .inl (o : Int)), (3, .inl (H.1 1826 89)), (4, .inl (b : Int)), (5, .inl (c : Int)), (6, .inl (fi : Int)), (7, .inl (g : Int)), (8, .inl (k : Int))]) (st' := [.inl (H1.1 1882 v), .inl (H1.1 1882 k)]) rfl ?_
          refine h_ine (off := 16) (t := 220) rfl rfl (by omega) (by omega) (fun c69 => ?_) (fun c69 => ?_)
          · refine h_run 5 (pc' := 163) (l' := [(0, .inr (.inr 1826)), (1, .inl (v : Int)), (2, .inl (o : Int)), (3, .inl (H.1 1826 89)), (4, .inl 1), (5, .inl (c : Int)), (6, .inl (fi : Int)), (7, .inl (g : Int)), (8, .inl ((k : Int) + 1))]) (st' := []) rfl ?_
            rw [show ((k : Int) + 1) = (((k + 1) : Nat) : Int) by omega]
            exact ih.2 _ 1 c fi g (k + 1) (m) (fr_a hf (by decide)) (by omega) (by omega) (by omega) (RG_b (RG_fr0 hR (show fr [] [1876] H1 (zu H1 1876 (up (H1.1 1876) g (z_lor (H1.1 1876 g) (z_lshl 1 (k : Int))))) from (fr_a (fr_rf _ _ _) (by decide))) (by decide) (by decide) (by decide)) _ (fun _ => (RG_fr0 hR (show fr [] [1876] H1 (zu H1 1876 (up (H1.1 1876) g (z_lor (H1.1 1876 g) (z_lshl 1 (k : Int))))) from (fr_a (fr_rf _ _ _) (by decide))) (by decide) (by decide) (by decide)).2.2.2.2 (by omega))) hoo (by omega : 0 ≤ (H1.1 1826 89) ∧ (H1.1 1826 89) ≤ 60) (by omega) (by omega : 100000 - 1000 * c - 10 * (k + 1) - 10 < w)
          · refine h_run 5 (pc' := 214) (l' := [(0, .inr (.inr 1826)), (1, .inl (v : Int)), (2, .inl (o : Int)), (3, .inl (H.1 1826 89)), (4, .inl (b : Int)), (5, .inl (c : Int)), (6, .inl (fi : Int)), (7, .inl (g : Int)), (8, .inl (k : Int))]) (st' := [.inl (k : Int), .inl (v : Int), .inl (o : Int), .inl (g : Int), .inr (.inr 1826)]) rfl ?_
            have rg71 : RG H (zu H1 1876 (up (H1.1 1876) g (z_lor (H1.1 1876 g) (z_lshl 1 (k : Int))))) n m g 1 := RG_fr0 hRGH1 (show fr [] [1876] H1 (zu H1 1876 (up (H1.1 1876) g (z_lor (H1.1 1876 g) (z_lshl 1 (k : Int))))) from (fr_a (fr_rf _ _ _) (by decide))) (by decide) (by decide) (by decide)
            obtain ⟨o1rg71, o2rg71, o3rg71⟩ := RS_o rg71.1 (show (H1.1 1871) 0 = (o : Int) from hooH1)
            obtain ⟨ny72, ny721, ny722, ny723⟩ := (rg71.2.2.2.2 rfl).2
            have hQH70 : sP H (zu H1 1876 (up (H1.1 1876) g (z_lor (H1.1 1876 g) (z_lshl 1 (k : Int))))) := sP_fr (sP_rf H) (fr_a hf (by decide)) (by decide) (by decide)
            refine h_cv (i := 627) (j := 254) (b := 1826) (M' := mt_254) (xs := [.inl (k : Int), .inl (v : Int), .inl (o : Int), .inl (g : Int)]) (rest := []) rfl rfl rfl rfl rfl rfl (Nat.le_of_ble_eq_true rfl) (Nat.le_of_ble_eq_true rfl) (by omega) (m_isSupposed (P := H) (by omega) hQH70 ⟨RG_lt rg71, o1rg71, by omega, by omega⟩ (by omega) o3rg71.1 ⟨ny721, ny722⟩ ny723) ?_
            rintro _ H70 ⟨hfH70, hkH70, hyH70, (rfl | rfl)⟩
            · refine h_rng (fun hrg73 => ?_)
              have hf74 : fr [53, 76, 77, 89, 93, 95, 99, 101] [1847, 1856, 1871, 1872, 1873, 1874, 1875, 1876, 1877, 1878, 1879, 1880, 1881, 1882, 1883, 1884, 1885, 1887, 1888] H H70 := fr_t (fr_a hf (by decide)) hfH70 (by decide) (by decide)
              have hooH70 : (H70.1 1871) 0 = (o : Int) := (congrFun (hfH70.2.1 1871 (by decide) (by decide)) 0).trans hooH1
              have hRGH70 : RG H H70 n m g 1 := RG_fr rg71 hfH70 (by decide) (by decide) (fun x hx => ⟨sS_fr hfH70 (by decide) x, hkH70 x hx⟩) (fun _ => ⟨(fun s hs => sOK_s ((rg71.2.2.2.2 rfl).1 s hs) hs (sS_fr hfH70 (by decide) g)), hyH70⟩)
              have hRZH70 : RG H H70 n m g 0 := RG_b hRGH70 _ (fun q9 => absurd q9 (by decide))
              refine h_run 0 (pc' := 217) (l' := [(0, .inr (.inr 1826)), (1, .inl (v : Int)), (2, .inl (o : Int)), (3, .inl (H.1 1826 89)), (4, .inl (b : Int)), (5, .inl (c : Int)), (6, .inl (fi : Int)), (7, .inl (g : Int)), (8, .inl (k : Int))]) (st' := [.inl 0]) rfl ?_
              refine h_zeq (off := 7) (t := 224) rfl rfl (by decide) (fun _ => ?_) (fun c => absurd c (by decide))
              refine h_run 4 (pc' := 163) (l' := [(0, .inr (.inr 1826)), (1, .inl (v : Int)), (2, .inl (o : Int)), (3, .inl (H.1 1826 89)), (4, .inl 0), (5, .inl (c : Int)), (6, .inl (fi : Int)), (7, .inl (g : Int)), (8, .inl ((k : Int) + 1))]) (st' := []) rfl ?_
              have g75 : -2147483648 ≤ (H70.1 1826 89) ∧ (H70.1 1826 89) ≤ 2147483647 := hrg73.1 1826 13 89 _ .int rfl rfl
              have e76 : (H70.1 1826 89) = (H1.1 1826 89) := hfH70.2.2 89 (by decide)
              rw [show ((k : Int) + 1) = (((k + 1) : Nat) : Int) by omega]
              exact ih.2 _ 0 c fi g (k + 1) (m) hf74 (by omega) (by omega) (by omega) hRZH70 hooH70 (by omega : 0 ≤ (H70.1 1826 89) ∧ (H70.1 1826 89) ≤ 60) (by omega) (by omega : 100000 - 1000 * c - 10 * (k + 1) - 10 < w)
            · refine h_rng (fun hrg77 => ?_)
              have hf78 : fr [53, 76, 77, 89, 93, 95, 99, 101] [1847, 1856, 1871, 1872, 1873, 1874, 1875, 1876, 1877, 1878, 1879, 1880, 1881, 1882, 1883, 1884, 1885, 1887, 1888] H H70 := fr_t (fr_a hf (by decide)) hfH70 (by decide) (by decide)
              have hooH70 : (H70.1 1871) 0 = (o : Int) := (congrFun (hfH70.2.1 1871 (by decide) (by decide)) 0).trans hooH1
              have hRGH70 : RG H H70 n m g 1 := RG_fr rg71 hfH70 (by decide) (by decide) (fun x hx => ⟨sS_fr hfH70 (by decide) x, hkH70 x hx⟩) (fun _ => ⟨(fun s hs => sOK_s ((rg71.2.2.2.2 rfl).1 s hs) hs (sS_fr hfH70 (by decide) g)), hyH70⟩)
              have hRZH70 : RG H H70 n m g 0 := RG_b hRGH70 _ (fun q9 => absurd q9 (by decide))
              refine h_run 0 (pc' := 217) (l' := [(0, .inr (.inr 1826)), (1, .inl (v : Int)), (2, .inl (o : Int)), (3, .inl (H.1 1826 89)), (4, .inl (b : Int)), (5, .inl (c : Int)), (6, .inl (fi : Int)), (7, .inl (g : Int)), (8, .inl (k : Int))]) (st' := [.inl 1]) rfl ?_
              refine h_zeq (off := 7) (t := 224) rfl rfl (by decide) (fun c => absurd c (by decide)) (fun _ => ?_)
              refine h_run 5 (pc' := 163) (l' := [(0, .inr (.inr 1826)), (1, .inl (v : Int)), (2, .inl (o : Int)), (3, .inl (H.1 1826 89)), (4, .inl 1), (5, .inl (c : Int)), (6, .inl (fi : Int)), (7, .inl (g : Int)), (8, .inl ((k : Int) + 1))]) (st' := []) rfl ?_
              have g79 : -2147483648 ≤ (H70.1 1826 89) ∧ (H70.1 1826 89) ≤ 2147483647 := hrg77.1 1826 13 89 _ .int rfl rfl
              have e80 : (H70.1 1826 89) = (H1.1 1826 89) := hfH70.2.2 89 (by decide)
              rw [show ((k : Int) + 1) = (((k + 1) : Nat) : Int) by omega]
              exact ih.2 _ 1 c fi g (k + 1) (m) hf78 (by omega) (by omega) (by omega) hRGH70 hooH70 (by omega : 0 ≤ (H70.1 1826 89) ∧ (H70.1 1826 89) ≤ 60) (by omega) (by omega : 100000 - 1000 * c - 10 * (k + 1) - 10 < w)
set_option maxRecDepth 100000 in
theorem m_inducted {zC : Nat → Option zsh} {d : Nat} (hd : 4 ≤ d) {H : hp} {n o v : Nat} (hP : PWc H) (hO : OS H H n) (hvv : 0 ≤ (H.1 1826 89) ∧ (H.1 1826 89) ≤ 60) (hpr : 0 ≤ (H.1 1826 74) ∧ (H.1 1826 74) < 16) (ho1 : (H.1 1871) 0 = (o : Int)) (hv : v < 60) : hG (zs zC) d mt_253 0 (zargs 0 [.inr (.inr 1826), .inl (v : Int)]) [] H (fun r9 H2 => fr [53, 76, 77, 89, 93, 95, 99, 101] [1847, 1856, 1871, 1872, 1873, 1874, 1875, 1876, 1877, 1878, 1879, 1880, 1881, 1882, 1883, 1884, 1885, 1887, 1888] H H2 ∧ (0 ≤ (H2.1 1871) 0 ∧ (H2.1 1871) 0 < 40) ∧ (0 ≤ (H2.1 1826 89) ∧ (H2.1 1826 89) ≤ 60) ∧ ((r9 = some (.inl (-105)) ∧ OS H H2 n) ∨ ∃ n2 : Nat, r9 = some (.inl (n2 : Int)) ∧ (H2.1 1826 77) = (n2 : Int) ∧ (n2 = 0 ∨ OS H H2 n2))) := by
  refine h_rng (fun hrg0 => ?_)
  refine h_run 0 (pc' := 0) (l' := [(0, .inr (.inr 1826)), (1, .inl (v : Int))]) (st' := []) rfl ?_
  obtain ⟨⟨pb1, pb2, pb3, pb4, pb5⟩, pw1, pw2, pw3, pw4⟩ := (id hP : PW H (H.1 1826 1) (H.1 1826 3) (H.1 1826 8) (H.1 1826 13) (H.1 1826 19))
  obtain ⟨ol, ou, og⟩ := RS_o hO ho1
  refine h_run 3 (pc' := 5) (l' := [(0, .inr (.inr 1826)), (1, .inl (v : Int))]) (st' := [.inl 0, .inr (.inr 1871)]) rfl ?_
  refine h_ild (c := 1871) (j := 0) (i := 0) rfl rfl (by decide) rfl (by omega) ?_
  have g81 : -2147483648 ≤ (H.1 1871 0) ∧ (H.1 1871 0) ≤ 2147483647 := hrg0.2 1871 0 13 .int rfl (by omega)
  refine h_run 0 (pc' := 6) (l' := [(0, .inr (.inr 1826)), (1, .inl (v : Int))]) (st' := [.inl (H.1 1871 0)]) rfl ?_
  rw [show (H.1 1871 0) = (o : Int) by omega]
  refine h_run 3 (pc' := 11) (l' := [(0, .inr (.inr 1826)), (1, .inl (v : Int)), (2, .inl (o : Int))]) (st' := [.inl (H.1 1826 89)]) rfl ?_
  have g82 : -2147483648 ≤ (H.1 1826 89) ∧ (H.1 1826 89) ≤ 2147483647 := hrg0.1 1826 13 89 _ .int rfl rfl
  refine h_run 3 (pc' := 14) (l' := [(0, .inr (.inr 1826)), (1, .inl (v : Int)), (2, .inl (o : Int)), (3, .inl (H.1 1826 89))]) (st' := [.inl 0, .inr (.inr 1826)]) rfl ?_
  refine h_puti (i := 553) (ci := 13) (k := 95) (a := 1826) (x := 0) rfl rfl rfl rfl rfl rfl (by decide) (by decide) ?_
  refine h_run 5 (pc' := 25) (l' := [(0, .inr (.inr 1826)), (1, .inl (v : Int)), (2, .inl (o : Int)), (3, .inl (H.1 1826 89)), (4, .inl 1)]) (st' := [.inl (v : Int), .inr (.inr 1883)]) rfl ?_
  refine h_bld (c := 1883) (j := v) (i := (v : Int)) (Or.inr rfl) rfl rfl (by decide) rfl (by omega) ?_
  have g83 : 0 ≤ (H.1 1883 v) ∧ (H.1 1883 v) ≤ 1 := hrg0.2 1883 v 60 .boolean rfl (by omega)
  refine h_run 0 (pc' := 26) (l' := [(0, .inr (.inr 1826)), (1, .inl (v : Int)), (2, .inl (o : Int)), (3, .inl (H.1 1826 89)), (4, .inl 1)]) (st' := [.inl (H.1 1883 v)]) rfl ?_
  refine h_zne (off := 43) (t := 69) rfl rfl (by omega) (fun c84 => ?_) (fun c84 => ?_)
  · refine h_run 2 (pc' := 72) (l' := [(0, .inr (.inr 1826)), (1, .inl (v : Int)), (2, .inl (o : Int)), (3, .inl (H.1 1826 89)), (4, .inl 1), (5, .inl 0)]) (st' := []) rfl ?_
    exact (m_inducted_cut hd hP hO hvv hpr ho1 hv _).1 _ 1 0 (0) (fr_o (fr_rf _ _ _) (by decide)) (by omega) (by omega) (by omega) (RW_begin hO (show fr [95] [] H (zu H 1826 (up (H.1 1826) 95 0)) from (fr_o (fr_rf _ _ _) (by decide))) (by decide) (by decide) (by decide) rfl _) ho1 (by omega : 0 ≤ (H.1 1826 89) ∧ (H.1 1826 89) ≤ 60) (Nat.lt_succ_self _)
  · refine h_run 4 (pc' := 35) (l' := [(0, .inr (.inr 1826)), (1, .inl (v : Int)), (2, .inl (o : Int)), (3, .inl (H.1 1826 89)), (4, .inl 1)]) (st' := [.inl 0, .inl 0, .inr (.inr 1887)]) rfl ?_
    refine h_ist (c := 1887) (j := 0) (i := 0) (x := 0) rfl rfl (by decide) (by decide) rfl (by omega) (by decide) ?_
    refine h_run 2 (pc' := 38) (l' := [(0, .inr (.inr 1826)), (1, .inl (v : Int)), (2, .inl (o : Int)), (3, .inl (H.1 1826 89)), (4, .inl 1)]) (st' := [.inl 1, .inr (.inr 1826)]) rfl ?_
    refine h_puti (i := 604) (ci := 13) (k := 99) (a := 1826) (x := 1) rfl rfl rfl rfl rfl rfl (by decide) (by decide) ?_
    refine h_run 2 (pc' := 43) (l' := [(0, .inr (.inr 1826)), (1, .inl (v : Int)), (2, .inl (o : Int)), (3, .inl (H.1 1826 89)), (4, .inl 1)]) (st' := [.inl (o : Int), .inr (.inr 1826)]) rfl ?_
    have hWg86 : RW H (zu (zu (zu H 1826 (up (H.1 1826) 95 0)) 1887 (up ((zu H 1826 (up (H.1 1826) 95 0)).1 1887) 0 0)) 1826 (up ((zu (zu H 1826 (up (H.1 1826) 95 0)) 1887 (up ((zu H 1826 (up (H.1 1826) 95 0)).1 1887) 0 0)).1 1826) 99 1)) n 0 1 := (RW_begin hO (show fr [95, 99] [1887] H (zu (zu (zu H 1826 (up (H.1 1826) 95 0)) 1887 (up ((zu H 1826 (up (H.1 1826) 95 0)).1 1887) 0 0)) 1826 (up ((zu (zu H 1826 (up (H.1 1826) 95 0)) 1887 (up ((zu H 1826 (up (H.1 1826) 95 0)).1 1887) 0 0)).1 1826) 99 1)) from (fr_o (fr_a (fr_o (fr_rf _ _ _) (by decide)) (by decide)) (by decide))) (by decide) (by decide) (by decide) rfl 1)
    obtain ⟨zg86, hzg86⟩ := RS_free hWg86.1
    obtain ⟨o1g86, o2g86, o3g86⟩ := RS_o hWg86.1 (show (H.1 1871) 0 = (o : Int) from ho1)
    refine h_cv (i := 616) (j := 233) (b := 1826) (M' := mt_233) (xs := [.inl (o : Int)]) (rest := []) rfl rfl rfl rfl rfl rfl (Nat.le_of_ble_eq_true rfl) (Nat.le_of_ble_eq_true rfl) (by omega) (m_newGoal (P := H) (m := 0) (by omega) hzg86 ⟨o1g86, o2g86⟩ o3g86 ⟨hWg86.2.1, by omega⟩) ?_
    rintro _ H85 ⟨g86, rfl, lg86, ug86, hfH85, e3g86, e5g86, e6g86, kg86, e4g86⟩
    refine h_rng (fun hrg87 => ?_)
    have hf88 : fr [53, 76, 77, 89, 93, 95, 99, 101] [1847, 1856, 1871, 1872, 1873, 1874, 1875, 1876, 1877, 1878, 1879, 1880, 1881, 1882, 1883, 1884, 1885, 1887, 1888] H H85 := fr_t (fr_o (fr_a (fr_o (fr_rf _ _ _) (by decide)) (by decide)) (by decide)) hfH85 (by decide) (by decide)
    have hRGH85 : RG H H85 n (0 + 1) g86 1 := RW_new hWg86 rfl (by omega) lg86 ug86 hfH85 (by decide) (by decide) e3g86 e5g86 e6g86 kg86 e4g86
    have hooH85 : (H85.1 1871) 0 = (o : Int) := (congrFun (hfH85.2.1 1871 (by decide) (by decide)) 0).trans ho1
    refine h_run 0 (pc' := 46) (l' := [(0, .inr (.inr 1826)), (1, .inl (v : Int)), (2, .inl (o : Int)), (3, .inl (H.1 1826 89)), (4, .inl 1)]) (st' := [.inl (g86 : Int)]) rfl ?_
    refine h_run 5 (pc' := 55) (l' := [(0, .inr (.inr 1826)), (1, .inl (v : Int)), (2, .inl (o : Int)), (3, .inl (H.1 1826 89)), (4, .inl 1), (5, .inl (g86 : Int))]) (st' := [.inl (g86 : Int), .inr (.inr 1877), .inl (g86 : Int), .inr (.inr 1877)]) rfl ?_
    refine h_ild (c := 1877) (j := g86) (i := (g86 : Int)) rfl rfl (by decide) rfl (by omega) ?_
    have g89 : -2147483648 ≤ (H85.1 1877 g86) ∧ (H85.1 1877 g86) ≤ 2147483647 := hrg87.2 1877 g86 40 .int rfl (by omega)
    refine h_run 0 (pc' := 56) (l' := [(0, .inr (.inr 1826)), (1, .inl (v : Int)), (2, .inl (o : Int)), (3, .inl (H.1 1826 89)), (4, .inl 1), (5, .inl (g86 : Int))]) (st' := [.inl (H85.1 1877 g86), .inl (g86 : Int), .inr (.inr 1877)]) rfl ?_
    refine h_run 2 (pc' := 58) (l' := [(0, .inr (.inr 1826)), (1, .inl (v : Int)), (2, .inl (o : Int)), (3, .inl (H.1 1826 89)), (4, .inl 1), (5, .inl (g86 : Int))]) (st' := [.inl ((H85.1 1877 g86) + 1), .inl (g86 : Int), .inr (.inr 1877)]) rfl ?_
    refine h_nrm (fun y90 hy90 => ?_)
    refine h_run 0 (pc' := 58) (l' := [(0, .inr (.inr 1826)), (1, .inl (v : Int)), (2, .inl (o : Int)), (3, .inl (H.1 1826 89)), (4, .inl 1), (5, .inl (g86 : Int))]) (st' := [.inl y90, .inl (g86 : Int), .inr (.inr 1877)]) rfl ?_
    refine h_ist (c := 1877) (j := g86) (i := (g86 : Int)) (x := y90) rfl rfl (by decide) (by decide) rfl (by omega) (by omega) ?_
    refine h_run 4 (pc' := 64) (l' := [(0, .inr (.inr 1826)), (1, .inl (v : Int)), (2, .inl (o : Int)), (3, .inl (H.1 1826 89)), (4, .inl 1), (5, .inl (g86 : Int))]) (st' := [.inl (v : Int), .inl (o : Int), .inl (g86 : Int), .inr (.inr 1826)]) rfl ?_
    have g93 : -2147483648 ≤ (H85.1 1826 99) ∧ (H85.1 1826 99) ≤ 2147483647 := hrg87.1 1826 13 99 _ .int rfl rfl
    have e94 : (H85.1 1826 99) = 1 := hfH85.2.2 99 (by decide)
    have rg92 : RG H (zu H85 1877 (up (H85.1 1877) g86 y90)) n (0 + 1) g86 1 := RG_fr0 hRGH85 (show fr [] [1877] H85 (zu H85 1877 (up (H85.1 1877) g86 y90)) from (fr_a (fr_rf _ _ _) (by decide))) (by decide) (by decide) (by decide)
    obtain ⟨o1rg92, o2rg92, o3rg92⟩ := RS_o rg92.1 (show (H85.1 1871) 0 = (o : Int) from hooH85)
    have hQH91 : sP H (zu H85 1877 (up (H85.1 1877) g86 y90)) := sP_fr (sP_rf H) (fr_a hf88 (by decide)) (by decide) (by decide)
    refine h_cv (i := 619) (j := 250) (b := 1826) (M' := mt_250) (xs := [.inl (v : Int), .inl (o : Int), .inl (g86 : Int)]) (rest := []) rfl rfl rfl rfl rfl rfl (Nat.le_of_ble_eq_true rfl) (Nat.le_of_ble_eq_true rfl) (by omega) (m_isPut (P := H) (sn := 1) (by omega) hQH91 ⟨RG_lt rg92, o1rg92, RG_ne rg92 (show (H85.1 1871) 0 = (o : Int) from hooH85), by omega⟩ o3rg92.1 (show (H85.1 1826 99) = ((1 : Nat) : Int) ∧ 1 ≤ 4 by omega) (tm_one (show (H85.1 1887) 0 = 0 by rw [show (H85.1 1887) = up (H.1 1887) 0 0 from hfH85.2.1 1887 (by decide) (by decide), up_eq]))) ?_
    rintro _ H91 ⟨hfH91, hkH91, (rfl | ⟨rfl, hxH91⟩)⟩
    · refine h_rng (fun hrg95 => ?_)
      have hf96 : fr [53, 76, 77, 89, 93, 95, 99, 101] [1847, 1856, 1871, 1872, 1873, 1874, 1875, 1876, 1877, 1878, 1879, 1880, 1881, 1882, 1883, 1884, 1885, 1887, 1888] H H91 := fr_t (fr_a hf88 (by decide)) hfH91 (by decide) (by decide)
      have hooH91 : (H91.1 1871) 0 = (o : Int) := (congrFun (hfH91.2.1 1871 (by decide) (by decide)) 0).trans hooH85
      have hRZH91 : RG H H91 n (0 + 1) g86 0 := RG_fr rg92 hfH91 (by decide) (by decide) (fun x hx => ⟨hkH91 x hx, sH_fr hfH91 (by decide) x⟩) (fun q9 => absurd q9 (by decide))
      refine h_run 0 (pc' := 67) (l' := [(0, .inr (.inr 1826)), (1, .inl (v : Int)), (2, .inl (o : Int)), (3, .inl (H.1 1826 89)), (4, .inl 1), (5, .inl (g86 : Int))]) (st' := [.inl 0]) rfl ?_
      refine h_run 3 (pc' := 72) (l' := [(0, .inr (.inr 1826)), (1, .inl (v : Int)), (2, .inl (o : Int)), (3, .inl (H.1 1826 89)), (4, .inl 0), (5, .inl 0)]) (st' := []) rfl ?_
      have g97 : -2147483648 ≤ (H91.1 1826 89) ∧ (H91.1 1826 89) ≤ 2147483647 := hrg95.1 1826 13 89 _ .int rfl rfl
      have e98 : (H91.1 1826 89) = (H85.1 1826 89) := hfH91.2.2 89 (by decide)
      have e99 : (H85.1 1826 89) = (H.1 1826 89) := hfH85.2.2 89 (by decide)
      exact (m_inducted_cut hd hP hO hvv hpr ho1 hv _).1 _ 0 0 (0 + 1) hf96 (by omega) (by omega) (by omega) (RG_RW hRZH91) hooH91 (by omega : 0 ≤ (H91.1 1826 89) ∧ (H91.1 1826 89) ≤ 60) (Nat.lt_succ_self _)
    · refine h_rng (fun hrg100 => ?_)
      have hf101 : fr [53, 76, 77, 89, 93, 95, 99, 101] [1847, 1856, 1871, 1872, 1873, 1874, 1875, 1876, 1877, 1878, 1879, 1880, 1881, 1882, 1883, 1884, 1885, 1887, 1888] H H91 := fr_t (fr_a hf88 (by decide)) hfH91 (by decide) (by decide)
      have hooH91 : (H91.1 1871) 0 = (o : Int) := (congrFun (hfH91.2.1 1871 (by decide) (by decide)) 0).trans hooH85
      have hRGH91 : RG H H91 n (0 + 1) g86 1 := RG_fr rg92 hfH91 (by decide) (by decide) (fun x hx => ⟨hkH91 x hx, sH_fr hfH91 (by decide) x⟩) (fun _ => ⟨hxH91, hys_s (rg92.2.2.2.2 rfl).2 (sH_fr hfH91 (by decide) g86)⟩)
      refine h_run 0 (pc' := 67) (l' := [(0, .inr (.inr 1826)), (1, .inl (v : Int)), (2, .inl (o : Int)), (3, .inl (H.1 1826 89)), (4, .inl 1), (5, .inl (g86 : Int))]) (st' := [.inl 1]) rfl ?_
      refine h_run 3 (pc' := 72) (l' := [(0, .inr (.inr 1826)), (1, .inl (v : Int)), (2, .inl (o : Int)), (3, .inl (H.1 1826 89)), (4, .inl 1), (5, .inl 0)]) (st' := []) rfl ?_
      have g102 : -2147483648 ≤ (H91.1 1826 89) ∧ (H91.1 1826 89) ≤ 2147483647 := hrg100.1 1826 13 89 _ .int rfl rfl
      have e103 : (H91.1 1826 89) = (H85.1 1826 89) := hfH91.2.2 89 (by decide)
      have e104 : (H85.1 1826 89) = (H.1 1826 89) := hfH85.2.2 89 (by decide)
      exact (m_inducted_cut hd hP hO hvv hpr ho1 hv _).1 _ 1 0 (0 + 1) hf101 (by omega) (by omega) (by omega) (RG_RW hRGH91) hooH91 (by omega : 0 ≤ (H91.1 1826 89) ∧ (H91.1 1826 89) ≤ 60) (Nat.lt_succ_self _)
