/-! the reference: the search -/
theorem mv_fr {H K : hp} {cb : Nat} (h2 : K.2 = H.2) (ho : ∀ x, x ≠ cb → K.1 x = H.1 x) (hc : cb ≠ 1826) : fr [] [cb] H K := ⟨h2, fun c _ hr => ho c (fun q => hr (by rw [q]; exact List.mem_singleton.mpr rfl)), fun j _ => congrFun (ho 1826 hc.symm) j⟩
/-- what was saved -/
def KS6 (H K : hp) : Prop := (∀ x, x < 5120 → (K.1 1889) x = (H.1 1873) x) ∧ (∀ x, x < 80 → (K.1 1890) x = (H.1 1874) x) ∧ (∀ x, x < 40 → (K.1 1894) x = (H.1 1879) x) ∧ (∀ x, x < 40960 → (K.1 1895) x = (H.1 1880) x) ∧ (∀ x, x < 640 → (K.1 1896) x = (H.1 1881) x) ∧ (∀ x, x < 13 → (K.1 1897) x = (H.1 1871) x)
def RS6 (H K : hp) : Prop := (∀ x, x < 5120 → (K.1 1873) x = (H.1 1889) x) ∧ (∀ x, x < 80 → (K.1 1874) x = (H.1 1890) x) ∧ (∀ x, x < 40 → (K.1 1879) x = (H.1 1894) x) ∧ (∀ x, x < 40960 → (K.1 1880) x = (H.1 1895) x) ∧ (∀ x, x < 640 → (K.1 1881) x = (H.1 1896) x) ∧ (∀ x, x < 13 → (K.1 1871) x = (H.1 1897) x)
def KK (H K : hp) : Prop := KS6 H K ∧ (∀ x, x < 40 → (K.1 1898) x = (H.1 1872) x) ∧ (K.1 1826 112) = (H.1 1826 77) ∧ (K.1 1826 113) = (H.1 1826 89)
def RR (H K : hp) : Prop := RS6 H K ∧ (∀ x, x < 40 → (K.1 1872) x = (H.1 1898) x) ∧ (K.1 1826 77) = (H.1 1826 112) ∧ (K.1 1826 89) = (H.1 1826 113)
theorem KK_fr {H K L : hp} {ob ar : List Nat} (h : KK H K) (f : fr ob ar K L) (h1 : ∀ c ∈ [1889, 1890, 1894, 1895, 1896, 1897, 1898], c ∉ ar) (h2 : 112 ∉ ob ∧ 113 ∉ ob) : KK H L := by
  unfold KK KS6 at *
  rw [f.2.1 1889 (by decide) (h1 _ (by decide)), f.2.1 1890 (by decide) (h1 _ (by decide)), f.2.1 1894 (by decide) (h1 _ (by decide)), f.2.1 1895 (by decide) (h1 _ (by decide)), f.2.1 1896 (by decide) (h1 _ (by decide)), f.2.1 1897 (by decide) (h1 _ (by decide)), f.2.1 1898 (by decide) (h1 _ (by decide)), f.2.2 112 h2.1, f.2.2 113 h2.2]
  exact h
theorem OS_pt {P H L : hp} {n : Nat} (h : OS P H n) (e1 : (L.1 1826 77) = (H.1 1826 77)) (e2 : ∀ k, k < 13 → (L.1 1871) k = (H.1 1871) k) (e3 : ∀ g, g < 40 → (L.1 1872) g = (H.1 1872) g) (e4 : ∀ x, x < 40 → sS H L x ∧ sH H L x) : OS P L n := by
  obtain ⟨h1, h2, h3, h4, h5, h6, h7⟩ := h
  refine ⟨by rw [e1]; exact h1, fun k hk => ?_, fun k hk => absurd hk (Nat.not_lt_zero _), fun i j hi hj q => ?_, h5, fun i j hi hj q => absurd hj (Nat.not_lt_zero _), fun x hx q => ?_⟩
  · obtain ⟨x, a1, a2, a3, a4⟩ := h2 k hk
    exact ⟨x, by rw [e2 k (by omega)]; exact a1, a2, by rw [e3 x a2]; exact a3, gok_s a4 (e4 x a2).1 (e4 x a2).2⟩
  · rw [e2 i (by omega), e2 j (by omega)] at q
    exact h4 i j hi hj q
  · rw [e3 x hx] at q
    rcases h7 x hx q with ⟨k, hk, a⟩ | ⟨k, hk, a⟩
    · exact Or.inl ⟨k, hk, by rw [e2 k (by omega)]; exact a⟩
    · exact absurd hk (Nat.not_lt_zero _)
theorem OS_rest {P H K L : hp} {n : Nat} (h : OS P H n) (hk : KK H K) (hr : RR K L) : OS P L n := by
  obtain ⟨⟨k1, k2, k3, k4, k5, k6⟩, k7, k8, k9⟩ := hk
  obtain ⟨⟨r1, r2, r3, r4, r5, r6⟩, r7, r8, r9⟩ := hr
  refine OS_pt h (r8.trans k8) (fun k hk => (r6 k hk).trans (k6 k hk)) (fun g hg => (r7 g hg).trans (k7 g hg)) (fun x hx => ⟨⟨fun y hy => (r2 _ (by omega)).trans (k2 _ (by omega)), fun y hy => (r1 _ (by omega)).trans (k1 _ (by omega))⟩, ⟨(r3 _ hx).trans (k3 _ hx), fun y hy => (r5 _ (by omega)).trans (k5 _ (by omega)), fun y hy => (r4 _ (by omega)).trans (k4 _ (by omega))⟩⟩)

/-! save -/
set_option maxRecDepth 100000 in
theorem m_save_cut {zC : Nat → Option zsh} {d : Nat} (hd : 2 ≤ d) {H : hp}   : ∀ w : Nat, (∀ (H1 : hp) (k : Nat), (fr [112, 113, 114] [1889, 1890, 1891, 1892, 1893, 1894, 1895, 1896, 1897, 1898] H H1) → (KS6 H H1) → (k ≤ 40) → (∀ x, x < k → (H1.1 1898) x = (H.1 1872) x) → 1000 - k < w → hG (zs zC) d mt_264 90 [(0, .inr (.inr 1826)), (1, .inl (k : Int))] [] H1 (fun r9 H2 => r9 = none ∧ fr [112, 113, 114] [1889, 1890, 1891, 1892, 1893, 1894, 1895, 1896, 1897, 1898] H H2 ∧ KK H H2)) := by
  intro w
  induction w with
  | zero => exact fun _ _ _ _ _ _ h => absurd h (Nat.not_lt_zero _)
  | succ w ih =>
    intro H1 k hf hks hk hku hw
    refine h_rng (fun hrg1 => ?_)
    refine h_run 2 (pc' := 93) (l' := [(0, .inr (.inr 1826)), (1, .inl (k : Int))]) (st' := [.inl 40, .inl (k : Int)]) rfl ?_
    refine h_ige (off := 33) (t := 126) rfl rfl (by omega) (by decide) (fun c2 => ?_) (fun c2 => ?_)
    · refine h_run 3 (pc' := 131) (l' := [(0, .inr (.inr 1826)), (1, .inl (k : Int))]) (st' := [.inl (H1.1 1826 77), .inr (.inr 1826)]) rfl ?_
      have g3 : -2147483648 ≤ (H1.1 1826 77) ∧ (H1.1 1826 77) ≤ 2147483647 := hrg1.1 1826 13 77 _ .int rfl rfl
      have e4 : (H1.1 1826 77) = (H.1 1826 77) := hf.2.2 77 (by decide)
      refine h_puti (i := 660) (ci := 13) (k := 112) (a := 1826) (x := (H1.1 1826 77)) rfl rfl rfl rfl rfl rfl (by decide) (by omega) ?_
      refine h_run 3 (pc' := 139) (l' := [(0, .inr (.inr 1826)), (1, .inl (k : Int))]) (st' := [.inl (H1.1 1826 89), .inr (.inr 1826)]) rfl ?_
      have g5 : -2147483648 ≤ (H1.1 1826 89) ∧ (H1.1 1826 89) ≤ 2147483647 := hrg1.1 1826 13 89 _ .int rfl rfl
      have e6 : (H1.1 1826 89) = (H.1 1826 89) := hf.2.2 89 (by decide)
      refine h_puti (i := 663) (ci := 13) (k := 113) (a := 1826) (x := (H1.1 1826 89)) rfl rfl rfl rfl rfl rfl (by decide) (by omega) ?_
      refine h_run 3 (pc' := 147) (l' := [(0, .inr (.inr 1826)), (1, .inl (k : Int))]) (st' := [.inl (H1.1 1826 76), .inr (.inr 1826)]) rfl ?_
      have g7 : -2147483648 ≤ (H1.1 1826 76) ∧ (H1.1 1826 76) ≤ 2147483647 := hrg1.1 1826 13 76 _ .int rfl rfl
      have e8 : (H1.1 1826 76) = (H.1 1826 76) := hf.2.2 76 (by decide)
      refine h_puti (i := 666) (ci := 13) (k := 114) (a := 1826) (x := (H1.1 1826 76)) rfl rfl rfl rfl rfl rfl (by decide) (by omega) ?_
      refine h_ret rfl rfl ?_
      exact ⟨rfl, (fr_o (fr_o (fr_o hf (by decide)) (by decide)) (by decide)), hks, fun x hx => hku x (by omega), (show (H1.1 1826 77) = (H.1 1826 77) from hf.2.2 77 (by decide)), (show (H1.1 1826 89) = (H.1 1826 89) from hf.2.2 89 (by decide))⟩
    · refine h_run 6 (pc' := 106) (l' := [(0, .inr (.inr 1826)), (1, .inl (k : Int))]) (st' := [.inl (k : Int), .inr (.inr 1876), .inl (k : Int), .inr (.inr 1892)]) rfl ?_
      refine h_lld (c := 1876) (j := k) (i := (k : Int)) rfl rfl (by decide) rfl (by omega) ?_
      have g9 : -9223372036854775808 ≤ (H1.1 1876 k) ∧ (H1.1 1876 k) ≤ 9223372036854775807 := hrg1.2 1876 k 40 .long rfl (by omega)
      have e10 : (H1.1 1876 k) = (H.1 1876 k) := congrFun (hf.2.1 1876 (by decide) (by decide)) k
      refine h_run 0 (pc' := 107) (l' := [(0, .inr (.inr 1826)), (1, .inl (k : Int))]) (st' := [.inr (.inl (H1.1 1876 k)), .inl (k : Int), .inr (.inr 1892)]) rfl ?_
      refine h_lst (c := 1892) (j := k) (i := (k : Int)) (x := (H1.1 1876 k)) rfl rfl (by decide) (by decide) rfl (by omega) (by first | omega | exact z_long _) ?_
      refine h_run 6 (pc' := 118) (l' := [(0, .inr (.inr 1826)), (1, .inl (k : Int))]) (st' := [.inl (k : Int), .inr (.inr 1872), .inl (k : Int), .inr (.inr 1898)]) rfl ?_
      refine h_bld (c := 1872) (j := k) (i := (k : Int)) (Or.inr rfl) rfl rfl (by decide) rfl (by omega) ?_
      have g11 : 0 ≤ (H1.1 1872 k) ∧ (H1.1 1872 k) ≤ 1 := hrg1.2 1872 k 40 .boolean rfl (by omega)
      have e12 : (H1.1 1872 k) = (H.1 1872 k) := congrFun (hf.2.1 1872 (by decide) (by decide)) k
      refine h_run 0 (pc' := 119) (l' := [(0, .inr (.inr 1826)), (1, .inl (k : Int))]) (st' := [.inl (H1.1 1872 k), .inl (k : Int), .inr (.inr 1898)]) rfl ?_
      refine h_bst (c := 1898) (j := k) (i := (k : Int)) (x := (H1.1 1872 k)) (Or.inr rfl) rfl rfl (by decide) (by decide) rfl (by omega) (show (0 : Int) ≤ (H1.1 1872 k) ∧ (H1.1 1872 k) ≤ 1 by omega) ?_
      refine h_run 2 (pc' := 90) (l' := [(0, .inr (.inr 1826)), (1, .inl ((k : Int) + 1))]) (st' := []) rfl ?_
      rw [show ((k : Int) + 1) = (((k + 1) : Nat) : Int) by omega]
      exact ih _ (k + 1) (fr_a (fr_a hf (by decide)) (by decide)) hks (by omega) (fun x hx => by show up (H1.1 1898) k ((H1.1 1872) k) x = _; rw [up_if, show (H1.1 1872) = (H.1 1872) from hf.2.1 1872 (by decide) (by decide)]; by_cases e9 : x = k; { rw [if_pos e9, e9] }; { rw [if_neg e9]; exact hku x (by omega) }) (by omega : 1000 - (k + 1) < w)
set_option maxRecDepth 100000 in
theorem m_save {zC : Nat → Option zsh} {d : Nat} (hd : 2 ≤ d) {H : hp}   : hG (zs zC) d mt_264 0 (zargs 0 [.inr (.inr 1826)]) [] H (fun r9 H2 => r9 = none ∧ fr [112, 113, 114] [1889, 1890, 1891, 1892, 1893, 1894, 1895, 1896, 1897, 1898] H H2 ∧ KK H H2) := by
  refine h_rng (fun hrg0 => ?_)
  refine h_run 0 (pc' := 0) (l' := [(0, .inr (.inr 1826))]) (st' := []) rfl ?_
  refine h_run 4 (pc' := 8) (l' := [(0, .inr (.inr 1826))]) (st' := [.inr (.inr 1889), .inr (.inr 1873)]) rfl ?_
  refine h_cs (i := 656) (j := 263) (M' := mt_263) (xs := [.inr (.inr 1889), .inr (.inr 1873)]) (rest := []) rfl rfl rfl rfl rfl (Nat.le_of_ble_eq_true rfl) (Nat.le_of_ble_eq_true rfl) (by omega) (m_move (na := 5120) (by omega) rfl rfl (by decide) (by decide)) ?_
  rintro _ H13 ⟨rfl, h2H13, hkH13, hcH13⟩
  refine h_rng (fun hrg14 => ?_)
  have hf15 : fr [112, 113, 114] [1889, 1890, 1891, 1892, 1893, 1894, 1895, 1896, 1897, 1898] H H13 := fr_t (fr_rf _ _ _) (mv_fr h2H13 hkH13 (by decide)) (by decide) (by decide)
  refine h_run 0 (pc' := 11) (l' := [(0, .inr (.inr 1826))]) (st' := []) rfl ?_
  refine h_run 4 (pc' := 19) (l' := [(0, .inr (.inr 1826))]) (st' := [.inr (.inr 1890), .inr (.inr 1874)]) rfl ?_
  refine h_cs (i := 656) (j := 263) (M' := mt_263) (xs := [.inr (.inr 1890), .inr (.inr 1874)]) (rest := []) rfl rfl rfl rfl rfl (Nat.le_of_ble_eq_true rfl) (Nat.le_of_ble_eq_true rfl) (by omega) (m_move (na := 80) (by omega) rfl rfl (by decide) (by decide)) ?_
  rintro _ H16 ⟨rfl, h2H16, hkH16, hcH16⟩
  refine h_rng (fun hrg17 => ?_)
  have hf18 : fr [112, 113, 114] [1889, 1890, 1891, 1892, 1893, 1894, 1895, 1896, 1897, 1898] H H16 := fr_t hf15 (mv_fr h2H16 hkH16 (by decide)) (by decide) (by decide)
  refine h_run 0 (pc' := 22) (l' := [(0, .inr (.inr 1826))]) (st' := []) rfl ?_
  refine h_run 4 (pc' := 30) (l' := [(0, .inr (.inr 1826))]) (st' := [.inr (.inr 1891), .inr (.inr 1875)]) rfl ?_
  refine h_cs (i := 656) (j := 263) (M' := mt_263) (xs := [.inr (.inr 1891), .inr (.inr 1875)]) (rest := []) rfl rfl rfl rfl rfl (Nat.le_of_ble_eq_true rfl) (Nat.le_of_ble_eq_true rfl) (by omega) (m_move (na := 40) (by omega) rfl rfl (by decide) (by decide)) ?_
  rintro _ H19 ⟨rfl, h2H19, hkH19, hcH19⟩
  refine h_rng (fun hrg20 => ?_)
  have hf21 : fr [112, 113, 114] [1889, 1890, 1891, 1892, 1893, 1894, 1895, 1896, 1897, 1898] H H19 := fr_t hf18 (mv_fr h2H19 hkH19 (by decide)) (by decide) (by decide)
  refine h_run 0 (pc' := 33) (l' := [(0, .inr (.inr 1826))]) (st' := []) rfl ?_
  refine h_run 4 (pc' := 41) (l' := [(0, .inr (.inr 1826))]) (st' := [.inr (.inr 1893), .inr (.inr 1877)]) rfl ?_
  refine h_cs (i := 656) (j := 263) (M' := mt_263) (xs := [.inr (.inr 1893), .inr (.inr 1877)]) (rest := []) rfl rfl rfl rfl rfl (Nat.le_of_ble_eq_true rfl) (Nat.le_of_ble_eq_true rfl) (by omega) (m_move (na := 40) (by omega) rfl rfl (by decide) (by decide)) ?_
  rintro _ H22 ⟨rfl, h2H22, hkH22, hcH22⟩
  refine h_rng (fun hrg23 => ?_)
  have hf24 : fr [112, 113, 114] [1889, 1890, 1891, 1892, 1893, 1894, 1895, 1896, 1897, 1898] H H22 := fr_t hf21 (mv_fr h2H22 hkH22 (by decide)) (by decide) (by decide)
  refine h_run 0 (pc' := 44) (l' := [(0, .inr (.inr 1826))]) (st' := []) rfl ?_
  refine h_run 4 (pc' := 52) (l' := [(0, .inr (.inr 1826))]) (st' := [.inr (.inr 1894), .inr (.inr 1879)]) rfl ?_
  refine h_cs (i := 656) (j := 263) (M' := mt_263) (xs := [.inr (.inr 1894), .inr (.inr 1879)]) (rest := []) rfl rfl rfl rfl rfl (Nat.le_of_ble_eq_true rfl) (Nat.le_of_ble_eq_true rfl) (by omega) (m_move (na := 40) (by omega) rfl rfl (by decide) (by decide)) ?_
  rintro _ H25 ⟨rfl, h2H25, hkH25, hcH25⟩
  refine h_rng (fun hrg26 => ?_)
  have hf27 : fr [112, 113, 114] [1889, 1890, 1891, 1892, 1893, 1894, 1895, 1896, 1897, 1898] H H25 := fr_t hf24 (mv_fr h2H25 hkH25 (by decide)) (by decide) (by decide)
  refine h_run 0 (pc' := 55) (l' := [(0, .inr (.inr 1826))]) (st' := []) rfl ?_
  refine h_run 4 (pc' := 63) (l' := [(0, .inr (.inr 1826))]) (st' := [.inr (.inr 1895), .inr (.inr 1880)]) rfl ?_
  refine h_cs (i := 656) (j := 263) (M' := mt_263) (xs := [.inr (.inr 1895), .inr (.inr 1880)]) (rest := []) rfl rfl rfl rfl rfl (Nat.le_of_ble_eq_true rfl) (Nat.le_of_ble_eq_true rfl) (by omega) (m_move (na := 40960) (by omega) rfl rfl (by decide) (by decide)) ?_
  rintro _ H28 ⟨rfl, h2H28, hkH28, hcH28⟩
  refine h_rng (fun hrg29 => ?_)
  have hf30 : fr [112, 113, 114] [1889, 1890, 1891, 1892, 1893, 1894, 1895, 1896, 1897, 1898] H H28 := fr_t hf27 (mv_fr h2H28 hkH28 (by decide)) (by decide) (by decide)
  refine h_run 0 (pc' := 66) (l' := [(0, .inr (.inr 1826))]) (st' := []) rfl ?_
  refine h_run 4 (pc' := 74) (l' := [(0, .inr (.inr 1826))]) (st' := [.inr (.inr 1896), .inr (.inr 1881)]) rfl ?_
  refine h_cs (i := 656) (j := 263) (M' := mt_263) (xs := [.inr (.inr 1896), .inr (.inr 1881)]) (rest := []) rfl rfl rfl rfl rfl (Nat.le_of_ble_eq_true rfl) (Nat.le_of_ble_eq_true rfl) (by omega) (m_move (na := 640) (by omega) rfl rfl (by decide) (by decide)) ?_
  rintro _ H31 ⟨rfl, h2H31, hkH31, hcH31⟩
  refine h_rng (fun hrg32 => ?_)
  have hf33 : fr [112, 113, 114] [1889, 1890, 1891, 1892, 1893, 1894, 1895, 1896, 1897, 1898] H H31 := fr_t hf30 (mv_fr h2H31 hkH31 (by decide)) (by decide) (by decide)
  refine h_run 0 (pc' := 77) (l' := [(0, .inr (.inr 1826))]) (st' := []) rfl ?_
  refine h_run 4 (pc' := 85) (l' := [(0, .inr (.inr 1826))]) (st' := [.inr (.inr 1897), .inr (.inr 1871)]) rfl ?_
  refine h_cs (i := 656) (j := 263) (M' := mt_263) (xs := [.inr (.inr 1897), .inr (.inr 1871)]) (rest := []) rfl rfl rfl rfl rfl (Nat.le_of_ble_eq_true rfl) (Nat.le_of_ble_eq_true rfl) (by omega) (m_move (na := 13) (by omega) rfl rfl (by decide) (by decide)) ?_
  rintro _ H34 ⟨rfl, h2H34, hkH34, hcH34⟩
  refine h_rng (fun hrg35 => ?_)
  have hf36 : fr [112, 113, 114] [1889, 1890, 1891, 1892, 1893, 1894, 1895, 1896, 1897, 1898] H H34 := fr_t hf33 (mv_fr h2H34 hkH34 (by decide)) (by decide) (by decide)
  refine h_run 0 (pc' := 88) (l' := [(0, .inr (.inr 1826))]) (st' := []) rfl ?_
  refine h_run 2 (pc' := 90) (l' := [(0, .inr (.inr 1826)), (1, .inl 0)]) (st' := []) rfl ?_
  exact (m_save_cut hd  _) _ 0 hf36 ⟨fun x hx => by rw [show H34.1 1889 = H31.1 1889 from (mv_fr h2H34 hkH34 (by decide)).2.1 1889 (by decide) (by decide), show H31.1 1889 = H28.1 1889 from (mv_fr h2H31 hkH31 (by decide)).2.1 1889 (by decide) (by decide), show H28.1 1889 = H25.1 1889 from (mv_fr h2H28 hkH28 (by decide)).2.1 1889 (by decide) (by decide), show H25.1 1889 = H22.1 1889 from (mv_fr h2H25 hkH25 (by decide)).2.1 1889 (by decide) (by decide), show H22.1 1889 = H19.1 1889 from (mv_fr h2H22 hkH22 (by decide)).2.1 1889 (by decide) (by decide), show H19.1 1889 = H16.1 1889 from (mv_fr h2H19 hkH19 (by decide)).2.1 1889 (by decide) (by decide), show H16.1 1889 = H13.1 1889 from (mv_fr h2H16 hkH16 (by decide)).2.1 1889 (by decide) (by decide)]; rw [hcH13 x hx], fun x hx => by rw [show H34.1 1890 = H31.1 1890 from (mv_fr h2H34 hkH34 (by decide)).2.1 1890 (by decide) (by decide), show H31.1 1890 = H28.1 1890 from (mv_fr h2H31 hkH31 (by decide)).2.1 1890 (by decide) (by decide), show H28.1 1890 = H25.1 1890 from (mv_fr h2H28 hkH28 (by decide)).2.1 1890 (by decide) (by decide), show H25.1 1890 = H22.1 1890 from (mv_fr h2H25 hkH25 (by decide)).2.1 1890 (by decide) (by decide), show H22.1 1890 = H19.1 1890 from (mv_fr h2H22 hkH22 (by decide)).2.1 1890 (by decide) (by decide), show H19.1 1890 = H16.1 1890 from (mv_fr h2H19 hkH19 (by decide)).2.1 1890 (by decide) (by decide)]; rw [hcH16 x hx, show H13.1 1874 = H.1 1874 from (mv_fr h2H13 hkH13 (by decide)).2.1 1874 (by decide) (by decide)], fun x hx => by rw [show H34.1 1894 = H31.1 1894 from (mv_fr h2H34 hkH34 (by decide)).2.1 1894 (by decide) (by decide), show H31.1 1894 = H28.1 1894 from (mv_fr h2H31 hkH31 (by decide)).2.1 1894 (by decide) (by decide), show H28.1 1894 = H25.1 1894 from (mv_fr h2H28 hkH28 (by decide)).2.1 1894 (by decide) (by decide)]; rw [hcH25 x hx, show H22.1 1879 = H19.1 1879 from (mv_fr h2H22 hkH22 (by decide)).2.1 1879 (by decide) (by decide), show H19.1 1879 = H16.1 1879 from (mv_fr h2H19 hkH19 (by decide)).2.1 1879 (by decide) (by decide), show H16.1 1879 = H13.1 1879 from (mv_fr h2H16 hkH16 (by decide)).2.1 1879 (by decide) (by decide), show H13.1 1879 = H.1 1879 from (mv_fr h2H13 hkH13 (by decide)).2.1 1879 (by decide) (by decide)], fun x hx => by rw [show H34.1 1895 = H31.1 1895 from (mv_fr h2H34 hkH34 (by decide)).2.1 1895 (by decide) (by decide), show H31.1 1895 = H28.1 1895 from (mv_fr h2H31 hkH31 (by decide)).2.1 1895 (by decide) (by decide)]; rw [hcH28 x hx, show H25.1 1880 = H22.1 1880 from (mv_fr h2H25 hkH25 (by decide)).2.1 1880 (by decide) (by decide), show H22.1 1880 = H19.1 1880 from (mv_fr h2H22 hkH22 (by decide)).2.1 1880 (by decide) (by decide), show H19.1 1880 = H16.1 1880 from (mv_fr h2H19 hkH19 (by decide)).2.1 1880 (by decide) (by decide), show H16.1 1880 = H13.1 1880 from (mv_fr h2H16 hkH16 (by decide)).2.1 1880 (by decide) (by decide), show H13.1 1880 = H.1 1880 from (mv_fr h2H13 hkH13 (by decide)).2.1 1880 (by decide) (by decide)], fun x hx => by rw [show H34.1 1896 = H31.1 1896 from (mv_fr h2H34 hkH34 (by decide)).2.1 1896 (by decide) (by decide)]; rw [hcH31 x hx, show H28.1 1881 = H25.1 1881 from (mv_fr h2H28 hkH28 (by decide)).2.1 1881 (by decide) (by decide), show H25.1 1881 = H22.1 1881 from (mv_fr h2H25 hkH25 (by decide)).2.1 1881 (by decide) (by decide), show H22.1 1881 = H19.1 1881 from (mv_fr h2H22 hkH22 (by decide)).2.1 1881 (by decide) (by decide), show H19.1 1881 = H16.1 1881 from (mv_fr h2H19 hkH19 (by decide)).2.1 1881 (by decide) (by decide), show H16.1 1881 = H13.1 1881 from (mv_fr h2H16 hkH16 (by decide)).2.1 1881 (by decide) (by decide), show H13.1 1881 = H.1 1881 from (mv_fr h2H13 hkH13 (by decide)).2.1 1881 (by decide) (by decide)], fun x hx => by rw [hcH34 x hx, show H31.1 1871 = H28.1 1871 from (mv_fr h2H31 hkH31 (by decide)).2.1 1871 (by decide) (by decide), show H28.1 1871 = H25.1 1871 from (mv_fr h2H28 hkH28 (by decide)).2.1 1871 (by decide) (by decide), show H25.1 1871 = H22.1 1871 from (mv_fr h2H25 hkH25 (by decide)).2.1 1871 (by decide) (by decide), show H22.1 1871 = H19.1 1871 from (mv_fr h2H22 hkH22 (by decide)).2.1 1871 (by decide) (by decide), show H19.1 1871 = H16.1 1871 from (mv_fr h2H19 hkH19 (by decide)).2.1 1871 (by decide) (by decide), show H16.1 1871 = H13.1 1871 from (mv_fr h2H16 hkH16 (by decide)).2.1 1871 (by decide) (by decide), show H13.1 1871 = H.1 1871 from (mv_fr h2H13 hkH13 (by decide)).2.1 1871 (by decide) (by decide)]⟩ (by omega) (fun x hx => absurd hx (Nat.not_lt_zero _)) (Nat.lt_succ_self _)

/-! restore -/
set_option maxRecDepth 100000 in
theorem m_restore_cut {zC : Nat → Option zsh} {d : Nat} (hd : 2 ≤ d) {H : hp}  (hko : 0 ≤ (H.1 1897) 0 ∧ (H.1 1897) 0 < 40) : ∀ w : Nat, (∀ (H1 : hp) (k : Nat), (fr [76, 77, 89] [1871, 1872, 1873, 1874, 1875, 1876, 1877, 1878, 1879, 1880, 1881] H H1) → (RS6 H H1) → (k ≤ 40) → (∀ x, x < k → (H1.1 1872) x = (H.1 1898) x) → 1000 - k < w → hG (zs zC) d mt_265 90 [(0, .inr (.inr 1826)), (1, .inl (k : Int))] [] H1 (fun r9 H2 => r9 = none ∧ fr [76, 77, 89] [1871, 1872, 1873, 1874, 1875, 1876, 1877, 1878, 1879, 1880, 1881] H H2 ∧ RR H H2)) := by
  intro w
  induction w with
  | zero => exact fun _ _ _ _ _ _ h => absurd h (Nat.not_lt_zero _)
  | succ w ih =>
    intro H1 k hf hks hk hku hw
    refine h_rng (fun hrg1 => ?_)
    refine h_run 2 (pc' := 93) (l' := [(0, .inr (.inr 1826)), (1, .inl (k : Int))]) (st' := [.inl 40, .inl (k : Int)]) rfl ?_
    refine h_ige (off := 33) (t := 126) rfl rfl (by omega) (by decide) (fun c2 => ?_) (fun c2 => ?_)
    · refine h_run 3 (pc' := 131) (l' := [(0, .inr (.inr 1826)), (1, .inl (k : Int))]) (st' := [.inl (H1.1 1826 112), .inr (.inr 1826)]) rfl ?_
      have g3 : -2147483648 ≤ (H1.1 1826 112) ∧ (H1.1 1826 112) ≤ 2147483647 := hrg1.1 1826 13 112 _ .int rfl rfl
      have e4 : (H1.1 1826 112) = (H.1 1826 112) := hf.2.2 112 (by decide)
      refine h_puti (i := 414) (ci := 13) (k := 77) (a := 1826) (x := (H1.1 1826 112)) rfl rfl rfl rfl rfl rfl (by decide) (by omega) ?_
      refine h_run 3 (pc' := 139) (l' := [(0, .inr (.inr 1826)), (1, .inl (k : Int))]) (st' := [.inl (H1.1 1826 113), .inr (.inr 1826)]) rfl ?_
      have g5 : -2147483648 ≤ (H1.1 1826 113) ∧ (H1.1 1826 113) ≤ 2147483647 := hrg1.1 1826 13 113 _ .int rfl rfl
      have e6 : (H1.1 1826 113) = (H.1 1826 113) := hf.2.2 113 (by decide)
      refine h_puti (i := 541) (ci := 13) (k := 89) (a := 1826) (x := (H1.1 1826 113)) rfl rfl rfl rfl rfl rfl (by decide) (by omega) ?_
      refine h_run 3 (pc' := 147) (l' := [(0, .inr (.inr 1826)), (1, .inl (k : Int))]) (st' := [.inl (H1.1 1826 114), .inr (.inr 1826)]) rfl ?_
      have g7 : -2147483648 ≤ (H1.1 1826 114) ∧ (H1.1 1826 114) ≤ 2147483647 := hrg1.1 1826 13 114 _ .int rfl rfl
      have e8 : (H1.1 1826 114) = (H.1 1826 114) := hf.2.2 114 (by decide)
      refine h_puti (i := 417) (ci := 13) (k := 76) (a := 1826) (x := (H1.1 1826 114)) rfl rfl rfl rfl rfl rfl (by decide) (by omega) ?_
      refine h_run 1 (pc' := 151) (l' := [(0, .inr (.inr 1826)), (1, .inl (k : Int))]) (st' := [.inr (.inr 1826)]) rfl ?_
      refine h_cv (i := 544) (j := 223) (b := 1826) (M' := mt_223) (xs := []) (rest := []) rfl rfl rfl rfl rfl rfl (Nat.le_of_ble_eq_true rfl) (Nat.le_of_ble_eq_true rfl) (by omega) (m_tellHyps (by omega) (show 0 ≤ (H1.1 1871) 0 ∧ (H1.1 1871) 0 < 40 by rw [show (H1.1 1871) 0 = (H.1 1897) 0 from hks.2.2.2.2.2 0 (by decide)]; exact hko)) ?_
      rintro _ H9 ⟨rfl, hfH9⟩
      refine h_rng (fun hrg10 => ?_)
      have hf11 : fr [76, 77, 89] [1871, 1872, 1873, 1874, 1875, 1876, 1877, 1878, 1879, 1880, 1881] H H9 := fr_t (fr_o (fr_o (fr_o hf (by decide)) (by decide)) (by decide)) hfH9 (by decide) (by decide)
      refine h_run 0 (pc' := 154) (l' := [(0, .inr (.inr 1826)), (1, .inl (k : Int))]) (st' := []) rfl ?_
      refine h_ret rfl rfl ?_
      refine ⟨rfl, hf11, ?_, fun x hx => ?_, ?_, ?_⟩
      · unfold RS6 at hks ⊢
        rw [show (H9.1 1873) = (H1.1 1873) from hfH9.2.1 1873 (by decide) (by decide), show (H9.1 1874) = (H1.1 1874) from hfH9.2.1 1874 (by decide) (by decide), show (H9.1 1879) = (H1.1 1879) from hfH9.2.1 1879 (by decide) (by decide), show (H9.1 1880) = (H1.1 1880) from hfH9.2.1 1880 (by decide) (by decide), show (H9.1 1881) = (H1.1 1881) from hfH9.2.1 1881 (by decide) (by decide), show (H9.1 1871) = (H1.1 1871) from hfH9.2.1 1871 (by decide) (by decide)]
        exact hks
      · rw [show (H9.1 1872) = (H1.1 1872) from hfH9.2.1 1872 (by decide) (by decide)]
        exact hku x (by omega)
      · exact (hfH9.2.2 77 (by decide)).trans (show (H1.1 1826 112) = (H.1 1826 112) from hf.2.2 112 (by decide))
      · exact (hfH9.2.2 89 (by decide)).trans (show (H1.1 1826 113) = (H.1 1826 113) from hf.2.2 113 (by decide))
    · refine h_run 6 (pc' := 106) (l' := [(0, .inr (.inr 1826)), (1, .inl (k : Int))]) (st' := [.inl (k : Int), .inr (.inr 1892), .inl (k : Int), .inr (.inr 1876)]) rfl ?_
      refine h_lld (c := 1892) (j := k) (i := (k : Int)) rfl rfl (by decide) rfl (by omega) ?_
      have g12 : -9223372036854775808 ≤ (H1.1 1892 k) ∧ (H1.1 1892 k) ≤ 9223372036854775807 := hrg1.2 1892 k 40 .long rfl (by omega)
      have e13 : (H1.1 1892 k) = (H.1 1892 k) := congrFun (hf.2.1 1892 (by decide) (by decide)) k
      refine h_run 0 (pc' := 107) (l' := [(0, .inr (.inr 1826)), (1, .inl (k : Int))]) (st' := [.inr (.inl (H1.1 1892 k)), .inl (k : Int), .inr (.inr 1876)]) rfl ?_
      refine h_lst (c := 1876) (j := k) (i := (k : Int)) (x := (H1.1 1892 k)) rfl rfl (by decide) (by decide) rfl (by omega) (by first | omega | exact z_long _) ?_
      refine h_run 6 (pc' := 118) (l' := [(0, .inr (.inr 1826)), (1, .inl (k : Int))]) (st' := [.inl (k : Int), .inr (.inr 1898), .inl (k : Int), .inr (.inr 1872)]) rfl ?_
      refine h_bld (c := 1898) (j := k) (i := (k : Int)) (Or.inr rfl) rfl rfl (by decide) rfl (by omega) ?_
      have g14 : 0 ≤ (H1.1 1898 k) ∧ (H1.1 1898 k) ≤ 1 := hrg1.2 1898 k 40 .boolean rfl (by omega)
      have e15 : (H1.1 1898 k) = (H.1 1898 k) := congrFun (hf.2.1 1898 (by decide) (by decide)) k
      refine h_run 0 (pc' := 119) (l' := [(0, .inr (.inr 1826)), (1, .inl (k : Int))]) (st' := [.inl (H1.1 1898 k), .inl (k : Int), .inr (.inr 1872)]) rfl ?_
      refine h_bst (c := 1872) (j := k) (i := (k : Int)) (x := (H1.1 1898 k)) (Or.inr rfl) rfl rfl (by decide) (by decide) rfl (by omega) (show (0 : Int) ≤ (H1.1 1898 k) ∧ (H1.1 1898 k) ≤ 1 by omega) ?_
      refine h_run 2 (pc' := 90) (l' := [(0, .inr (.inr 1826)), (1, .inl ((k : Int) + 1))]) (st' := []) rfl ?_
      rw [show ((k : Int) + 1) = (((k + 1) : Nat) : Int) by omega]
      exact ih _ (k + 1) (fr_a (fr_a hf (by decide)) (by decide)) hks (by omega) (fun x hx => by show up (H1.1 1872) k ((H1.1 1898) k) x = _; rw [up_if, show (H1.1 1898) = (H.1 1898) from hf.2.1 1898 (by decide) (by decide)]; by_cases e9 : x = k; { rw [if_pos e9, e9] }; { rw [if_neg e9]; exact hku x (by omega) }) (by omega : 1000 - (k + 1) < w)
set_option maxRecDepth 100000 in
theorem m_restore {zC : Nat → Option zsh} {d : Nat} (hd : 2 ≤ d) {H : hp}  (hko : 0 ≤ (H.1 1897) 0 ∧ (H.1 1897) 0 < 40) : hG (zs zC) d mt_265 0 (zargs 0 [.inr (.inr 1826)]) [] H (fun r9 H2 => r9 = none ∧ fr [76, 77, 89] [1871, 1872, 1873, 1874, 1875, 1876, 1877, 1878, 1879, 1880, 1881] H H2 ∧ RR H H2) := by
  refine h_rng (fun hrg0 => ?_)
  refine h_run 0 (pc' := 0) (l' := [(0, .inr (.inr 1826))]) (st' := []) rfl ?_
  refine h_run 4 (pc' := 8) (l' := [(0, .inr (.inr 1826))]) (st' := [.inr (.inr 1873), .inr (.inr 1889)]) rfl ?_
  refine h_cs (i := 656) (j := 263) (M' := mt_263) (xs := [.inr (.inr 1873), .inr (.inr 1889)]) (rest := []) rfl rfl rfl rfl rfl (Nat.le_of_ble_eq_true rfl) (Nat.le_of_ble_eq_true rfl) (by omega) (m_move (na := 5120) (by omega) rfl rfl (by decide) (by decide)) ?_
  rintro _ H16 ⟨rfl, h2H16, hkH16, hcH16⟩
  refine h_rng (fun hrg17 => ?_)
  have hf18 : fr [76, 77, 89] [1871, 1872, 1873, 1874, 1875, 1876, 1877, 1878, 1879, 1880, 1881] H H16 := fr_t (fr_rf _ _ _) (mv_fr h2H16 hkH16 (by decide)) (by decide) (by decide)
  refine h_run 0 (pc' := 11) (l' := [(0, .inr (.inr 1826))]) (st' := []) rfl ?_
  refine h_run 4 (pc' := 19) (l' := [(0, .inr (.inr 1826))]) (st' := [.inr (.inr 1874), .inr (.inr 1890)]) rfl ?_
  refine h_cs (i := 656) (j := 263) (M' := mt_263) (xs := [.inr (.inr 1874), .inr (.inr 1890)]) (rest := []) rfl rfl rfl rfl rfl (Nat.le_of_ble_eq_true rfl) (Nat.le_of_ble_eq_true rfl) (by omega) (m_move (na := 80) (by omega) rfl rfl (by decide) (by decide)) ?_
  rintro _ H19 ⟨rfl, h2H19, hkH19, hcH19⟩
  refine h_rng (fun hrg20 => ?_)
  have hf21 : fr [76, 77, 89] [1871, 1872, 1873, 1874, 1875, 1876, 1877, 1878, 1879, 1880, 1881] H H19 := fr_t hf18 (mv_fr h2H19 hkH19 (by decide)) (by decide) (by decide)
  refine h_run 0 (pc' := 22) (l' := [(0, .inr (.inr 1826))]) (st' := []) rfl ?_
  refine h_run 4 (pc' := 30) (l' := [(0, .inr (.inr 1826))]) (st' := [.inr (.inr 1875), .inr (.inr 1891)]) rfl ?_
  refine h_cs (i := 656) (j := 263) (M' := mt_263) (xs := [.inr (.inr 1875), .inr (.inr 1891)]) (rest := []) rfl rfl rfl rfl rfl (Nat.le_of_ble_eq_true rfl) (Nat.le_of_ble_eq_true rfl) (by omega) (m_move (na := 40) (by omega) rfl rfl (by decide) (by decide)) ?_
  rintro _ H22 ⟨rfl, h2H22, hkH22, hcH22⟩
  refine h_rng (fun hrg23 => ?_)
  have hf24 : fr [76, 77, 89] [1871, 1872, 1873, 1874, 1875, 1876, 1877, 1878, 1879, 1880, 1881] H H22 := fr_t hf21 (mv_fr h2H22 hkH22 (by decide)) (by decide) (by decide)
  refine h_run 0 (pc' := 33) (l' := [(0, .inr (.inr 1826))]) (st' := []) rfl ?_
  refine h_run 4 (pc' := 41) (l' := [(0, .inr (.inr 1826))]) (st' := [.inr (.inr 1877), .inr (.inr 1893)]) rfl ?_
  refine h_cs (i := 656) (j := 263) (M' := mt_263) (xs := [.inr (.inr 1877), .inr (.inr 1893)]) (rest := []) rfl rfl rfl rfl rfl (Nat.le_of_ble_eq_true rfl) (Nat.le_of_ble_eq_true rfl) (by omega) (m_move (na := 40) (by omega) rfl rfl (by decide) (by decide)) ?_
  rintro _ H25 ⟨rfl, h2H25, hkH25, hcH25⟩
  refine h_rng (fun hrg26 => ?_)
  have hf27 : fr [76, 77, 89] [1871, 1872, 1873, 1874, 1875, 1876, 1877, 1878, 1879, 1880, 1881] H H25 := fr_t hf24 (mv_fr h2H25 hkH25 (by decide)) (by decide) (by decide)
  refine h_run 0 (pc' := 44) (l' := [(0, .inr (.inr 1826))]) (st' := []) rfl ?_
  refine h_run 4 (pc' := 52) (l' := [(0, .inr (.inr 1826))]) (st' := [.inr (.inr 1879), .inr (.inr 1894)]) rfl ?_
  refine h_cs (i := 656) (j := 263) (M' := mt_263) (xs := [.inr (.inr 1879), .inr (.inr 1894)]) (rest := []) rfl rfl rfl rfl rfl (Nat.le_of_ble_eq_true rfl) (Nat.le_of_ble_eq_true rfl) (by omega) (m_move (na := 40) (by omega) rfl rfl (by decide) (by decide)) ?_
  rintro _ H28 ⟨rfl, h2H28, hkH28, hcH28⟩
  refine h_rng (fun hrg29 => ?_)
  have hf30 : fr [76, 77, 89] [1871, 1872, 1873, 1874, 1875, 1876, 1877, 1878, 1879, 1880, 1881] H H28 := fr_t hf27 (mv_fr h2H28 hkH28 (by decide)) (by decide) (by decide)
  refine h_run 0 (pc' := 55) (l' := [(0, .inr (.inr 1826))]) (st' := []) rfl ?_
  refine h_run 4 (pc' := 63) (l' := [(0, .inr (.inr 1826))]) (st' := [.inr (.inr 1880), .inr (.inr 1895)]) rfl ?_
  refine h_cs (i := 656) (j := 263) (M' := mt_263) (xs := [.inr (.inr 1880), .inr (.inr 1895)]) (rest := []) rfl rfl rfl rfl rfl (Nat.le_of_ble_eq_true rfl) (Nat.le_of_ble_eq_true rfl) (by omega) (m_move (na := 40960) (by omega) rfl rfl (by decide) (by decide)) ?_
  rintro _ H31 ⟨rfl, h2H31, hkH31, hcH31⟩
  refine h_rng (fun hrg32 => ?_)
  have hf33 : fr [76, 77, 89] [1871, 1872, 1873, 1874, 1875, 1876, 1877, 1878, 1879, 1880, 1881] H H31 := fr_t hf30 (mv_fr h2H31 hkH31 (by decide)) (by decide) (by decide)
  refine h_run 0 (pc' := 66) (l' := [(0, .inr (.inr 1826))]) (st' := []) rfl ?_
  refine h_run 4 (pc' := 74) (l' := [(0, .inr (.inr 1826))]) (st' := [.inr (.inr 1881), .inr (.inr 1896)]) rfl ?_
  refine h_cs (i := 656) (j := 263) (M' := mt_263) (xs := [.inr (.inr 1881), .inr (.inr 1896)]) (rest := []) rfl rfl rfl rfl rfl (Nat.le_of_ble_eq_true rfl) (Nat.le_of_ble_eq_true rfl) (by omega) (m_move (na := 640) (by omega) rfl rfl (by decide) (by decide)) ?_
  rintro _ H34 ⟨rfl, h2H34, hkH34, hcH34⟩
  refine h_rng (fun hrg35 => ?_)
  have hf36 : fr [76, 77, 89] [1871, 1872, 1873, 1874, 1875, 1876, 1877, 1878, 1879, 1880, 1881] H H34 := fr_t hf33 (mv_fr h2H34 hkH34 (by decide)) (by decide) (by decide)
  refine h_run 0 (pc' := 77) (l' := [(0, .inr (.inr 1826))]) (st' := []) rfl ?_
  refine h_run 4 (pc' := 85) (l' := [(0, .inr (.inr 1826))]) (st' := [.inr (.inr 1871), .inr (.inr 1897)]) rfl ?_
  refine h_cs (i := 656) (j := 263) (M' := mt_263) (xs := [.inr (.inr 1871), .inr (.inr 1897)]) (rest := []) rfl rfl rfl rfl rfl (Nat.le_of_ble_eq_true rfl) (Nat.le_of_ble_eq_true rfl) (by omega) (m_move (na := 13) (by omega) rfl rfl (by decide) (by decide)) ?_
  rintro _ H37 ⟨rfl, h2H37, hkH37, hcH37⟩
  refine h_rng (fun hrg38 => ?_)
  have hf39 : fr [76, 77, 89] [1871, 1872, 1873, 1874, 1875, 1876, 1877, 1878, 1879, 1880, 1881] H H37 := fr_t hf36 (mv_fr h2H37 hkH37 (by decide)) (by decide) (by decide)
  refine h_run 0 (pc' := 88) (l' := [(0, .inr (.inr 1826))]) (st' := []) rfl ?_
  refine h_run 2 (pc' := 90) (l' := [(0, .inr (.inr 1826)), (1, .inl 0)]) (st' := []) rfl ?_
  exact (m_restore_cut hd hko _) _ 0 hf39 ⟨fun x hx => by rw [show H37.1 1873 = H34.1 1873 from (mv_fr h2H37 hkH37 (by decide)).2.1 1873 (by decide) (by decide), show H34.1 1873 = H31.1 1873 from (mv_fr h2H34 hkH34 (by decide)).2.1 1873 (by decide) (by decide), show H31.1 1873 = H28.1 1873 from (mv_fr h2H31 hkH31 (by decide)).2.1 1873 (by decide) (by decide), show H28.1 1873 = H25.1 1873 from (mv_fr h2H28 hkH28 (by decide)).2.1 1873 (by decide) (by decide), show H25.1 1873 = H22.1 1873 from (mv_fr h2H25 hkH25 (by decide)).2.1 1873 (by decide) (by decide), show H22.1 1873 = H19.1 1873 from (mv_fr h2H22 hkH22 (by decide)).2.1 1873 (by decide) (by decide), show H19.1 1873 = H16.1 1873 from (mv_fr h2H19 hkH19 (by decide)).2.1 1873 (by decide) (by decide)]; rw [hcH16 x hx], fun x hx => by rw [show H37.1 1874 = H34.1 1874 from (mv_fr h2H37 hkH37 (by decide)).2.1 1874 (by decide) (by decide), show H34.1 1874 = H31.1 1874 from (mv_fr h2H34 hkH34 (by decide)).2.1 1874 (by decide) (by decide), show H31.1 1874 = H28.1 1874 from (mv_fr h2H31 hkH31 (by decide)).2.1 1874 (by decide) (by decide), show H28.1 1874 = H25.1 1874 from (mv_fr h2H28 hkH28 (by decide)).2.1 1874 (by decide) (by decide), show H25.1 1874 = H22.1 1874 from (mv_fr h2H25 hkH25 (by decide)).2.1 1874 (by decide) (by decide), show H22.1 1874 = H19.1 1874 from (mv_fr h2H22 hkH22 (by decide)).2.1 1874 (by decide) (by decide)]; rw [hcH19 x hx, show H16.1 1890 = H.1 1890 from (mv_fr h2H16 hkH16 (by decide)).2.1 1890 (by decide) (by decide)], fun x hx => by rw [show H37.1 1879 = H34.1 1879 from (mv_fr h2H37 hkH37 (by decide)).2.1 1879 (by decide) (by decide), show H34.1 1879 = H31.1 1879 from (mv_fr h2H34 hkH34 (by decide)).2.1 1879 (by decide) (by decide), show H31.1 1879 = H28.1 1879 from (mv_fr h2H31 hkH31 (by decide)).2.1 1879 (by decide) (by decide)]; rw [hcH28 x hx, show H25.1 1894 = H22.1 1894 from (mv_fr h2H25 hkH25 (by decide)).2.1 1894 (by decide) (by decide), show H22.1 1894 = H19.1 1894 from (mv_fr h2H22 hkH22 (by decide)).2.1 1894 (by decide) (by decide), show H19.1 1894 = H16.1 1894 from (mv_fr h2H19 hkH19 (by decide)).2.1 1894 (by decide) (by decide), show H16.1 1894 = H.1 1894 from (mv_fr h2H16 hkH16 (by decide)).2.1 1894 (by decide) (by decide)], fun x hx => by rw [show H37.1 1880 = H34.1 1880 from (mv_fr h2H37 hkH37 (by decide)).2.1 1880 (by decide) (by decide), show H34.1 1880 = H31.1 1880 from (mv_fr h2H34 hkH34 (by decide)).2.1 1880 (by decide) (by decide)]; rw [hcH31 x hx, show H28.1 1895 = H25.1 1895 from (mv_fr h2H28 hkH28 (by decide)).2.1 1895 (by decide) (by decide), show H25.1 1895 = H22.1 1895 from (mv_fr h2H25 hkH25 (by decide)).2.1 1895 (by decide) (by decide), show H22.1 1895 = H19.1 1895 from (mv_fr h2H22 hkH22 (by decide)).2.1 1895 (by decide) (by decide), show H19.1 1895 = H16.1 1895 from (mv_fr h2H19 hkH19 (by decide)).2.1 1895 (by decide) (by decide), show H16.1 1895 = H.1 1895 from (mv_fr h2H16 hkH16 (by decide)).2.1 1895 (by decide) (by decide)], fun x hx => by rw [show H37.1 1881 = H34.1 1881 from (mv_fr h2H37 hkH37 (by decide)).2.1 1881 (by decide) (by decide)]; rw [hcH34 x hx, show H31.1 1896 = H28.1 1896 from (mv_fr h2H31 hkH31 (by decide)).2.1 1896 (by decide) (by decide), show H28.1 1896 = H25.1 1896 from (mv_fr h2H28 hkH28 (by decide)).2.1 1896 (by decide) (by decide), show H25.1 1896 = H22.1 1896 from (mv_fr h2H25 hkH25 (by decide)).2.1 1896 (by decide) (by decide), show H22.1 1896 = H19.1 1896 from (mv_fr h2H22 hkH22 (by decide)).2.1 1896 (by decide) (by decide), show H19.1 1896 = H16.1 1896 from (mv_fr h2H19 hkH19 (by decide)).2.1 1896 (by decide) (by decide), show H16.1 1896 = H.1 1896 from (mv_fr h2H16 hkH16 (by decide)).2.1 1896 (by decide) (by decide)], fun x hx => by rw [hcH37 x hx, show H34.1 1897 = H31.1 1897 from (mv_fr h2H34 hkH34 (by decide)).2.1 1897 (by decide) (by decide), show H31.1 1897 = H28.1 1897 from (mv_fr h2H31 hkH31 (by decide)).2.1 1897 (by decide) (by decide), show H28.1 1897 = H25.1 1897 from (mv_fr h2H28 hkH28 (by decide)).2.1 1897 (by decide) (by decide), show H25.1 1897 = H22.1 1897 from (mv_fr h2H25 hkH25 (by decide)).2.1 1897 (by decide) (by decide), show H22.1 1897 = H19.1 1897 from (mv_fr h2H22 hkH22 (by decide)).2.1 1897 (by decide) (by decide), show H19.1 1897 = H16.1 1897 from (mv_fr h2H19 hkH19 (by decide)).2.1 1897 (by decide) (by decide), show H16.1 1897 = H.1 1897 from (mv_fr h2H16 hkH16 (by decide)).2.1 1897 (by decide) (by decide)]⟩ (by omega) (fun x hx => absurd hx (Nat.not_lt_zero _)) (Nat.lt_succ_self _)

/-! search -/
set_option maxRecDepth 100000 in
theorem m_search_cut {zC : Nat → Option zsh} {d : Nat} (hd : 9 ≤ d) {H : hp} {n : Nat} {x : Int} (hS : SI H n) (hx : -2147483648 ≤ x ∧ x ≤ 2147483647) : ∀ w : Nat, (∀ (H1 : hp) (i : Nat), (fr [50, 51, 53, 76, 77, 89, 93, 95, 97, 99, 101, 112, 113, 114] [1847, 1852, 1853, 1855, 1856, 1871, 1872, 1873, 1874, 1875, 1876, 1877, 1878, 1879, 1880, 1881, 1882, 1883, 1884, 1885, 1886, 1887, 1888, 1889, 1890, 1891, 1892, 1893, 1894, 1895, 1896, 1897, 1898] H H1) → (PF2 H1) → (KK H H1) → (x ≤ 500 ∧ i ≤ 500) → 1000 - i < w → hG (zs zC) d mt_266 31 [(0, .inr (.inr 1826)), (1, .inl x), (2, .inl (i : Int))] [] H1 (fun r9 H2 => fr [50, 51, 53, 76, 77, 89, 93, 95, 97, 99, 101, 112, 113, 114] [1847, 1852, 1853, 1855, 1856, 1871, 1872, 1873, 1874, 1875, 1876, 1877, 1878, 1879, 1880, 1881, 1882, 1883, 1884, 1885, 1886, 1887, 1888, 1889, 1890, 1891, 1892, 1893, 1894, 1895, 1896, 1897, 1898] H H2 ∧ PF2 H2 ∧ ∃ r0 : Int, r9 = some (.inl r0))) := by
  intro w
  induction w with
  | zero => exact fun _ _ _ _ _ _ h => absurd h (Nat.not_lt_zero _)
  | succ w ih =>
    intro H1 i hf hPF hKK hx5 hw
    refine h_rng (fun hrg1 => ?_)
    refine h_run 2 (pc' := 35) (l' := [(0, .inr (.inr 1826)), (1, .inl x), (2, .inl (i : Int))]) (st' := [.inl (H1.1 1826 77)]) rfl ?_
    have g2 : -2147483648 ≤ (H1.1 1826 77) ∧ (H1.1 1826 77) ≤ 2147483647 := hrg1.1 1826 13 77 _ .int rfl rfl
    refine h_zle (off := 21) (t := 56) rfl rfl (by omega) (fun c3 => ?_) (fun c3 => ?_)
    · refine h_run 2 (pc' := 60) (l' := [(0, .inr (.inr 1826)), (1, .inl x), (2, .inl (i : Int))]) (st' := [.inl (H1.1 1826 77)]) rfl ?_
      refine h_zle (off := 9) (t := 69) rfl rfl (by omega) (fun c4 => ?_) (fun c4 => ?_)
      · refine h_run 1 (pc' := 70) (l' := [(0, .inr (.inr 1826)), (1, .inl x), (2, .inl (i : Int))]) (st' := [.inl (i : Int)]) rfl ?_
        refine h_reti (x := (i : Int)) rfl rfl ?_
        exact ⟨hf, hPF, _, rfl⟩
      · exfalso
        omega
    · refine h_run 2 (pc' := 40) (l' := [(0, .inr (.inr 1826)), (1, .inl x), (2, .inl (i : Int))]) (st' := [.inl x, .inl (i : Int)]) rfl ?_
      refine h_ige (off := 16) (t := 56) rfl rfl (by omega) (by omega) (fun c5 => ?_) (fun c5 => ?_)
      · refine h_run 2 (pc' := 60) (l' := [(0, .inr (.inr 1826)), (1, .inl x), (2, .inl (i : Int))]) (st' := [.inl (H1.1 1826 77)]) rfl ?_
        refine h_zle (off := 9) (t := 69) rfl rfl (by omega) (fun c6 => ?_) (fun c6 => ?_)
        · exfalso
          omega
        · have hKx := hKK
          have hko9 : 0 ≤ (H1.1 1897) 0 ∧ (H1.1 1897) 0 < 40 := by obtain ⟨o, oa, ol, -⟩ := hS.2.1.2.1 0 (by have := hS.2.1.1; omega); rw [hKx.1.2.2.2.2.2 0 (by decide)]; omega
          refine h_run 1 (pc' := 64) (l' := [(0, .inr (.inr 1826)), (1, .inl x), (2, .inl (i : Int))]) (st' := [.inr (.inr 1826)]) rfl ?_
          refine h_cv (i := 675) (j := 265) (b := 1826) (M' := mt_265) (xs := []) (rest := []) rfl rfl rfl rfl rfl rfl (Nat.le_of_ble_eq_true rfl) (Nat.le_of_ble_eq_true rfl) (by omega) (m_restore (by omega) hko9) ?_
          rintro _ H7 ⟨rfl, hfH7, hrH7⟩
          refine h_rng (fun hrg8 => ?_)
          have hf9 : fr [50, 51, 53, 76, 77, 89, 93, 95, 97, 99, 101, 112, 113, 114] [1847, 1852, 1853, 1855, 1856, 1871, 1872, 1873, 1874, 1875, 1876, 1877, 1878, 1879, 1880, 1881, 1882, 1883, 1884, 1885, 1886, 1887, 1888, 1889, 1890, 1891, 1892, 1893, 1894, 1895, 1896, 1897, 1898] H H7 := fr_t hf hfH7 (by decide) (by decide)
          refine h_run 0 (pc' := 67) (l' := [(0, .inr (.inr 1826)), (1, .inl x), (2, .inl (i : Int))]) (st' := []) rfl ?_
          refine h_run 1 (pc' := 68) (l' := [(0, .inr (.inr 1826)), (1, .inl x), (2, .inl (i : Int))]) (st' := [.inl 0]) rfl ?_
          refine h_reti (x := 0) rfl rfl ?_
          have hOL : OS H H7 n := OS_rest hS.2.1 hKx hrH7
          have hoL : (H7.1 1871) 0 = (H.1 1871) 0 := (hrH7.1.2.2.2.2.2 0 (by decide)).trans (hKx.1.2.2.2.2.2 0 (by decide))
          obtain ⟨o, oa, ol, -⟩ := hS.2.1.2.1 0 (by have := hS.2.1.1; omega)
          refine ⟨hf9, ⟨PWc_fr hS.1 hf9 (by decide) (by decide), by rw [hoL]; omega, by rw [show (H7.1 1826 89) = (H.1 1826 89) from hrH7.2.2.2.trans hKx.2.2.2]; exact hS.2.2.1, by rw [show (H7.1 1826 74) = (H.1 1826 74) from hf9.2.2 74 (by decide)]; exact hS.2.2.2.1, ?_, n, hOL.1.1, Or.inr (OS_P (sP_fr2 hf9 (by decide) (by decide)) hOL)⟩, _, rfl⟩
          exact ((hfH7.2.2 97 (by decide)).trans hPF.2.2.2.2.1)
      · obtain ⟨n1, hn1, hn2⟩ := hPF.2.2.2.2.2
        have hS1 : SI H1 n1 := ⟨hPF.1, by rcases hn2 with q | q; { omega }; { exact q }, hPF.2.2.1, hPF.2.2.2.1, hPF.2.2.2.2.1⟩
        refine h_run 1 (pc' := 44) (l' := [(0, .inr (.inr 1826)), (1, .inl x), (2, .inl (i : Int))]) (st' := [.inr (.inr 1826)]) rfl ?_
        refine h_cv (i := 672) (j := 267) (b := 1826) (M' := mt_267) (xs := []) (rest := []) rfl rfl rfl rfl rfl rfl (Nat.le_of_ble_eq_true rfl) (Nat.le_of_ble_eq_true rfl) (by omega) (m_hasStep (n := n1) (by omega) hS1) ?_
        rintro _ H10 ⟨hfH10, hPFH10, (rfl | rfl)⟩
        · refine h_rng (fun hrg11 => ?_)
          have hf12 : fr [50, 51, 53, 76, 77, 89, 93, 95, 97, 99, 101, 112, 113, 114] [1847, 1852, 1853, 1855, 1856, 1871, 1872, 1873, 1874, 1875, 1876, 1877, 1878, 1879, 1880, 1881, 1882, 1883, 1884, 1885, 1886, 1887, 1888, 1889, 1890, 1891, 1892, 1893, 1894, 1895, 1896, 1897, 1898] H H10 := fr_t hf hfH10 (by decide) (by decide)
          refine h_run 0 (pc' := 47) (l' := [(0, .inr (.inr 1826)), (1, .inl x), (2, .inl (i : Int))]) (st' := [.inl 0]) rfl ?_
          refine h_zeq (off := 9) (t := 56) rfl rfl (by decide) (fun _ => ?_) (fun c => absurd c (by decide))
          refine h_run 2 (pc' := 60) (l' := [(0, .inr (.inr 1826)), (1, .inl x), (2, .inl (i : Int))]) (st' := [.inl (H10.1 1826 77)]) rfl ?_
          have g13 : -2147483648 ≤ (H10.1 1826 77) ∧ (H10.1 1826 77) ≤ 2147483647 := hrg11.1 1826 13 77 _ .int rfl rfl
          refine h_zle (off := 9) (t := 69) rfl rfl (by omega) (fun c14 => ?_) (fun c14 => ?_)
          · refine h_run 1 (pc' := 70) (l' := [(0, .inr (.inr 1826)), (1, .inl x), (2, .inl (i : Int))]) (st' := [.inl (i : Int)]) rfl ?_
            refine h_reti (x := (i : Int)) rfl rfl ?_
            exact ⟨hf12, hPFH10, _, rfl⟩
          · have hKx : KK H H10 := KK_fr hKK hfH10 (by decide) (by decide)
            have hko9 : 0 ≤ (H10.1 1897) 0 ∧ (H10.1 1897) 0 < 40 := by obtain ⟨o, oa, ol, -⟩ := hS.2.1.2.1 0 (by have := hS.2.1.1; omega); rw [hKx.1.2.2.2.2.2 0 (by decide)]; omega
            refine h_run 1 (pc' := 64) (l' := [(0, .inr (.inr 1826)), (1, .inl x), (2, .inl (i : Int))]) (st' := [.inr (.inr 1826)]) rfl ?_
            refine h_cv (i := 675) (j := 265) (b := 1826) (M' := mt_265) (xs := []) (rest := []) rfl rfl rfl rfl rfl rfl (Nat.le_of_ble_eq_true rfl) (Nat.le_of_ble_eq_true rfl) (by omega) (m_restore (by omega) hko9) ?_
            rintro _ H15 ⟨rfl, hfH15, hrH15⟩
            refine h_rng (fun hrg16 => ?_)
            have hf17 : fr [50, 51, 53, 76, 77, 89, 93, 95, 97, 99, 101, 112, 113, 114] [1847, 1852, 1853, 1855, 1856, 1871, 1872, 1873, 1874, 1875, 1876, 1877, 1878, 1879, 1880, 1881, 1882, 1883, 1884, 1885, 1886, 1887, 1888, 1889, 1890, 1891, 1892, 1893, 1894, 1895, 1896, 1897, 1898] H H15 := fr_t hf12 hfH15 (by decide) (by decide)
            refine h_run 0 (pc' := 67) (l' := [(0, .inr (.inr 1826)), (1, .inl x), (2, .inl (i : Int))]) (st' := []) rfl ?_
            refine h_run 1 (pc' := 68) (l' := [(0, .inr (.inr 1826)), (1, .inl x), (2, .inl (i : Int))]) (st' := [.inl 0]) rfl ?_
            refine h_reti (x := 0) rfl rfl ?_
            have hOL : OS H H15 n := OS_rest hS.2.1 hKx hrH15
            have hoL : (H15.1 1871) 0 = (H.1 1871) 0 := (hrH15.1.2.2.2.2.2 0 (by decide)).trans (hKx.1.2.2.2.2.2 0 (by decide))
            obtain ⟨o, oa, ol, -⟩ := hS.2.1.2.1 0 (by have := hS.2.1.1; omega)
            refine ⟨hf17, ⟨PWc_fr hS.1 hf17 (by decide) (by decide), by rw [hoL]; omega, by rw [show (H15.1 1826 89) = (H.1 1826 89) from hrH15.2.2.2.trans hKx.2.2.2]; exact hS.2.2.1, by rw [show (H15.1 1826 74) = (H.1 1826 74) from hf17.2.2 74 (by decide)]; exact hS.2.2.2.1, ?_, n, hOL.1.1, Or.inr (OS_P (sP_fr2 hf17 (by decide) (by decide)) hOL)⟩, _, rfl⟩
            exact ((hfH15.2.2 97 (by decide)).trans hPFH10.2.2.2.2.1)
        · refine h_rng (fun hrg18 => ?_)
          have hf19 : fr [50, 51, 53, 76, 77, 89, 93, 95, 97, 99, 101, 112, 113, 114] [1847, 1852, 1853, 1855, 1856, 1871, 1872, 1873, 1874, 1875, 1876, 1877, 1878, 1879, 1880, 1881, 1882, 1883, 1884, 1885, 1886, 1887, 1888, 1889, 1890, 1891, 1892, 1893, 1894, 1895, 1896, 1897, 1898] H H10 := fr_t hf hfH10 (by decide) (by decide)
          refine h_run 0 (pc' := 47) (l' := [(0, .inr (.inr 1826)), (1, .inl x), (2, .inl (i : Int))]) (st' := [.inl 1]) rfl ?_
          refine h_zeq (off := 9) (t := 56) rfl rfl (by decide) (fun c => absurd c (by decide)) (fun _ => ?_)
          refine h_run 2 (pc' := 31) (l' := [(0, .inr (.inr 1826)), (1, .inl x), (2, .inl ((i : Int) + 1))]) (st' := []) rfl ?_
          rw [show ((i : Int) + 1) = (((i + 1) : Nat) : Int) by omega]
          exact ih _ (i + 1) hf19 hPFH10 (KK_fr hKK hfH10 (by decide) (by decide)) (by omega) (by omega : 1000 - (i + 1) < w)
set_option maxRecDepth 100000 in
theorem m_search {zC : Nat → Option zsh} {d : Nat} (hd : 9 ≤ d) {H : hp} {n : Nat} {x : Int} (hS : SI H n) (hx : -2147483648 ≤ x ∧ x ≤ 2147483647) : hG (zs zC) d mt_266 0 (zargs 0 [.inr (.inr 1826), .inl x]) [] H (fun r9 H2 => fr [50, 51, 53, 76, 77, 89, 93, 95, 97, 99, 101, 112, 113, 114] [1847, 1852, 1853, 1855, 1856, 1871, 1872, 1873, 1874, 1875, 1876, 1877, 1878, 1879, 1880, 1881, 1882, 1883, 1884, 1885, 1886, 1887, 1888, 1889, 1890, 1891, 1892, 1893, 1894, 1895, 1896, 1897, 1898] H H2 ∧ PF2 H2 ∧ ∃ r0 : Int, r9 = some (.inl r0)) := by
  refine h_rng (fun hrg0 => ?_)
  refine h_run 0 (pc' := 0) (l' := [(0, .inr (.inr 1826)), (1, .inl x)]) (st' := []) rfl ?_
  refine h_run 2 (pc' := 2) (l' := [(0, .inr (.inr 1826)), (1, .inl x)]) (st' := [.inl 1, .inl x]) rfl ?_
  refine h_ilt (off := 10) (t := 12) rfl rfl (by omega) (by decide) (fun c20 => ?_) (fun c20 => ?_)
  · refine h_run 1 (pc' := 14) (l' := [(0, .inr (.inr 1826)), (1, .inl x)]) (st' := [.inl (-102)]) rfl ?_
    refine h_reti (x := (-102)) rfl rfl ?_
    exact ⟨(fr_rf _ _ _), SI_PF hS, _, rfl⟩
  · refine h_run 2 (pc' := 9) (l' := [(0, .inr (.inr 1826)), (1, .inl x)]) (st' := [.inl 500, .inl x]) rfl ?_
    refine h_ile (off := 6) (t := 15) rfl rfl (by omega) (by decide) (fun c21 => ?_) (fun c21 => ?_)
    · refine h_run 1 (pc' := 16) (l' := [(0, .inr (.inr 1826)), (1, .inl x)]) (st' := [.inr (.inr 1826)]) rfl ?_
      have g22 : -2147483648 ≤ (H.1 1826 77) ∧ (H.1 1826 77) ≤ 2147483647 := hrg0.1 1826 13 77 _ .int rfl rfl
      refine h_cv (i := 563) (j := 235) (b := 1826) (M' := mt_235) (xs := []) (rest := []) rfl rfl rfl rfl rfl rfl (Nat.le_of_ble_eq_true rfl) (Nat.le_of_ble_eq_true rfl) (by omega) (m_idle (by omega)) ?_
      rintro _ _ ⟨⟨rfl, b23⟩ | ⟨rfl, b23⟩, rfl⟩
      · have b23x : (H.1 1826 77) = 0 := b23
        refine h_run 0 (pc' := 19) (l' := [(0, .inr (.inr 1826)), (1, .inl x)]) (st' := [.inl 1]) rfl ?_
        refine h_zeq (off := 6) (t := 25) rfl rfl (by decide) (fun c => absurd c (by decide)) (fun _ => ?_)
        refine h_run 1 (pc' := 24) (l' := [(0, .inr (.inr 1826)), (1, .inl x)]) (st' := [.inl (-103)]) rfl ?_
        refine h_reti (x := (-103)) rfl rfl ?_
        exact ⟨(fr_rf _ _ _), SI_PF hS, _, rfl⟩
      · have b23x : (H.1 1826 77) ≠ 0 := b23
        refine h_run 0 (pc' := 19) (l' := [(0, .inr (.inr 1826)), (1, .inl x)]) (st' := [.inl 0]) rfl ?_
        refine h_zeq (off := 6) (t := 25) rfl rfl (by decide) (fun _ => ?_) (fun c => absurd c (by decide))
        refine h_run 1 (pc' := 26) (l' := [(0, .inr (.inr 1826)), (1, .inl x)]) (st' := [.inr (.inr 1826)]) rfl ?_
        refine h_cv (i := 669) (j := 264) (b := 1826) (M' := mt_264) (xs := []) (rest := []) rfl rfl rfl rfl rfl rfl (Nat.le_of_ble_eq_true rfl) (Nat.le_of_ble_eq_true rfl) (by omega) (m_save (by omega)) ?_
        rintro _ H24 ⟨rfl, hfH24, hkH24⟩
        refine h_rng (fun hrg25 => ?_)
        have hf26 : fr [50, 51, 53, 76, 77, 89, 93, 95, 97, 99, 101, 112, 113, 114] [1847, 1852, 1853, 1855, 1856, 1871, 1872, 1873, 1874, 1875, 1876, 1877, 1878, 1879, 1880, 1881, 1882, 1883, 1884, 1885, 1886, 1887, 1888, 1889, 1890, 1891, 1892, 1893, 1894, 1895, 1896, 1897, 1898] H H24 := fr_t (fr_rf _ _ _) hfH24 (by decide) (by decide)
        have hSH24 : SI H24 n := SI_k hS hfH24 (by decide) (by decide) (by decide) (OS_fr hS.2.1 hfH24 (by decide) (by decide) (by decide)) ((hfH24.2.2 97 (by decide)).trans hS.2.2.2.2)
        refine h_run 0 (pc' := 29) (l' := [(0, .inr (.inr 1826)), (1, .inl x)]) (st' := []) rfl ?_
        refine h_run 2 (pc' := 31) (l' := [(0, .inr (.inr 1826)), (1, .inl x), (2, .inl 0)]) (st' := []) rfl ?_
        exact (m_search_cut hd hS hx _) _ 0 hf26 (SI_PF hSH24) hkH24 (by omega) (Nat.lt_succ_self _)
    · refine h_run 1 (pc' := 14) (l' := [(0, .inr (.inr 1826)), (1, .inl x)]) (st' := [.inl (-102)]) rfl ?_
      refine h_reti (x := (-102)) rfl rfl ?_
      exact ⟨(fr_rf _ _ _), SI_PF hS, _, rfl⟩
