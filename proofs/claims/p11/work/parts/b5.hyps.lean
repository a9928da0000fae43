/-! the reference: hypotheses of a fresh goal -/
theorem tm_okf {P : hp} {ar : Int → Int} {a : Nat → Int} {k i n : Nat} (h : tm ar (m_sg (P.1 1826 3) (P.1 1826 8) 60) a k i n) : tm ar (okf P) a k i n := tm_mono h (fun _ _ _ q => ⟨rfl, Or.inl q, rfl⟩)
theorem tm_var {fA cA : Nat → Int} {ok ok' : Int → Prop} {a b : Nat → Int} (hok : ∀ s, ok s → s < 1000 → ok' s) : ∀ {k i j n : Nat}, tm (ma fA cA) ok a k i n → (∀ x, x < k → (a (i + x) < 1000 ∧ b (j + x) = a (i + x)) ∨ (1000 ≤ a (i + x) ∧ 1000 ≤ b (j + x) ∧ ok' (b (j + x)))) → tm (ma fA cA) ok' b k j n
  | 0, _, _, _, h, _ => h
  | k + 1, i, j, n, h, g => by
    obtain ⟨h0, h1, m, h2, h3, h4⟩ := h
    have r : tm (ma fA cA) ok' b k (j + 1) (n - 1 + m) := tm_var hok h4 (fun x hx => by
      have := g (x + 1) (by omega)
      rw [show i + 1 + x = i + (x + 1) by omega, show j + 1 + x = j + (x + 1) by omega]
      exact this)
    rcases g 0 (by omega) with ⟨q1, q2⟩ | ⟨q1, q2, q3⟩
    · rw [Nat.add_zero] at q1
      have q2 : b j = a i := q2
      exact ⟨h0, by rw [q2]; exact hok _ h1 q1, m, by rw [q2]; exact h2, h3, r⟩
    · rw [Nat.add_zero] at q1
      have q2 : 1000 ≤ b j := q2
      have hm : m = 0 := by
        rw [ma_0 (Or.inl q1)] at h2
        omega
      exact ⟨h0, q3, m, by rw [ma_0 (Or.inl q2), hm]; rfl, h3, r⟩
/-- one place of the hypotheses' sizes, of their signs, of slot g -/
theorem sH_uz {H : hp} {g a : Nat} (z : Int) (ha : 16 * g ≤ a ∧ a < 16 * g + 16) : ∀ x, x ≠ g → sH H (zu H 1881 (up (H.1 1881) a z)) x := fun x hx => ⟨rfl, fun y hy => (show up (H.1 1881) a z (16 * x + y) = _ from up_ne _ _ (by omega)), fun y hy => rfl⟩
theorem sH_uy {H : hp} {g a : Nat} (z : Int) (ha : 1024 * g ≤ a ∧ a < 1024 * g + 1024) : ∀ x, x ≠ g → sH H (zu H 1880 (up (H.1 1880) a z)) x := fun x hx => ⟨rfl, fun y hy => rfl, fun y hy => (show up (H.1 1880) a z (1024 * x + y) = _ from up_ne _ _ (by omega))⟩
theorem sH_un {H : hp} {g : Nat} (z : Int) : ∀ x, x ≠ g → sH H (zu H 1879 (up (H.1 1879) g z)) x := fun x hx => ⟨(show up (H.1 1879) g z x = _ from up_ne _ _ hx), fun y hy => rfl, fun y hy => rfl⟩

/-! isHypsPut -/
set_option maxRecDepth 100000 in
theorem m_isHypsPut_cut {zC : Nat → Option zsh} {d : Nat} (hd : 2 ≤ d) {H : hp} {P : hp} {g v n sn : Nat} (hPH : sP P H) (hgv : g < 40 ∧ v < 60) (hn : (H.1 1879) g = (n : Int) ∧ n ≤ 8) (hh : ∀ h, h < 2 * n → hOK P H (16 * g + h)) (hsn : (H.1 1826 99) = (sn : Int) ∧ sn ≤ 4) (hst : tm (ma (P.1 1833) (P.1 1830)) (m_sg (P.1 1826 3) (P.1 1826 8) 60) (H.1 1887) sn 0 1) : ∀ w : Nat, (∀ (H1 : hp) (b : Nat) (h : Nat), (fr [53] [1856, 1880, 1881] H H1) → (b ≤ 1) → (h ≤ 2 * n) → (∀ x, x ≠ g → sH H H1 x) → (hid (b = 1 → ∀ x, x < 2 * n → hOK P H1 (16 * g + x))) → 1000 * (100 - h) + 500 < w → hG (zs zC) d mt_251 5 [(0, .inr (.inr 1826)), (1, .inl (g : Int)), (2, .inl (v : Int)), (3, .inl (b : Int)), (4, .inl (h : Int))] [] H1 (fun r9 H2 => fr [53] [1856, 1880, 1881] H H2 ∧ (∀ x, x ≠ g → sH H H2 x) ∧ (r9 = some (.inl 0) ∨ (r9 = some (.inl 1) ∧ hysOK P H2 g)))) ∧ (∀ (H1 : hp) (b : Nat) (h : Nat) (a : Nat) (k : Nat) (M : Nat), (fr [53] [1856, 1880, 1881] H H1) → (b ≤ 1) → (h < 2 * n ∧ a = 16 * g + h) → (∀ x, x ≠ g → sH H H1 x) → ((H1.1 1826 53) = (M : Int) ∧ M ≤ 256) → (b = 1 → M ≤ 60) → (tm (ma (P.1 1833) (P.1 1830)) (okf P) (H1.1 1856) M 0 1) → (k ≤ M) → (hid (b = 1 → ∀ x, x < 2 * n → x ≠ h → hOK P H1 (16 * g + x))) → (∀ x, x < k → (H1.1 1880) (64 * a + x) = (H1.1 1856) x) → 1000 * (100 - h) + (400 - k) < w → hG (zs zC) d mt_251 74 [(0, .inr (.inr 1826)), (1, .inl (g : Int)), (2, .inl (v : Int)), (3, .inl (b : Int)), (4, .inl (h : Int)), (5, .inl (a : Int)), (6, .inl (k : Int))] [] H1 (fun r9 H2 => fr [53] [1856, 1880, 1881] H H2 ∧ (∀ x, x ≠ g → sH H H2 x) ∧ (r9 = some (.inl 0) ∨ (r9 = some (.inl 1) ∧ hysOK P H2 g)))) := by
  intro w
  induction w with
  | zero => exact ⟨fun _ _ _ _ _ _ _ _ h => absurd h (Nat.not_lt_zero _), fun _ _ _ _ _ _ _ _ _ _ _ _ _ _ _ _ h => absurd h (Nat.not_lt_zero _)⟩
  | succ w ih =>
    refine ⟨?_, ?_⟩
    · intro H1 b h hf hb hh2 ho hk hw
      refine h_rng (fun hrg1 => ?_)
      have hQ := sP_fr hPH hf (by decide) (by decide)
      have e_st : (H1.1 1887) = (H.1 1887) := hf.2.1 1887 (by decide) (by decide)
      have f_ss : (H1.1 1826 99) = (H.1 1826 99) := hf.2.2 99 (by decide)
      have hy1 : (H1.1 1879) g = (H.1 1879) g := congrFun (hf.2.1 1879 (by decide) (by decide)) g
      refine h_run 5 (pc' := 13) (l' := [(0, .inr (.inr 1826)), (1, .inl (g : Int)), (2, .inl (v : Int)), (3, .inl (b : Int)), (4, .inl (h : Int))]) (st' := [.inl (g : Int), .inr (.inr 1879), .inl 2, .inl (h : Int)]) rfl ?_
      refine h_ild (c := 1879) (j := g) (i := (g : Int)) rfl rfl (by decide) rfl (by omega) ?_
      have g2 : -2147483648 ≤ (H1.1 1879 g) ∧ (H1.1 1879 g) ≤ 2147483647 := hrg1.2 1879 g 40 .int rfl (by omega)
      have e3 : (H1.1 1879 g) = (H.1 1879 g) := congrFun (hf.2.1 1879 (by decide) (by decide)) g
      refine h_run 0 (pc' := 14) (l' := [(0, .inr (.inr 1826)), (1, .inl (g : Int)), (2, .inl (v : Int)), (3, .inl (b : Int)), (4, .inl (h : Int))]) (st' := [.inl (H1.1 1879 g), .inl 2, .inl (h : Int)]) rfl ?_
      refine h_run 1 (pc' := 15) (l' := [(0, .inr (.inr 1826)), (1, .inl (g : Int)), (2, .inl (v : Int)), (3, .inl (b : Int)), (4, .inl (h : Int))]) (st' := [.inl (2 * (H1.1 1879 g)), .inl (h : Int)]) rfl ?_
      refine h_ige (off := 115) (t := 130) rfl rfl (by omega) (by omega) (fun c4 => ?_) (fun c4 => ?_)
      · refine h_run 1 (pc' := 131) (l' := [(0, .inr (.inr 1826)), (1, .inl (g : Int)), (2, .inl (v : Int)), (3, .inl (b : Int)), (4, .inl (h : Int))]) (st' := [.inl (b : Int)]) rfl ?_
        refine h_retz (x := (b : Int)) rfl rfl (by first | omega | decide) ?_
        refine ⟨hf, ho, ?_⟩
        rcases (show b = 0 ∨ b = 1 by omega) with rfl | rfl
        · exact Or.inl rfl
        · exact Or.inr ⟨rfl, n, hy1.trans hn.1, hn.2, hk rfl⟩
      · refine h_run 1 (pc' := 19) (l' := [(0, .inr (.inr 1826)), (1, .inl (g : Int)), (2, .inl (v : Int)), (3, .inl (b : Int)), (4, .inl (h : Int))]) (st' := [.inl (b : Int)]) rfl ?_
        refine h_zeq (off := 111) (t := 130) rfl rfl (by omega) (fun c5 => ?_) (fun c5 => ?_)
        · refine h_run 1 (pc' := 131) (l' := [(0, .inr (.inr 1826)), (1, .inl (g : Int)), (2, .inl (v : Int)), (3, .inl (b : Int)), (4, .inl (h : Int))]) (st' := [.inl (b : Int)]) rfl ?_
          refine h_retz (x := (b : Int)) rfl rfl (by first | omega | decide) ?_
          refine ⟨hf, ho, ?_⟩
          rcases (show b = 0 ∨ b = 1 by omega) with rfl | rfl
          · exact Or.inl rfl
          · exact Or.inr ⟨rfl, n, hy1.trans hn.1, hn.2, hk rfl⟩
        · obtain ⟨kk, e1, e2, e3⟩ := hk (by omega) h (by omega)
          refine h_run 15 (pc' := 47) (l' := [(0, .inr (.inr 1826)), (1, .inl (g : Int)), (2, .inl (v : Int)), (3, .inl (b : Int)), (4, .inl (h : Int)), (5, .inl ((16 * (g : Int)) + (h : Int)))]) (st' := [.inl ((16 * (g : Int)) + (h : Int)), .inr (.inr 1881), .inl (64 * ((16 * (g : Int)) + (h : Int))), .inr (.inr 1880), .inr (.inr 1826)]) rfl ?_
          refine h_ild (c := 1881) (j := ((16 * g) + h)) (i := ((16 * (g : Int)) + (h : Int))) rfl rfl (by decide) (by omega) (by omega) ?_
          have g6 : -2147483648 ≤ (H1.1 1881 ((16 * g) + h)) ∧ (H1.1 1881 ((16 * g) + h)) ≤ 2147483647 := hrg1.2 1881 ((16 * g) + h) 640 .int rfl (by omega)
          refine h_run 0 (pc' := 48) (l' := [(0, .inr (.inr 1826)), (1, .inl (g : Int)), (2, .inl (v : Int)), (3, .inl (b : Int)), (4, .inl (h : Int)), (5, .inl ((16 * (g : Int)) + (h : Int)))]) (st' := [.inl (H1.1 1881 ((16 * g) + h)), .inl (64 * ((16 * (g : Int)) + (h : Int))), .inr (.inr 1880), .inr (.inr 1826)]) rfl ?_
          rw [show (H1.1 1881 ((16 * g) + h)) = (kk : Int) by omega]
          refine h_run 3 (pc' := 53) (l' := [(0, .inr (.inr 1826)), (1, .inl (g : Int)), (2, .inl (v : Int)), (3, .inl (b : Int)), (4, .inl (h : Int)), (5, .inl ((16 * (g : Int)) + (h : Int)))]) (st' := [.inl (1000 + (v : Int)), .inl (kk : Int), .inl (64 * ((16 * (g : Int)) + (h : Int))), .inr (.inr 1880), .inr (.inr 1826)]) rfl ?_
          refine h_cv (i := 607) (j := 248) (b := 1826) (M' := mt_248) (xs := [.inl (1000 + (v : Int)), .inl (kk : Int), .inl (64 * ((16 * (g : Int)) + (h : Int))), .inr (.inr 1880)]) (rest := []) rfl rfl rfl rfl rfl rfl (Nat.le_of_ble_eq_true rfl) (Nat.le_of_ble_eq_true rfl) (by omega) (m_putIn (ok := (okf P)) (sn := sn) (by omega) rfl (by decide) (by decide) (by rw [hQ.1, hQ.2.1]; exact e3) (show 64 * (16 * g + h) + kk ≤ 40960 ∧ kk ≤ 64 by omega) ⟨by omega, hsn.2⟩ (by rw [hQ.1, hQ.2.1, e_st]; exact tm_okf hst) (by omega)) ?_
          rintro _ H7 ⟨rfl, hfH7, MH7, hmH7, hlH7, htH7⟩
          refine h_rng (fun hrg8 => ?_)
          have hf9 : fr [53] [1856, 1880, 1881] H H7 := fr_t hf hfH7 (by decide) (by decide)
          refine h_run 0 (pc' := 56) (l' := [(0, .inr (.inr 1826)), (1, .inl (g : Int)), (2, .inl (v : Int)), (3, .inl (b : Int)), (4, .inl (h : Int)), (5, .inl ((16 * (g : Int)) + (h : Int)))]) (st' := []) rfl ?_
          have g10 : -2147483648 ≤ (H7.1 1826 53) ∧ (H7.1 1826 53) ≤ 2147483647 := hrg8.1 1826 13 53 _ .int rfl rfl
          refine h_run 2 (pc' := 60) (l' := [(0, .inr (.inr 1826)), (1, .inl (g : Int)), (2, .inl (v : Int)), (3, .inl (b : Int)), (4, .inl (h : Int)), (5, .inl ((16 * (g : Int)) + (h : Int)))]) (st' := [.inl (H7.1 1826 53)]) rfl ?_
          refine h_run 1 (pc' := 62) (l' := [(0, .inr (.inr 1826)), (1, .inl (g : Int)), (2, .inl (v : Int)), (3, .inl (b : Int)), (4, .inl (h : Int)), (5, .inl ((16 * (g : Int)) + (h : Int)))]) (st' := [.inl 60, .inl (H7.1 1826 53)]) rfl ?_
          refine h_igt (off := 7) (t := 69) rfl rfl (by omega) (by decide) (fun c11 => ?_) (fun c11 => ?_)
          · refine h_run 4 (pc' := 74) (l' := [(0, .inr (.inr 1826)), (1, .inl (g : Int)), (2, .inl (v : Int)), (3, .inl 0), (4, .inl (h : Int)), (5, .inl ((16 * (g : Int)) + (h : Int))), (6, .inl 0)]) (st' := []) rfl ?_
            rw [show ((16 * (g : Int)) + (h : Int)) = ((((16 * g) + h) : Nat) : Int) by omega]
            exact ih.2 _ 0 h ((16 * g) + h) 0 (MH7) hf9 (by omega) (by omega) (fun x hx => sH_tr (ho x hx) (sH_fr hfH7 (by decide) x)) ⟨hmH7, hlH7⟩ (fun q9 => absurd q9 (by decide)) (by have h9 := htH7; rw [hQ.1, hQ.2.1] at h9; exact h9) (by omega) (fun q9 => absurd q9 (by decide)) (fun x hx => absurd hx (Nat.not_lt_zero _)) (by omega : 1000 * (100 - h) + (400 - 0) < w)
          · refine h_run 5 (pc' := 74) (l' := [(0, .inr (.inr 1826)), (1, .inl (g : Int)), (2, .inl (v : Int)), (3, .inl 1), (4, .inl (h : Int)), (5, .inl ((16 * (g : Int)) + (h : Int))), (6, .inl 0)]) (st' := []) rfl ?_
            rw [show ((16 * (g : Int)) + (h : Int)) = ((((16 * g) + h) : Nat) : Int) by omega]
            exact ih.2 _ 1 h ((16 * g) + h) 0 (MH7) hf9 (by omega) (by omega) (fun x hx => sH_tr (ho x hx) (sH_fr hfH7 (by decide) x)) ⟨hmH7, hlH7⟩ (fun _ => by omega) (by have h9 := htH7; rw [hQ.1, hQ.2.1] at h9; exact h9) (by omega) (fun _ x hx _ => hOK_k (hk (by omega) x hx) (congrFun (hfH7.2.1 1881 (by decide) (by decide)) _) (fun y hy => congrFun (hfH7.2.1 1880 (by decide) (by decide)) _)) (fun x hx => absurd hx (Nat.not_lt_zero _)) (by omega : 1000 * (100 - h) + (400 - 0) < w)
    · intro H1 b h a k M hf hb hh2 ho hM hbm htm hk2 hk hcp hw
      refine h_rng (fun hrg12 => ?_)
      refine h_run 3 (pc' := 80) (l' := [(0, .inr (.inr 1826)), (1, .inl (g : Int)), (2, .inl (v : Int)), (3, .inl (b : Int)), (4, .inl (h : Int)), (5, .inl (a : Int)), (6, .inl (k : Int))]) (st' := [.inl (H1.1 1826 53), .inl (k : Int)]) rfl ?_
      have g13 : -2147483648 ≤ (H1.1 1826 53) ∧ (H1.1 1826 53) ≤ 2147483647 := hrg12.1 1826 13 53 _ .int rfl rfl
      refine h_ige (off := 33) (t := 113) rfl rfl (by omega) (by omega) (fun c14 => ?_) (fun c14 => ?_)
      · refine h_run 5 (pc' := 123) (l' := [(0, .inr (.inr 1826)), (1, .inl (g : Int)), (2, .inl (v : Int)), (3, .inl (b : Int)), (4, .inl (h : Int)), (5, .inl (a : Int)), (6, .inl (k : Int))]) (st' := [.inl (H1.1 1826 53), .inl (a : Int), .inr (.inr 1881)]) rfl ?_
        refine h_ist (c := 1881) (j := a) (i := (a : Int)) (x := (H1.1 1826 53)) rfl rfl (by decide) (by decide) rfl (by omega) (by omega) ?_
        refine h_run 2 (pc' := 5) (l' := [(0, .inr (.inr 1826)), (1, .inl (g : Int)), (2, .inl (v : Int)), (3, .inl (b : Int)), (4, .inl ((h : Int) + 1)), (5, .inl (a : Int)), (6, .inl (k : Int))]) (st' := []) rfl ?_
        refine h_loc [0, 1, 2, 3, 4] rfl ?_
        rw [show ((h : Int) + 1) = (((h + 1) : Nat) : Int) by omega]
        exact ih.1 _ b (h + 1) (fr_a hf (by decide)) (by omega) (by omega) (fun x hx => sH_tr (ho x hx) (sH_uz _ (by omega) x hx)) (fun q9 x hx => by by_cases e9 : x = h; { rw [e9, ← hh2.2]; exact ⟨M, (show up (H1.1 1881) a (H1.1 1826 53) a = _ from (up_eq _ _ _).trans hM.1), hbm q9, tm_at htm (fun y hy => by rw [Nat.zero_add]; exact hcp y (by omega))⟩ }; { exact hOK_k (hk q9 x hx e9) (show up (H1.1 1881) a (H1.1 1826 53) (16 * g + x) = _ from up_ne _ _ (by omega)) (fun _ _ => rfl) }) (by omega : 1000 * (100 - (h + 1)) + 500 < w)
      · have hb60 : b = 1 → M ≤ 60 := hbm
        refine h_run 1 (pc' := 84) (l' := [(0, .inr (.inr 1826)), (1, .inl (g : Int)), (2, .inl (v : Int)), (3, .inl (b : Int)), (4, .inl (h : Int)), (5, .inl (a : Int)), (6, .inl (k : Int))]) (st' := [.inl (b : Int)]) rfl ?_
        refine h_zeq (off := 29) (t := 113) rfl rfl (by omega) (fun c15 => ?_) (fun c15 => ?_)
        · refine h_run 5 (pc' := 123) (l' := [(0, .inr (.inr 1826)), (1, .inl (g : Int)), (2, .inl (v : Int)), (3, .inl (b : Int)), (4, .inl (h : Int)), (5, .inl (a : Int)), (6, .inl (k : Int))]) (st' := [.inl (H1.1 1826 53), .inl (a : Int), .inr (.inr 1881)]) rfl ?_
          refine h_ist (c := 1881) (j := a) (i := (a : Int)) (x := (H1.1 1826 53)) rfl rfl (by decide) (by decide) rfl (by omega) (by omega) ?_
          refine h_run 2 (pc' := 5) (l' := [(0, .inr (.inr 1826)), (1, .inl (g : Int)), (2, .inl (v : Int)), (3, .inl (b : Int)), (4, .inl ((h : Int) + 1)), (5, .inl (a : Int)), (6, .inl (k : Int))]) (st' := []) rfl ?_
          refine h_loc [0, 1, 2, 3, 4] rfl ?_
          rw [show ((h : Int) + 1) = (((h + 1) : Nat) : Int) by omega]
          exact ih.1 _ b (h + 1) (fr_a hf (by decide)) (by omega) (by omega) (fun x hx => sH_tr (ho x hx) (sH_uz _ (by omega) x hx)) (fun q9 x hx => by by_cases e9 : x = h; { rw [e9, ← hh2.2]; exact ⟨M, (show up (H1.1 1881) a (H1.1 1826 53) a = _ from (up_eq _ _ _).trans hM.1), hbm q9, tm_at htm (fun y hy => by rw [Nat.zero_add]; exact hcp y (by omega))⟩ }; { exact hOK_k (hk q9 x hx e9) (show up (H1.1 1881) a (H1.1 1826 53) (16 * g + x) = _ from up_ne _ _ (by omega)) (fun _ _ => rfl) }) (by omega : 1000 * (100 - (h + 1)) + 500 < w)
        · refine h_run 10 (pc' := 105) (l' := [(0, .inr (.inr 1826)), (1, .inl (g : Int)), (2, .inl (v : Int)), (3, .inl (b : Int)), (4, .inl (h : Int)), (5, .inl (a : Int)), (6, .inl (k : Int))]) (st' := [.inl (k : Int), .inr (.inr 1856), .inl ((64 * (a : Int)) + (k : Int)), .inr (.inr 1880)]) rfl ?_
          refine h_ild (c := 1856) (j := k) (i := (k : Int)) rfl rfl (by decide) rfl (by omega) ?_
          have g16 : -2147483648 ≤ (H1.1 1856 k) ∧ (H1.1 1856 k) ≤ 2147483647 := hrg12.2 1856 k 12000 .int rfl (by omega)
          refine h_run 0 (pc' := 106) (l' := [(0, .inr (.inr 1826)), (1, .inl (g : Int)), (2, .inl (v : Int)), (3, .inl (b : Int)), (4, .inl (h : Int)), (5, .inl (a : Int)), (6, .inl (k : Int))]) (st' := [.inl (H1.1 1856 k), .inl ((64 * (a : Int)) + (k : Int)), .inr (.inr 1880)]) rfl ?_
          refine h_ist (c := 1880) (j := ((64 * a) + k)) (i := ((64 * (a : Int)) + (k : Int))) (x := (H1.1 1856 k)) rfl rfl (by decide) (by decide) (by omega) (by omega) (by omega) ?_
          refine h_run 2 (pc' := 74) (l' := [(0, .inr (.inr 1826)), (1, .inl (g : Int)), (2, .inl (v : Int)), (3, .inl (b : Int)), (4, .inl (h : Int)), (5, .inl (a : Int)), (6, .inl ((k : Int) + 1))]) (st' := []) rfl ?_
          rw [show ((k : Int) + 1) = (((k + 1) : Nat) : Int) by omega]
          exact ih.2 _ b h a (k + 1) (M) (fr_a hf (by decide)) (by omega) (by omega) (fun x hx => sH_tr (ho x hx) (sH_uy _ (by omega) x hx)) hM (fun _ => by omega) htm (by omega) (fun q9 x hx e9 => hOK_k (hk q9 x hx e9) rfl (fun y hy => (show up (H1.1 1880) (64 * a + k) ((H1.1 1856) k) (64 * (16 * g + x) + y) = _ from up_ne _ _ (by omega)))) (cp_up hcp : ∀ x, x < k + 1 → up (H1.1 1880) (64 * a + k) ((H1.1 1856) k) (64 * a + x) = (H1.1 1856) x) (by omega : 1000 * (100 - h) + (400 - (k + 1)) < w)
set_option maxRecDepth 100000 in
theorem m_isHypsPut {zC : Nat → Option zsh} {d : Nat} (hd : 2 ≤ d) {H : hp} {P : hp} {g v n sn : Nat} (hPH : sP P H) (hgv : g < 40 ∧ v < 60) (hn : (H.1 1879) g = (n : Int) ∧ n ≤ 8) (hh : ∀ h, h < 2 * n → hOK P H (16 * g + h)) (hsn : (H.1 1826 99) = (sn : Int) ∧ sn ≤ 4) (hst : tm (ma (P.1 1833) (P.1 1830)) (m_sg (P.1 1826 3) (P.1 1826 8) 60) (H.1 1887) sn 0 1) : hG (zs zC) d mt_251 0 (zargs 0 [.inr (.inr 1826), .inl (g : Int), .inl (v : Int)]) [] H (fun r9 H2 => fr [53] [1856, 1880, 1881] H H2 ∧ (∀ x, x ≠ g → sH H H2 x) ∧ (r9 = some (.inl 0) ∨ (r9 = some (.inl 1) ∧ hysOK P H2 g))) := by
  refine h_rng (fun hrg0 => ?_)
  refine h_run 0 (pc' := 0) (l' := [(0, .inr (.inr 1826)), (1, .inl (g : Int)), (2, .inl (v : Int))]) (st' := []) rfl ?_
  refine h_run 4 (pc' := 5) (l' := [(0, .inr (.inr 1826)), (1, .inl (g : Int)), (2, .inl (v : Int)), (3, .inl 1), (4, .inl 0)]) (st' := []) rfl ?_
  exact (m_isHypsPut_cut hd hPH hgv hn hh hsn hst _).1 _ 1 0 (fr_rf _ _ _) (by omega) (by omega) (fun x _ => sH_rf H x) (fun _ x hx => hh x hx) (Nat.lt_succ_self _)
