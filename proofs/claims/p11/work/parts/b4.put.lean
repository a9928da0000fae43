/-! the reference: something is put into a fresh goal -/
/-- the same texts -/
def sP (P H : hp) : Prop := (H.1 1833) = (P.1 1833) ∧ (H.1 1830) = (P.1 1830) ∧ (H.1 1826 3) = (P.1 1826 3) ∧ (H.1 1826 8) = (P.1 1826 8)
theorem sP_rf (H : hp) : sP H H := ⟨rfl, rfl, rfl, rfl⟩
theorem sP_fr {P H K : hp} {ob ar : List Nat} (h : sP P H) (f : fr ob ar H K) (h1 : 1833 ∉ ar ∧ 1830 ∉ ar) (h2 : 3 ∉ ob ∧ 8 ∉ ob) : sP P K := ⟨(f.2.1 1833 (by decide) h1.1).trans h.1, (f.2.1 1830 (by decide) h1.2).trans h.2.1, (f.2.2 3 h2.1).trans h.2.2.1, (f.2.2 8 h2.2).trans h.2.2.2⟩
theorem sS_kept {H K : hp} {g s M : Nat} (hs : s < 2) (hz : (K.1 1874) = up (H.1 1874) (2 * g + s) (M : Int)) (ho : ∀ x, (x < 64 * (2 * g + s) ∨ 64 * (2 * g + s) + 64 ≤ x) → (K.1 1873) x = (H.1 1873) x) : ∀ x, x ≠ g → sS H K x := fun x hx => ⟨fun y hy => by rw [hz, up_ne _ _ (by omega)], fun y hy => ho _ (by omega)⟩
theorem sOK_kept {P H K : hp} {g s M : Nat} (hM : M ≤ 60) (hz : (K.1 1874) = up (H.1 1874) (2 * g + s) (M : Int)) (hcp : ∀ x, x < M → (K.1 1873) (64 * (2 * g + s) + x) = (H.1 1856) x) (ht : tm (ma (P.1 1833) (P.1 1830)) (m_sg (P.1 1826 3) (P.1 1826 8) 60) (H.1 1856) M 0 1) : sOK P K (2 * g + s) := ⟨M, by rw [hz, up_eq], hM, tm_at ht (fun y hy => by rw [Nat.zero_add]; exact hcp y hy)⟩
theorem sOK_oth {P H K : hp} {g s t M : Nat} (h : sOK P H (2 * g + t)) (hne : t ≠ s) (hz : (K.1 1874) = up (H.1 1874) (2 * g + s) (M : Int)) (ho : ∀ x, (x < 64 * (2 * g + s) ∨ 64 * (2 * g + s) + 64 ≤ x) → (K.1 1873) x = (H.1 1873) x) : sOK P K (2 * g + t) := sOK_k h (by rw [hz, up_ne _ _ (by omega)]) (fun x hx => ho _ (by omega))

/-! isPut -/
set_option maxRecDepth 100000 in
theorem m_isPut_cut {zC : Nat → Option zsh} {d : Nat} (hd : 3 ≤ d) {H : hp} {P : hp} {g o v sn : Nat} (hPH : sP P H) (hgo : g < 40 ∧ o < 40 ∧ g ≠ o ∧ v < 60) (hso : ∀ s, s < 2 → sOK P H (2 * o + s)) (hsn : (H.1 1826 99) = (sn : Int) ∧ sn ≤ 4) (hst : tm (ma (P.1 1833) (P.1 1830)) (m_sg (P.1 1826 3) (P.1 1826 8) 60) (H.1 1887) sn 0 1) : ∀ w : Nat, (∀ (H1 : hp) (b : Nat) (s : Nat), (fr [53] [1856, 1873, 1874] H H1) → (s ≤ 2) → (b ≤ 1) → (∀ x, x ≠ g → sS H H1 x) → (hid (b = 1 → ∀ x, x < s → sOK P H1 (2 * g + x))) → 10 - s < w → hG (zs zC) d mt_250 6 [(0, .inr (.inr 1826)), (1, .inl (g : Int)), (2, .inl (o : Int)), (3, .inl (v : Int)), (4, .inl (b : Int)), (5, .inl (s : Int))] [] H1 (fun r9 H2 => fr [53] [1856, 1873, 1874] H H2 ∧ (∀ x, x ≠ g → sS H H2 x) ∧ (r9 = some (.inl 0) ∨ (r9 = some (.inl 1) ∧ ∀ s, s < 2 → sOK P H2 (2 * g + s))))) := by
  intro w
  induction w with
  | zero => exact fun _ _ _ _ _ _ _ _ h => absurd h (Nat.not_lt_zero _)
  | succ w ih =>
    intro H1 b s hf hs hb ho hk hw
    refine h_rng (fun hrg1 => ?_)
    have hQ := sP_fr hPH hf (by decide) (by decide)
    have e_st : (H1.1 1887) = (H.1 1887) := hf.2.1 1887 (by decide) (by decide)
    have f_ss : (H1.1 1826 99) = (H.1 1826 99) := hf.2.2 99 (by decide)
    refine h_run 2 (pc' := 9) (l' := [(0, .inr (.inr 1826)), (1, .inl (g : Int)), (2, .inl (o : Int)), (3, .inl (v : Int)), (4, .inl (b : Int)), (5, .inl (s : Int))]) (st' := [.inl 2, .inl (s : Int)]) rfl ?_
    refine h_ige (off := 54) (t := 63) rfl rfl (by omega) (by decide) (fun c2 => ?_) (fun c2 => ?_)
    · refine h_run 1 (pc' := 65) (l' := [(0, .inr (.inr 1826)), (1, .inl (g : Int)), (2, .inl (o : Int)), (3, .inl (v : Int)), (4, .inl (b : Int)), (5, .inl (s : Int))]) (st' := [.inl (b : Int)]) rfl ?_
      refine h_retz (x := (b : Int)) rfl rfl (by first | omega | decide) ?_
      refine ⟨hf, ho, ?_⟩
      rcases (show b = 0 ∨ b = 1 by omega) with rfl | rfl
      · exact Or.inl rfl
      · exact Or.inr ⟨rfl, fun x hx => hk rfl x (by omega)⟩
    · refine h_run 1 (pc' := 14) (l' := [(0, .inr (.inr 1826)), (1, .inl (g : Int)), (2, .inl (o : Int)), (3, .inl (v : Int)), (4, .inl (b : Int)), (5, .inl (s : Int))]) (st' := [.inl (b : Int)]) rfl ?_
      refine h_zeq (off := 49) (t := 63) rfl rfl (by omega) (fun c3 => ?_) (fun c3 => ?_)
      · refine h_run 1 (pc' := 65) (l' := [(0, .inr (.inr 1826)), (1, .inl (g : Int)), (2, .inl (o : Int)), (3, .inl (v : Int)), (4, .inl (b : Int)), (5, .inl (s : Int))]) (st' := [.inl (b : Int)]) rfl ?_
        refine h_retz (x := (b : Int)) rfl rfl (by first | omega | decide) ?_
        refine ⟨hf, ho, ?_⟩
        rcases (show b = 0 ∨ b = 1 by omega) with rfl | rfl
        · exact Or.inl rfl
        · exact Or.inr ⟨rfl, fun x hx => hk rfl x (by omega)⟩
      · obtain ⟨kk, e1, e2, e3⟩ := sOK_s (hso s (by omega)) (by omega) (ho o (fun q => hgo.2.2.1 q.symm))
        refine h_run 6 (pc' := 26) (l' := [(0, .inr (.inr 1826)), (1, .inl (g : Int)), (2, .inl (o : Int)), (3, .inl (v : Int)), (4, .inl (b : Int)), (5, .inl (s : Int))]) (st' := [.inl (s : Int), .inl (o : Int), .inr (.inr 1826), .inr (.inr 1873), .inr (.inr 1826)]) rfl ?_
        refine h_cv (i := 528) (j := 221) (b := 1826) (M' := mt_221) (xs := [.inl (s : Int), .inl (o : Int)]) (rest := [.inr (.inr 1873), .inr (.inr 1826)]) rfl rfl rfl rfl rfl rfl (Nat.le_of_ble_eq_true rfl) (Nat.le_of_ble_eq_true rfl) (by omega) (m_sideAt (by omega)) ?_
        rintro _ _ ⟨rfl, rfl⟩
        refine h_run 0 (pc' := 29) (l' := [(0, .inr (.inr 1826)), (1, .inl (g : Int)), (2, .inl (o : Int)), (3, .inl (v : Int)), (4, .inl (b : Int)), (5, .inl (s : Int))]) (st' := [.inl (64 * ((2 * (o : Int)) + (s : Int))), .inr (.inr 1873), .inr (.inr 1826)]) rfl ?_
        refine h_run 7 (pc' := 39) (l' := [(0, .inr (.inr 1826)), (1, .inl (g : Int)), (2, .inl (o : Int)), (3, .inl (v : Int)), (4, .inl (b : Int)), (5, .inl (s : Int))]) (st' := [.inl ((2 * (o : Int)) + (s : Int)), .inr (.inr 1874), .inl (64 * ((2 * (o : Int)) + (s : Int))), .inr (.inr 1873), .inr (.inr 1826)]) rfl ?_
        refine h_ild (c := 1874) (j := ((2 * o) + s)) (i := ((2 * (o : Int)) + (s : Int))) rfl rfl (by decide) (by omega) (by omega) ?_
        have g4 : -2147483648 ≤ (H1.1 1874 ((2 * o) + s)) ∧ (H1.1 1874 ((2 * o) + s)) ≤ 2147483647 := hrg1.2 1874 ((2 * o) + s) 80 .int rfl (by omega)
        refine h_run 0 (pc' := 40) (l' := [(0, .inr (.inr 1826)), (1, .inl (g : Int)), (2, .inl (o : Int)), (3, .inl (v : Int)), (4, .inl (b : Int)), (5, .inl (s : Int))]) (st' := [.inl (H1.1 1874 ((2 * o) + s)), .inl (64 * ((2 * (o : Int)) + (s : Int))), .inr (.inr 1873), .inr (.inr 1826)]) rfl ?_
        rw [show (H1.1 1874 ((2 * o) + s)) = (kk : Int) by omega]
        refine h_run 3 (pc' := 45) (l' := [(0, .inr (.inr 1826)), (1, .inl (g : Int)), (2, .inl (o : Int)), (3, .inl (v : Int)), (4, .inl (b : Int)), (5, .inl (s : Int))]) (st' := [.inl (1000 + (v : Int)), .inl (kk : Int), .inl (64 * ((2 * (o : Int)) + (s : Int))), .inr (.inr 1873), .inr (.inr 1826)]) rfl ?_
        refine h_cv (i := 607) (j := 248) (b := 1826) (M' := mt_248) (xs := [.inl (1000 + (v : Int)), .inl (kk : Int), .inl (64 * ((2 * (o : Int)) + (s : Int))), .inr (.inr 1873)]) (rest := []) rfl rfl rfl rfl rfl rfl (Nat.le_of_ble_eq_true rfl) (Nat.le_of_ble_eq_true rfl) (by omega) (m_putIn (ok := (m_sg (P.1 1826 3) (P.1 1826 8) 60)) (sn := sn) (by omega) rfl (by decide) (by decide) (by rw [hQ.1, hQ.2.1]; exact e3) (show 64 * (2 * o + s) + kk ≤ 5120 ∧ kk ≤ 64 by omega) ⟨by omega, hsn.2⟩ (by rw [hQ.1, hQ.2.1, e_st]; exact hst) (by omega)) ?_
        rintro _ H5 ⟨rfl, hfH5, MH5, hmH5, hlH5, htH5⟩
        refine h_rng (fun hrg6 => ?_)
        have hf7 : fr [53] [1856, 1873, 1874] H H5 := fr_t hf hfH5 (by decide) (by decide)
        refine h_run 0 (pc' := 48) (l' := [(0, .inr (.inr 1826)), (1, .inl (g : Int)), (2, .inl (o : Int)), (3, .inl (v : Int)), (4, .inl (b : Int)), (5, .inl (s : Int))]) (st' := []) rfl ?_
        have g8 : -2147483648 ≤ (H5.1 1826 53) ∧ (H5.1 1826 53) ≤ 2147483647 := hrg6.1 1826 13 53 _ .int rfl rfl
        refine h_run 3 (pc' := 52) (l' := [(0, .inr (.inr 1826)), (1, .inl (g : Int)), (2, .inl (o : Int)), (3, .inl (v : Int)), (4, .inl (b : Int)), (5, .inl (s : Int))]) (st' := [.inl (s : Int), .inl (g : Int), .inr (.inr 1826)]) rfl ?_
        refine h_cv (i := 575) (j := 229) (b := 1826) (M' := mt_229) (xs := [.inl (s : Int), .inl (g : Int)]) (rest := []) rfl rfl rfl rfl rfl rfl (Nat.le_of_ble_eq_true rfl) (Nat.le_of_ble_eq_true rfl) (by omega) (m_isKept (M := MH5) (by omega) (by omega) ⟨hmH5, by omega⟩) ?_
        rintro _ H9 (⟨rfl, hxH9, rfl⟩ | ⟨rfl, hlH9, hfH9, hzH9, hcH9, hoH9⟩)
        · refine h_run 0 (pc' := 55) (l' := [(0, .inr (.inr 1826)), (1, .inl (g : Int)), (2, .inl (o : Int)), (3, .inl (v : Int)), (4, .inl (b : Int)), (5, .inl (s : Int))]) (st' := [.inl 0]) rfl ?_
          refine h_run 3 (pc' := 6) (l' := [(0, .inr (.inr 1826)), (1, .inl (g : Int)), (2, .inl (o : Int)), (3, .inl (v : Int)), (4, .inl 0), (5, .inl ((s : Int) + 1))]) (st' := []) rfl ?_
          rw [show ((s : Int) + 1) = (((s + 1) : Nat) : Int) by omega]
          exact ih _ 0 (s + 1) hf7 (by omega) (by omega) (fun x hx => sS_tr (ho x hx) (sS_fr hfH5 (by decide) x)) (fun q9 => absurd q9 (by decide)) (by omega : 10 - (s + 1) < w)
        · refine h_rng (fun hrg10 => ?_)
          have hf11 : fr [53] [1856, 1873, 1874] H H9 := fr_t hf7 hfH9 (by decide) (by decide)
          refine h_run 0 (pc' := 55) (l' := [(0, .inr (.inr 1826)), (1, .inl (g : Int)), (2, .inl (o : Int)), (3, .inl (v : Int)), (4, .inl (b : Int)), (5, .inl (s : Int))]) (st' := [.inl 1]) rfl ?_
          refine h_run 3 (pc' := 6) (l' := [(0, .inr (.inr 1826)), (1, .inl (g : Int)), (2, .inl (o : Int)), (3, .inl (v : Int)), (4, .inl 1), (5, .inl ((s : Int) + 1))]) (st' := []) rfl ?_
          rw [show ((s : Int) + 1) = (((s + 1) : Nat) : Int) by omega]
          exact ih _ 1 (s + 1) hf11 (by omega) (by omega) (fun x hx => sS_tr (sS_tr (ho x hx) (sS_fr hfH5 (by decide) x)) (sS_kept (by omega) hzH9 hoH9 x hx)) (fun _ x hx => by by_cases e9 : x = s; { rw [e9]; exact sOK_kept hlH9 hzH9 hcH9 (by have h9 := htH5; rw [hQ.1, hQ.2.1] at h9; exact h9) }; { exact sOK_oth (sOK_s (hk (by omega) x (by omega)) (by omega) (sS_fr hfH5 (by decide) g)) e9 hzH9 hoH9 }) (by omega : 10 - (s + 1) < w)
set_option maxRecDepth 100000 in
theorem m_isPut {zC : Nat → Option zsh} {d : Nat} (hd : 3 ≤ d) {H : hp} {P : hp} {g o v sn : Nat} (hPH : sP P H) (hgo : g < 40 ∧ o < 40 ∧ g ≠ o ∧ v < 60) (hso : ∀ s, s < 2 → sOK P H (2 * o + s)) (hsn : (H.1 1826 99) = (sn : Int) ∧ sn ≤ 4) (hst : tm (ma (P.1 1833) (P.1 1830)) (m_sg (P.1 1826 3) (P.1 1826 8) 60) (H.1 1887) sn 0 1) : hG (zs zC) d mt_250 0 (zargs 0 [.inr (.inr 1826), .inl (g : Int), .inl (o : Int), .inl (v : Int)]) [] H (fun r9 H2 => fr [53] [1856, 1873, 1874] H H2 ∧ (∀ x, x ≠ g → sS H H2 x) ∧ (r9 = some (.inl 0) ∨ (r9 = some (.inl 1) ∧ ∀ s, s < 2 → sOK P H2 (2 * g + s)))) := by
  refine h_rng (fun hrg0 => ?_)
  refine h_run 0 (pc' := 0) (l' := [(0, .inr (.inr 1826)), (1, .inl (g : Int)), (2, .inl (o : Int)), (3, .inl (v : Int))]) (st' := []) rfl ?_
  refine h_run 4 (pc' := 6) (l' := [(0, .inr (.inr 1826)), (1, .inl (g : Int)), (2, .inl (o : Int)), (3, .inl (v : Int)), (4, .inl 1), (5, .inl 0)]) (st' := []) rfl ?_
  exact (m_isPut_cut hd hPH hgo hso hsn hst _) _ 1 0 (fr_rf _ _ _) (by omega) (by omega) (fun x _ => sS_rf H x) (fun _ x hx => absurd hx (Nat.not_lt_zero _)) (Nat.lt_succ_self _)
