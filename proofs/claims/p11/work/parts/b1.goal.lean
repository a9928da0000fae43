/-! the reference: goals copied, new goals -/
/-! copyGoal -/
set_option maxRecDepth 100000 in
theorem m_copyGoal_cut {zC : Nat → Option zsh} {d : Nat} (hd : 2 ≤ d) {H : hp} {P : hp} {f t : Nat} (hft : f < 40 ∧ t < 40 ∧ f ≠ t) (hg : gok P H f) : ∀ w : Nat, (∀ (H1 : hp) (s : Nat), (fr [] [1873, 1874, 1875, 1876, 1877, 1879, 1880, 1881] H H1) → (s ≤ 2) → (∀ g, g ≠ t → sS H H1 g) → (∀ g, sH H H1 g) → (∀ x, x < s → sOK P H1 (2 * t + x)) → 1000 * (2 - s) + 500 < w → hG (zs zC) d mt_225 2 [(0, .inr (.inr 1826)), (1, .inl (f : Int)), (2, .inl (t : Int)), (3, .inl (s : Int))] [] H1 (fun r9 H2 => r9 = none ∧ fr [] [1873, 1874, 1875, 1876, 1877, 1879, 1880, 1881] H H2 ∧ gok P H2 t ∧ ∀ g, g ≠ t → sS H H2 g ∧ sH H H2 g)) ∧ (∀ (H1 : hp) (s : Nat) (k : Nat) (kk : Nat), (fr [] [1873, 1874, 1875, 1876, 1877, 1879, 1880, 1881] H H1) → (s < 2) → ((H.1 1874) (2 * f + s) = ((kk : Nat) : Int) ∧ kk ≤ 60) → (tm (ma (P.1 1833) (P.1 1830)) (m_sg (P.1 1826 3) (P.1 1826 8) 60) (H.1 1873) kk (64 * (2 * f + s)) 1) → ((H1.1 1874) (2 * f + s) = ((kk : Nat) : Int)) → (k ≤ kk) → (∀ g, g ≠ t → sS H H1 g) → (∀ g, sH H H1 g) → (∀ x, x < s → sOK P H1 (2 * t + x)) → (∀ x, x < k → (H1.1 1873) (64 * (2 * t + s) + x) = (H.1 1873) (64 * (2 * f + s) + x)) → 1000 * (2 - s) + (64 - k) < w → hG (zs zC) d mt_225 10 [(0, .inr (.inr 1826)), (1, .inl (f : Int)), (2, .inl (t : Int)), (3, .inl (s : Int)), (4, .inl (k : Int))] [] H1 (fun r9 H2 => r9 = none ∧ fr [] [1873, 1874, 1875, 1876, 1877, 1879, 1880, 1881] H H2 ∧ gok P H2 t ∧ ∀ g, g ≠ t → sS H H2 g ∧ sH H H2 g)) := by
  intro w
  induction w with
  | zero => exact ⟨fun _ _ _ _ _ _ _ h => absurd h (Nat.not_lt_zero _), fun _ _ _ _ _ _ _ _ _ _ _ _ _ _ h => absurd h (Nat.not_lt_zero _)⟩
  | succ w ih =>
    refine ⟨?_, ?_⟩
    · intro H1 s hf hs ho hy hk hw
      refine h_rng (fun hrg1 => ?_)
      refine h_run 2 (pc' := 4) (l' := [(0, .inr (.inr 1826)), (1, .inl (f : Int)), (2, .inl (t : Int)), (3, .inl (s : Int))]) (st' := [.inl 2, .inl (s : Int)]) rfl ?_
      refine h_ige (off := 81) (t := 85) rfl rfl (by omega) (by decide) (fun c2 => ?_) (fun c2 => ?_)
      · obtain ⟨hyx, hye, hyl9, hyh9⟩ := hg.2
        refine h_run 6 (pc' := 95) (l' := [(0, .inr (.inr 1826)), (1, .inl (f : Int)), (2, .inl (t : Int)), (3, .inl (s : Int))]) (st' := [.inl (f : Int), .inr (.inr 1875), .inl (t : Int), .inr (.inr 1875)]) rfl ?_
        refine h_ild (c := 1875) (j := f) (i := (f : Int)) rfl rfl (by decide) rfl (by omega) ?_
        have g3 : -2147483648 ≤ (H1.1 1875 f) ∧ (H1.1 1875 f) ≤ 2147483647 := hrg1.2 1875 f 40 .int rfl (by omega)
        refine h_run 0 (pc' := 96) (l' := [(0, .inr (.inr 1826)), (1, .inl (f : Int)), (2, .inl (t : Int)), (3, .inl (s : Int))]) (st' := [.inl (H1.1 1875 f), .inl (t : Int), .inr (.inr 1875)]) rfl ?_
        refine h_ist (c := 1875) (j := t) (i := (t : Int)) (x := (H1.1 1875 f)) rfl rfl (by decide) (by decide) rfl (by omega) (by omega) ?_
        refine h_run 6 (pc' := 107) (l' := [(0, .inr (.inr 1826)), (1, .inl (f : Int)), (2, .inl (t : Int)), (3, .inl (s : Int))]) (st' := [.inl (f : Int), .inr (.inr 1876), .inl (t : Int), .inr (.inr 1876)]) rfl ?_
        refine h_lld (c := 1876) (j := f) (i := (f : Int)) rfl rfl (by decide) rfl (by omega) ?_
        have g4 : -9223372036854775808 ≤ (H1.1 1876 f) ∧ (H1.1 1876 f) ≤ 9223372036854775807 := hrg1.2 1876 f 40 .long rfl (by omega)
        refine h_run 0 (pc' := 108) (l' := [(0, .inr (.inr 1826)), (1, .inl (f : Int)), (2, .inl (t : Int)), (3, .inl (s : Int))]) (st' := [.inr (.inl (H1.1 1876 f)), .inl (t : Int), .inr (.inr 1876)]) rfl ?_
        refine h_lst (c := 1876) (j := t) (i := (t : Int)) (x := (H1.1 1876 f)) rfl rfl (by decide) (by decide) rfl (by omega) (by first | omega | exact z_long _) ?_
        refine h_run 6 (pc' := 119) (l' := [(0, .inr (.inr 1826)), (1, .inl (f : Int)), (2, .inl (t : Int)), (3, .inl (s : Int))]) (st' := [.inl (f : Int), .inr (.inr 1877), .inl (t : Int), .inr (.inr 1877)]) rfl ?_
        refine h_ild (c := 1877) (j := f) (i := (f : Int)) rfl rfl (by decide) rfl (by omega) ?_
        have g5 : -2147483648 ≤ (H1.1 1877 f) ∧ (H1.1 1877 f) ≤ 2147483647 := hrg1.2 1877 f 40 .int rfl (by omega)
        refine h_run 0 (pc' := 120) (l' := [(0, .inr (.inr 1826)), (1, .inl (f : Int)), (2, .inl (t : Int)), (3, .inl (s : Int))]) (st' := [.inl (H1.1 1877 f), .inl (t : Int), .inr (.inr 1877)]) rfl ?_
        refine h_ist (c := 1877) (j := t) (i := (t : Int)) (x := (H1.1 1877 f)) rfl rfl (by decide) (by decide) rfl (by omega) (by omega) ?_
        have hyn : (H1.1 1879) f = ((hyx : Nat) : Int) := (hy f).1.trans hye
        have hyl : hyx ≤ 8 := hyl9
        have hyh : ∀ h, h < 2 * hyx → hOK P H1 (16 * f + h) := fun h9 q9 => hOK_k (hyh9 h9 q9) ((hy f).2.1 h9 (by omega)) (fun x9 hx9 => by have h8 := (hy f).2.2 (64 * h9 + x9) (by omega); rw [show 64 * (16 * f + h9) + x9 = 1024 * f + (64 * h9 + x9) by omega]; exact h8)
        refine h_run 3 (pc' := 124) (l' := [(0, .inr (.inr 1826)), (1, .inl (f : Int)), (2, .inl (t : Int)), (3, .inl (s : Int))]) (st' := [.inl (t : Int), .inl (f : Int), .inr (.inr 1826)]) rfl ?_
        refine h_cv (i := 531) (j := 226) (b := 1826) (M' := mt_226) (xs := [.inl (t : Int), .inl (f : Int)]) (rest := []) rfl rfl rfl rfl rfl rfl (Nat.le_of_ble_eq_true rfl) (Nat.le_of_ble_eq_true rfl) (by omega) (m_copyHyps (by omega) (by omega) ⟨hyn, hyl⟩ hyh) ?_
        rintro _ H6 ⟨rfl, hfH6, hyH6, hsH6⟩
        refine h_rng (fun hrg7 => ?_)
        have hf8 : fr [] [1873, 1874, 1875, 1876, 1877, 1879, 1880, 1881] H H6 := fr_t (fr_a (fr_a (fr_a hf (by decide)) (by decide)) (by decide)) hfH6 (by decide) (by decide)
        refine h_run 0 (pc' := 127) (l' := [(0, .inr (.inr 1826)), (1, .inl (f : Int)), (2, .inl (t : Int)), (3, .inl (s : Int))]) (st' := []) rfl ?_
        refine h_ret rfl rfl ?_
        have hs2 : s = 2 := by omega
        refine ⟨rfl, hf8, ⟨fun x hx => ?_, hyH6⟩, fun g hg => ⟨?_, ?_⟩⟩
        · exact sOK_s (hk x (by omega)) hx (sS_fr hfH6 (by decide) t)
        · exact sS_tr (ho g hg) (sS_fr hfH6 (by decide) g)
        · exact sH_tr (hy g) (hsH6 g hg)
      · obtain ⟨kk, e1, e2, e3⟩ := hg.1 s (by omega)
        have e4 : (H1.1 1874) (2 * f + s) = ((kk : Nat) : Int) := ((ho f hft.2.2).1 s (by omega)).trans e1
        refine h_run 2 (pc' := 10) (l' := [(0, .inr (.inr 1826)), (1, .inl (f : Int)), (2, .inl (t : Int)), (3, .inl (s : Int)), (4, .inl 0)]) (st' := []) rfl ?_
        exact ih.2 _ s 0 (kk) hf (by omega) ⟨e1, e2⟩ e3 e4 (by omega) ho hy hk (fun x hx => absurd hx (Nat.not_lt_zero _)) (by omega : 1000 * (2 - s) + (64 - 0) < w)
    · intro H1 s k kk hf hs hkk htm hsz hkx ho hy hk hcp hw
      refine h_rng (fun hrg9 => ?_)
      refine h_run 8 (pc' := 21) (l' := [(0, .inr (.inr 1826)), (1, .inl (f : Int)), (2, .inl (t : Int)), (3, .inl (s : Int)), (4, .inl (k : Int))]) (st' := [.inl ((2 * (f : Int)) + (s : Int)), .inr (.inr 1874), .inl (k : Int)]) rfl ?_
      refine h_ild (c := 1874) (j := ((2 * f) + s)) (i := ((2 * (f : Int)) + (s : Int))) rfl rfl (by decide) (by omega) (by omega) ?_
      have g10 : -2147483648 ≤ (H1.1 1874 ((2 * f) + s)) ∧ (H1.1 1874 ((2 * f) + s)) ≤ 2147483647 := hrg9.2 1874 ((2 * f) + s) 80 .int rfl (by omega)
      refine h_run 0 (pc' := 22) (l' := [(0, .inr (.inr 1826)), (1, .inl (f : Int)), (2, .inl (t : Int)), (3, .inl (s : Int)), (4, .inl (k : Int))]) (st' := [.inl (H1.1 1874 ((2 * f) + s)), .inl (k : Int)]) rfl ?_
      refine h_ige (off := 37) (t := 59) rfl rfl (by omega) (by omega) (fun c11 => ?_) (fun c11 => ?_)
      · refine h_run 14 (pc' := 77) (l' := [(0, .inr (.inr 1826)), (1, .inl (f : Int)), (2, .inl (t : Int)), (3, .inl (s : Int)), (4, .inl (k : Int))]) (st' := [.inl ((2 * (f : Int)) + (s : Int)), .inr (.inr 1874), .inl ((2 * (t : Int)) + (s : Int)), .inr (.inr 1874)]) rfl ?_
        refine h_ild (c := 1874) (j := ((2 * f) + s)) (i := ((2 * (f : Int)) + (s : Int))) rfl rfl (by decide) (by omega) (by omega) ?_
        refine h_run 0 (pc' := 78) (l' := [(0, .inr (.inr 1826)), (1, .inl (f : Int)), (2, .inl (t : Int)), (3, .inl (s : Int)), (4, .inl (k : Int))]) (st' := [.inl (H1.1 1874 ((2 * f) + s)), .inl ((2 * (t : Int)) + (s : Int)), .inr (.inr 1874)]) rfl ?_
        refine h_ist (c := 1874) (j := ((2 * t) + s)) (i := ((2 * (t : Int)) + (s : Int))) (x := (H1.1 1874 ((2 * f) + s))) rfl rfl (by decide) (by decide) (by omega) (by omega) (by omega) ?_
        refine h_run 2 (pc' := 2) (l' := [(0, .inr (.inr 1826)), (1, .inl (f : Int)), (2, .inl (t : Int)), (3, .inl ((s : Int) + 1)), (4, .inl (k : Int))]) (st' := []) rfl ?_
        refine h_loc [0, 1, 2, 3] rfl ?_
        rw [show ((s : Int) + 1) = (((s + 1) : Nat) : Int) by omega]
        exact ih.1 _ (s + 1) (fr_a hf (by decide)) (by omega) (fun g hg => sS_tr (ho g hg) ⟨fun x hx => (show up (H1.1 1874) (2 * t + s) ((H1.1 1874) (2 * f + s)) (2 * g + x) = _ from up_ne _ _ (by omega)), fun _ _ => rfl⟩) hy (fun x hx => by by_cases e9 : x = s; { rw [e9]; exact ⟨kk, (show up (H1.1 1874) (2 * t + s) ((H1.1 1874) (2 * f + s)) (2 * t + s) = _ from (up_eq _ _ _).trans hsz), hkk.2, tm_at htm (fun y hy => hcp y (by omega))⟩ }; { exact sOK_k (hk x (by omega)) (show up (H1.1 1874) (2 * t + s) ((H1.1 1874) (2 * f + s)) (2 * t + x) = _ from up_ne _ _ (by omega)) (fun _ _ => rfl) }) (by omega : 1000 * (2 - (s + 1)) + 500 < w)
      · refine h_run 5 (pc' := 32) (l' := [(0, .inr (.inr 1826)), (1, .inl (f : Int)), (2, .inl (t : Int)), (3, .inl (s : Int)), (4, .inl (k : Int))]) (st' := [.inl (s : Int), .inl (t : Int), .inr (.inr 1826), .inr (.inr 1873)]) rfl ?_
        refine h_cv (i := 528) (j := 221) (b := 1826) (M' := mt_221) (xs := [.inl (s : Int), .inl (t : Int)]) (rest := [.inr (.inr 1873)]) rfl rfl rfl rfl rfl rfl (Nat.le_of_ble_eq_true rfl) (Nat.le_of_ble_eq_true rfl) (by omega) (m_sideAt (by omega)) ?_
        rintro _ _ ⟨rfl, rfl⟩
        refine h_run 0 (pc' := 35) (l' := [(0, .inr (.inr 1826)), (1, .inl (f : Int)), (2, .inl (t : Int)), (3, .inl (s : Int)), (4, .inl (k : Int))]) (st' := [.inl (64 * ((2 * (t : Int)) + (s : Int))), .inr (.inr 1873)]) rfl ?_
        refine h_run 7 (pc' := 45) (l' := [(0, .inr (.inr 1826)), (1, .inl (f : Int)), (2, .inl (t : Int)), (3, .inl (s : Int)), (4, .inl (k : Int))]) (st' := [.inl (s : Int), .inl (f : Int), .inr (.inr 1826), .inr (.inr 1873), .inl ((64 * ((2 * (t : Int)) + (s : Int))) + (k : Int)), .inr (.inr 1873)]) rfl ?_
        refine h_cv (i := 528) (j := 221) (b := 1826) (M' := mt_221) (xs := [.inl (s : Int), .inl (f : Int)]) (rest := [.inr (.inr 1873), .inl ((64 * ((2 * (t : Int)) + (s : Int))) + (k : Int)), .inr (.inr 1873)]) rfl rfl rfl rfl rfl rfl (Nat.le_of_ble_eq_true rfl) (Nat.le_of_ble_eq_true rfl) (by omega) (m_sideAt (by omega)) ?_
        rintro _ _ ⟨rfl, rfl⟩
        refine h_run 0 (pc' := 48) (l' := [(0, .inr (.inr 1826)), (1, .inl (f : Int)), (2, .inl (t : Int)), (3, .inl (s : Int)), (4, .inl (k : Int))]) (st' := [.inl (64 * ((2 * (f : Int)) + (s : Int))), .inr (.inr 1873), .inl ((64 * ((2 * (t : Int)) + (s : Int))) + (k : Int)), .inr (.inr 1873)]) rfl ?_
        refine h_run 2 (pc' := 51) (l' := [(0, .inr (.inr 1826)), (1, .inl (f : Int)), (2, .inl (t : Int)), (3, .inl (s : Int)), (4, .inl (k : Int))]) (st' := [.inl ((64 * ((2 * (f : Int)) + (s : Int))) + (k : Int)), .inr (.inr 1873), .inl ((64 * ((2 * (t : Int)) + (s : Int))) + (k : Int)), .inr (.inr 1873)]) rfl ?_
        refine h_ild (c := 1873) (j := ((64 * ((2 * f) + s)) + k)) (i := ((64 * ((2 * (f : Int)) + (s : Int))) + (k : Int))) rfl rfl (by decide) (by omega) (by omega) ?_
        have g12 : -2147483648 ≤ (H1.1 1873 ((64 * ((2 * f) + s)) + k)) ∧ (H1.1 1873 ((64 * ((2 * f) + s)) + k)) ≤ 2147483647 := hrg9.2 1873 ((64 * ((2 * f) + s)) + k) 5120 .int rfl (by omega)
        refine h_run 0 (pc' := 52) (l' := [(0, .inr (.inr 1826)), (1, .inl (f : Int)), (2, .inl (t : Int)), (3, .inl (s : Int)), (4, .inl (k : Int))]) (st' := [.inl (H1.1 1873 ((64 * ((2 * f) + s)) + k)), .inl ((64 * ((2 * (t : Int)) + (s : Int))) + (k : Int)), .inr (.inr 1873)]) rfl ?_
        refine h_ist (c := 1873) (j := ((64 * ((2 * t) + s)) + k)) (i := ((64 * ((2 * (t : Int)) + (s : Int))) + (k : Int))) (x := (H1.1 1873 ((64 * ((2 * f) + s)) + k))) rfl rfl (by decide) (by decide) (by omega) (by omega) (by omega) ?_
        refine h_run 2 (pc' := 10) (l' := [(0, .inr (.inr 1826)), (1, .inl (f : Int)), (2, .inl (t : Int)), (3, .inl (s : Int)), (4, .inl ((k : Int) + 1))]) (st' := []) rfl ?_
        rw [show ((k : Int) + 1) = (((k + 1) : Nat) : Int) by omega]
        exact ih.2 _ s (k + 1) (kk) (fr_a hf (by decide)) (by omega) hkk htm hsz (by omega) (fun g hg => sS_tr (ho g hg) ⟨fun _ _ => rfl, fun x hx => (show up (H1.1 1873) (64 * (2 * t + s) + k) ((H1.1 1873) (64 * (2 * f + s) + k)) (128 * g + x) = _ from up_ne _ _ (by omega))⟩) hy (fun x hx => sOK_k (hk x hx) rfl (fun y hy => (show up (H1.1 1873) (64 * (2 * t + s) + k) ((H1.1 1873) (64 * (2 * f + s) + k)) (64 * (2 * t + x) + y) = _ from up_ne _ _ (by omega)))) (by have h9 := cp_up (b := fun x => (H.1 1873) (64 * (2 * f + s) + x)) hcp; show ∀ x, x < k + 1 → up (H1.1 1873) (64 * (2 * t + s) + k) ((H1.1 1873) (64 * (2 * f + s) + k)) (64 * (2 * t + s) + x) = _; rw [show (H1.1 1873) (64 * (2 * f + s) + k) = (H.1 1873) (64 * (2 * f + s) + k) by have h8 := (ho f hft.2.2).2 (64 * s + k) (by omega); rw [show 64 * (2 * f + s) + k = 128 * f + (64 * s + k) by omega]; exact h8]; exact h9) (by omega : 1000 * (2 - s) + (64 - (k + 1)) < w)
set_option maxRecDepth 100000 in
theorem m_copyGoal {zC : Nat → Option zsh} {d : Nat} (hd : 2 ≤ d) {H : hp} {P : hp} {f t : Nat} (hft : f < 40 ∧ t < 40 ∧ f ≠ t) (hg : gok P H f) : hG (zs zC) d mt_225 0 (zargs 0 [.inr (.inr 1826), .inl (f : Int), .inl (t : Int)]) [] H (fun r9 H2 => r9 = none ∧ fr [] [1873, 1874, 1875, 1876, 1877, 1879, 1880, 1881] H H2 ∧ gok P H2 t ∧ ∀ g, g ≠ t → sS H H2 g ∧ sH H H2 g) := by
  refine h_rng (fun hrg0 => ?_)
  refine h_run 0 (pc' := 0) (l' := [(0, .inr (.inr 1826)), (1, .inl (f : Int)), (2, .inl (t : Int))]) (st' := []) rfl ?_
  refine h_run 2 (pc' := 2) (l' := [(0, .inr (.inr 1826)), (1, .inl (f : Int)), (2, .inl (t : Int)), (3, .inl 0)]) (st' := []) rfl ?_
  exact (m_copyGoal_cut hd hft hg _).1 _ 0 (fr_rf _ _ _) (by omega) (fun g _ => sS_rf H g) (fun g => sH_rf H g) (fun x hx => absurd hx (Nat.not_lt_zero _)) (Nat.lt_succ_self _)
