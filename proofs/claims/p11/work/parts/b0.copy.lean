/-! the reference: goals copied -/
/-- side a of the goals: a term of at most 60 signs (signs and arities by the texts that P has) -/
def sOK (P H : hp) (a : Nat) : Prop := ∃ k : Nat, (H.1 1874) a = k ∧ k ≤ 60 ∧ tm (ma (P.1 1833) (P.1 1830)) (m_sg (P.1 1826 3) (P.1 1826 8) 60) (H.1 1873) k (64 * a) 1
def okf (P : hp) (s : Int) : Prop := m_sg (P.1 1826 3) (P.1 1826 8) 60 s ∨ (2000 ≤ s ∧ s < 2060)
def hOK (P H : hp) (a : Nat) : Prop := ∃ k : Nat, (H.1 1881) a = k ∧ k ≤ 60 ∧ tm (ma (P.1 1833) (P.1 1830)) (okf P) (H.1 1880) k (64 * a) 1
def hysOK (P H : hp) (g : Nat) : Prop := ∃ n : Nat, (H.1 1879) g = n ∧ n ≤ 8 ∧ ∀ h, h < 2 * n → hOK P H (16 * g + h)
def gok (P H : hp) (g : Nat) : Prop := (∀ s, s < 2 → sOK P H (2 * g + s)) ∧ hysOK P H g
theorem sOK_k {P H K : hp} {a : Nat} (h : sOK P H a) (h1 : (K.1 1874) a = (H.1 1874) a) (h2 : ∀ x, x < 64 → (K.1 1873) (64 * a + x) = (H.1 1873) (64 * a + x)) : sOK P K a := by
  obtain ⟨k, e1, e2, e3⟩ := h
  exact ⟨k, h1.trans e1, e2, tm_at e3 (fun x hx => h2 x (by omega))⟩
theorem hOK_k {P H K : hp} {a : Nat} (h : hOK P H a) (h1 : (K.1 1881) a = (H.1 1881) a) (h2 : ∀ x, x < 64 → (K.1 1880) (64 * a + x) = (H.1 1880) (64 * a + x)) : hOK P K a := by
  obtain ⟨k, e1, e2, e3⟩ := h
  exact ⟨k, h1.trans e1, e2, tm_at e3 (fun x hx => h2 x (by omega))⟩
/-- the sides, the hypotheses of slot g are as they were -/
def sS (H K : hp) (g : Nat) : Prop := (∀ x, x < 2 → (K.1 1874) (2 * g + x) = (H.1 1874) (2 * g + x)) ∧ ∀ x, x < 128 → (K.1 1873) (128 * g + x) = (H.1 1873) (128 * g + x)
def sH (H K : hp) (g : Nat) : Prop := (K.1 1879) g = (H.1 1879) g ∧ (∀ x, x < 16 → (K.1 1881) (16 * g + x) = (H.1 1881) (16 * g + x)) ∧ ∀ x, x < 1024 → (K.1 1880) (1024 * g + x) = (H.1 1880) (1024 * g + x)
theorem sS_rf (H : hp) (g : Nat) : sS H H g := ⟨fun _ _ => rfl, fun _ _ => rfl⟩
theorem sH_rf (H : hp) (g : Nat) : sH H H g := ⟨rfl, fun _ _ => rfl, fun _ _ => rfl⟩
theorem sS_tr {H K L : hp} {g : Nat} (h1 : sS H K g) (h2 : sS K L g) : sS H L g := ⟨fun x hx => (h2.1 x hx).trans (h1.1 x hx), fun x hx => (h2.2 x hx).trans (h1.2 x hx)⟩
theorem sH_tr {H K L : hp} {g : Nat} (h1 : sH H K g) (h2 : sH K L g) : sH H L g := ⟨h2.1.trans h1.1, fun x hx => (h2.2.1 x hx).trans (h1.2.1 x hx), fun x hx => (h2.2.2 x hx).trans (h1.2.2 x hx)⟩
theorem sS_fr {ob ar : List Nat} {H K : hp} (f : fr ob ar H K) (h : 1873 ∉ ar ∧ 1874 ∉ ar) (g : Nat) : sS H K g := ⟨fun x _ => congrFun (f.2.1 1874 (by decide) h.2) _, fun x _ => congrFun (f.2.1 1873 (by decide) h.1) _⟩
theorem sH_fr {ob ar : List Nat} {H K : hp} (f : fr ob ar H K) (h : 1879 ∉ ar ∧ 1880 ∉ ar ∧ 1881 ∉ ar) (g : Nat) : sH H K g := ⟨congrFun (f.2.1 1879 (by decide) h.1) _, fun x _ => congrFun (f.2.1 1881 (by decide) h.2.2) _, fun x _ => congrFun (f.2.1 1880 (by decide) h.2.1) _⟩
theorem sOK_s {P H K : hp} {g s : Nat} (h : sOK P H (2 * g + s)) (hs : s < 2) (e : sS H K g) : sOK P K (2 * g + s) := sOK_k h (e.1 s hs) (fun x hx => by
  have h9 := e.2 (64 * s + x) (by omega)
  rw [show 64 * (2 * g + s) + x = 128 * g + (64 * s + x) by omega]
  exact h9)
theorem hys_s {P H K : hp} {g : Nat} (h : hysOK P H g) (e : sH H K g) : hysOK P K g := by
  obtain ⟨n, h1, h2, h3⟩ := h
  refine ⟨n, e.1.trans h1, h2, fun h9 q => hOK_k (h3 h9 q) (e.2.1 h9 (by omega)) (fun x hx => ?_)⟩
  have h8 := e.2.2 (64 * h9 + x) (by omega)
  rw [show 64 * (16 * g + h9) + x = 1024 * g + (64 * h9 + x) by omega]
  exact h8
theorem gok_s {P H K : hp} {g : Nat} (h : gok P H g) (e1 : sS H K g) (e2 : sH H K g) : gok P K g := ⟨fun s hs => sOK_s (h.1 s hs) hs e1, hys_s h.2 e2⟩

/-! copyHyps -/
set_option maxRecDepth 100000 in
theorem m_copyHyps_cut {zC : Nat → Option zsh} {d : Nat} (hd : 1 ≤ d) {H : hp} {P : hp} {f t n : Nat} (hft : f < 40 ∧ t < 40 ∧ f ≠ t) (hn : (H.1 1879) f = n ∧ n ≤ 8) (hh : ∀ h, h < 2 * n → hOK P H (16 * f + h)) : ∀ w : Nat, (∀ (H1 : hp) (h : Nat), (fr [] [1879, 1880, 1881] H H1) → (h ≤ 2 * n) → ((H1.1 1879) = up (H.1 1879) t ((n : Nat) : Int)) → (∀ x, (x < 16 * t ∨ 16 * t + 16 ≤ x) → (H1.1 1881) x = (H.1 1881) x) → (∀ x, (x < 1024 * t ∨ 1024 * t + 1024 ≤ x) → (H1.1 1880) x = (H.1 1880) x) → (∀ x, x < h → hOK P H1 (16 * t + x)) → 1000 * (2 * n - h) + 500 < w → hG (zs zC) d mt_226 14 [(0, .inr (.inr 1826)), (1, .inl (f : Int)), (2, .inl (t : Int)), (3, .inl (h : Int))] [] H1 (fun r9 H2 => r9 = none ∧ fr [] [1879, 1880, 1881] H H2 ∧ hysOK P H2 t ∧ ∀ g, g ≠ t → sH H H2 g)) ∧ (∀ (H1 : hp) (h : Nat) (a : Nat) (b : Nat) (k : Nat) (kk : Nat), (fr [] [1879, 1880, 1881] H H1) → (h < 2 * n) → (a = 16 * f + h) → (b = 16 * t + h) → ((H.1 1881) (16 * f + h) = ((kk : Nat) : Int) ∧ kk ≤ 60) → (tm (ma (P.1 1833) (P.1 1830)) (okf P) (H.1 1880) kk (64 * (16 * f + h)) 1) → ((H1.1 1881) b = ((kk : Nat) : Int)) → ((H1.1 1881) a = ((kk : Nat) : Int)) → (k ≤ kk) → ((H1.1 1879) = up (H.1 1879) t ((n : Nat) : Int)) → (∀ x, (x < 16 * t ∨ 16 * t + 16 ≤ x) → (H1.1 1881) x = (H.1 1881) x) → (∀ x, (x < 1024 * t ∨ 1024 * t + 1024 ≤ x) → (H1.1 1880) x = (H.1 1880) x) → (∀ x, x < k → (H1.1 1880) (64 * b + x) = (H.1 1880) (64 * a + x)) → (∀ x, x < h → hOK P H1 (16 * t + x)) → 1000 * (2 * n - h) + (64 - k) < w → hG (zs zC) d mt_226 59 [(0, .inr (.inr 1826)), (1, .inl (f : Int)), (2, .inl (t : Int)), (3, .inl (h : Int)), (4, .inl (a : Int)), (5, .inl (b : Int)), (6, .inl (k : Int))] [] H1 (fun r9 H2 => r9 = none ∧ fr [] [1879, 1880, 1881] H H2 ∧ hysOK P H2 t ∧ ∀ g, g ≠ t → sH H H2 g)) := by
  intro w
  induction w with
  | zero => exact ⟨fun _ _ _ _ _ _ _ _ h => absurd h (Nat.not_lt_zero _), fun _ _ _ _ _ _ _ _ _ _ _ _ _ _ _ _ _ _ _ _ h => absurd h (Nat.not_lt_zero _)⟩
  | succ w ih =>
    refine ⟨?_, ?_⟩
    · intro H1 h hf hh2 hz ho hp9 hpre hw
      refine h_rng (fun hrg1 => ?_)
      have hy1 : (H1.1 1879) f = n := by rw [hz, up_ne _ _ hft.2.2]; exact hn.1
      refine h_run 5 (pc' := 21) (l' := [(0, .inr (.inr 1826)), (1, .inl (f : Int)), (2, .inl (t : Int)), (3, .inl (h : Int))]) (st' := [.inl (f : Int), .inr (.inr 1879), .inl 2, .inl (h : Int)]) rfl ?_
      refine h_ild (c := 1879) (j := f) (i := (f : Int)) rfl rfl (by decide) rfl (by omega) ?_
      have g2 : -2147483648 ≤ (H1.1 1879 f) ∧ (H1.1 1879 f) ≤ 2147483647 := hrg1.2 1879 f 40 .int rfl (by omega)
      refine h_run 0 (pc' := 22) (l' := [(0, .inr (.inr 1826)), (1, .inl (f : Int)), (2, .inl (t : Int)), (3, .inl (h : Int))]) (st' := [.inl (H1.1 1879 f), .inl 2, .inl (h : Int)]) rfl ?_
      refine h_run 1 (pc' := 23) (l' := [(0, .inr (.inr 1826)), (1, .inl (f : Int)), (2, .inl (t : Int)), (3, .inl (h : Int))]) (st' := [.inl (2 * (H1.1 1879 f)), .inl (h : Int)]) rfl ?_
      refine h_ige (off := 86) (t := 109) rfl rfl (by omega) (by omega) (fun c3 => ?_) (fun c3 => ?_)
      · refine h_ret rfl rfl ?_
        refine ⟨rfl, hf, ⟨n, by rw [hz, up_eq], hn.2, fun x hx => hpre x (by omega)⟩, fun g hg => ⟨?_, fun x hx => ho _ (by omega), fun x hx => hp9 _ (by omega)⟩⟩
        rw [hz, up_ne _ _ hg]
      · obtain ⟨kk, e1, e2, e3⟩ := hh h (by omega)
        have e4 : (H1.1 1881) (16 * f + h) = ((kk : Nat) : Int) := (ho _ (by omega)).trans e1
        refine h_run 18 (pc' := 54) (l' := [(0, .inr (.inr 1826)), (1, .inl (f : Int)), (2, .inl (t : Int)), (3, .inl (h : Int)), (4, .inl ((16 * (f : Int)) + (h : Int))), (5, .inl ((16 * (t : Int)) + (h : Int)))]) (st' := [.inl ((16 * (f : Int)) + (h : Int)), .inr (.inr 1881), .inl ((16 * (t : Int)) + (h : Int)), .inr (.inr 1881)]) rfl ?_
        refine h_ild (c := 1881) (j := ((16 * f) + h)) (i := ((16 * (f : Int)) + (h : Int))) rfl rfl (by decide) (by omega) (by omega) ?_
        have g4 : -2147483648 ≤ (H1.1 1881 ((16 * f) + h)) ∧ (H1.1 1881 ((16 * f) + h)) ≤ 2147483647 := hrg1.2 1881 ((16 * f) + h) 640 .int rfl (by omega)
        refine h_run 0 (pc' := 55) (l' := [(0, .inr (.inr 1826)), (1, .inl (f : Int)), (2, .inl (t : Int)), (3, .inl (h : Int)), (4, .inl ((16 * (f : Int)) + (h : Int))), (5, .inl ((16 * (t : Int)) + (h : Int)))]) (st' := [.inl (H1.1 1881 ((16 * f) + h)), .inl ((16 * (t : Int)) + (h : Int)), .inr (.inr 1881)]) rfl ?_
        refine h_ist (c := 1881) (j := ((16 * t) + h)) (i := ((16 * (t : Int)) + (h : Int))) (x := (H1.1 1881 ((16 * f) + h))) rfl rfl (by decide) (by decide) (by omega) (by omega) (by omega) ?_
        refine h_run 2 (pc' := 59) (l' := [(0, .inr (.inr 1826)), (1, .inl (f : Int)), (2, .inl (t : Int)), (3, .inl (h : Int)), (4, .inl ((16 * (f : Int)) + (h : Int))), (5, .inl ((16 * (t : Int)) + (h : Int))), (6, .inl 0)]) (st' := []) rfl ?_
        rw [show ((16 * (f : Int)) + (h : Int)) = ((((16 * f) + h) : Nat) : Int) by omega]
        rw [show ((16 * (t : Int)) + (h : Int)) = ((((16 * t) + h) : Nat) : Int) by omega]
        exact ih.2 _ h ((16 * f) + h) ((16 * t) + h) 0 (kk) (fr_a hf (by decide)) (by omega) (by omega) (by omega) ⟨e1, e2⟩ e3 (show up (H1.1 1881) (16 * t + h) ((H1.1 1881) (16 * f + h)) (16 * t + h) = _ from (up_eq _ _ _).trans e4) (show up (H1.1 1881) (16 * t + h) ((H1.1 1881) (16 * f + h)) (16 * f + h) = _ from (up_ne _ _ (by omega)).trans e4) (by omega) hz (fun x hx => (show up (H1.1 1881) (16 * t + h) ((H1.1 1881) (16 * f + h)) x = _ from (up_ne _ _ (by omega)).trans (ho x hx))) hp9 (fun x hx => absurd hx (Nat.not_lt_zero _)) (fun x hx => hOK_k (hpre x hx) (show up (H1.1 1881) (16 * t + h) ((H1.1 1881) (16 * f + h)) (16 * t + x) = _ from up_ne _ _ (by omega)) (fun _ _ => rfl)) (by omega : 1000 * (2 * n - h) + (64 - 0) < w)
    · intro H1 h a b k kk hf hh2 ha hb hkk htm hbs has hk hz ho hp9 hcp hpre hw
      refine h_rng (fun hrg5 => ?_)
      refine h_run 4 (pc' := 67) (l' := [(0, .inr (.inr 1826)), (1, .inl (f : Int)), (2, .inl (t : Int)), (3, .inl (h : Int)), (4, .inl (a : Int)), (5, .inl (b : Int)), (6, .inl (k : Int))]) (st' := [.inl (a : Int), .inr (.inr 1881), .inl (k : Int)]) rfl ?_
      refine h_ild (c := 1881) (j := a) (i := (a : Int)) rfl rfl (by decide) rfl (by omega) ?_
      have g6 : -2147483648 ≤ (H1.1 1881 a) ∧ (H1.1 1881 a) ≤ 2147483647 := hrg5.2 1881 a 640 .int rfl (by omega)
      refine h_run 0 (pc' := 68) (l' := [(0, .inr (.inr 1826)), (1, .inl (f : Int)), (2, .inl (t : Int)), (3, .inl (h : Int)), (4, .inl (a : Int)), (5, .inl (b : Int)), (6, .inl (k : Int))]) (st' := [.inl (H1.1 1881 a), .inl (k : Int)]) rfl ?_
      refine h_ige (off := 35) (t := 103) rfl rfl (by omega) (by omega) (fun c7 => ?_) (fun c7 => ?_)
      · refine h_run 2 (pc' := 14) (l' := [(0, .inr (.inr 1826)), (1, .inl (f : Int)), (2, .inl (t : Int)), (3, .inl ((h : Int) + 1)), (4, .inl (a : Int)), (5, .inl (b : Int)), (6, .inl (k : Int))]) (st' := []) rfl ?_
        refine h_loc [0, 1, 2, 3] rfl ?_
        rw [show ((h : Int) + 1) = (((h + 1) : Nat) : Int) by omega]
        exact ih.1 _ (h + 1) hf (by omega) hz ho hp9 (fun x hx => by by_cases e9 : x = h; { rw [e9]; exact ⟨kk, by rw [← hb]; exact hbs, hkk.2, tm_at htm (fun y hy => by rw [← hb, ← ha]; exact hcp y (by omega))⟩ }; { exact hpre x (by omega) }) (by omega : 1000 * (2 * n - (h + 1)) + 500 < w)
      · refine h_run 14 (pc' := 95) (l' := [(0, .inr (.inr 1826)), (1, .inl (f : Int)), (2, .inl (t : Int)), (3, .inl (h : Int)), (4, .inl (a : Int)), (5, .inl (b : Int)), (6, .inl (k : Int))]) (st' := [.inl ((64 * (a : Int)) + (k : Int)), .inr (.inr 1880), .inl ((64 * (b : Int)) + (k : Int)), .inr (.inr 1880)]) rfl ?_
        refine h_ild (c := 1880) (j := ((64 * a) + k)) (i := ((64 * (a : Int)) + (k : Int))) rfl rfl (by decide) (by omega) (by omega) ?_
        have g8 : -2147483648 ≤ (H1.1 1880 ((64 * a) + k)) ∧ (H1.1 1880 ((64 * a) + k)) ≤ 2147483647 := hrg5.2 1880 ((64 * a) + k) 40960 .int rfl (by omega)
        refine h_run 0 (pc' := 96) (l' := [(0, .inr (.inr 1826)), (1, .inl (f : Int)), (2, .inl (t : Int)), (3, .inl (h : Int)), (4, .inl (a : Int)), (5, .inl (b : Int)), (6, .inl (k : Int))]) (st' := [.inl (H1.1 1880 ((64 * a) + k)), .inl ((64 * (b : Int)) + (k : Int)), .inr (.inr 1880)]) rfl ?_
        refine h_ist (c := 1880) (j := ((64 * b) + k)) (i := ((64 * (b : Int)) + (k : Int))) (x := (H1.1 1880 ((64 * a) + k))) rfl rfl (by decide) (by decide) (by omega) (by omega) (by omega) ?_
        refine h_run 2 (pc' := 59) (l' := [(0, .inr (.inr 1826)), (1, .inl (f : Int)), (2, .inl (t : Int)), (3, .inl (h : Int)), (4, .inl (a : Int)), (5, .inl (b : Int)), (6, .inl ((k : Int) + 1))]) (st' := []) rfl ?_
        rw [show ((k : Int) + 1) = (((k + 1) : Nat) : Int) by omega]
        exact ih.2 _ h a b (k + 1) (kk) (fr_a hf (by decide)) (by omega) (by omega) (by omega) hkk htm hbs has (by omega) hz ho (fun x hx => (show up (H1.1 1880) (64 * b + k) ((H1.1 1880) (64 * a + k)) x = _ from (up_ne _ _ (by omega)).trans (hp9 x hx))) (by have h9 := cp_up (b := fun x => (H.1 1880) (64 * a + x)) hcp; show ∀ x, x < k + 1 → up (H1.1 1880) (64 * b + k) ((H1.1 1880) (64 * a + k)) (64 * b + x) = _; rw [show (H1.1 1880) (64 * a + k) = (H.1 1880) (64 * a + k) from hp9 _ (by omega)]; exact h9) (fun x hx => hOK_k (hpre x hx) rfl (fun y hy => (show up (H1.1 1880) (64 * b + k) ((H1.1 1880) (64 * a + k)) (64 * (16 * t + x) + y) = _ from up_ne _ _ (by omega)))) (by omega : 1000 * (2 * n - h) + (64 - (k + 1)) < w)
set_option maxRecDepth 100000 in
theorem m_copyHyps {zC : Nat → Option zsh} {d : Nat} (hd : 1 ≤ d) {H : hp} {P : hp} {f t n : Nat} (hft : f < 40 ∧ t < 40 ∧ f ≠ t) (hn : (H.1 1879) f = n ∧ n ≤ 8) (hh : ∀ h, h < 2 * n → hOK P H (16 * f + h)) : hG (zs zC) d mt_226 0 (zargs 0 [.inr (.inr 1826), .inl (f : Int), .inl (t : Int)]) [] H (fun r9 H2 => r9 = none ∧ fr [] [1879, 1880, 1881] H H2 ∧ hysOK P H2 t ∧ ∀ g, g ≠ t → sH H H2 g) := by
  refine h_rng (fun hrg0 => ?_)
  refine h_run 0 (pc' := 0) (l' := [(0, .inr (.inr 1826)), (1, .inl (f : Int)), (2, .inl (t : Int))]) (st' := []) rfl ?_
  refine h_run 6 (pc' := 10) (l' := [(0, .inr (.inr 1826)), (1, .inl (f : Int)), (2, .inl (t : Int))]) (st' := [.inl (f : Int), .inr (.inr 1879), .inl (t : Int), .inr (.inr 1879)]) rfl ?_
  refine h_ild (c := 1879) (j := f) (i := (f : Int)) rfl rfl (by decide) rfl (by omega) ?_
  have g9 : -2147483648 ≤ (H.1 1879 f) ∧ (H.1 1879 f) ≤ 2147483647 := hrg0.2 1879 f 40 .int rfl (by omega)
  refine h_run 0 (pc' := 11) (l' := [(0, .inr (.inr 1826)), (1, .inl (f : Int)), (2, .inl (t : Int))]) (st' := [.inl (H.1 1879 f), .inl (t : Int), .inr (.inr 1879)]) rfl ?_
  refine h_ist (c := 1879) (j := t) (i := (t : Int)) (x := (H.1 1879 f)) rfl rfl (by decide) (by decide) rfl (by omega) (by omega) ?_
  refine h_run 2 (pc' := 14) (l' := [(0, .inr (.inr 1826)), (1, .inl (f : Int)), (2, .inl (t : Int)), (3, .inl 0)]) (st' := []) rfl ?_
  exact (m_copyHyps_cut hd hft hn hh _).1 _ 0 (fr_a (fr_rf _ _ _) (by decide)) (by omega) (show up (H.1 1879) t ((H.1 1879) f) = _ by rw [hn.1]) (fun _ _ => rfl) (fun _ _ => rfl) (fun x hx => absurd hx (Nat.not_lt_zero _)) (Nat.lt_succ_self _)
