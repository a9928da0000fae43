/-! the reference: signs compared -/
/-! isSame -/
set_option maxRecDepth 100000 in
theorem m_isSame_cut {zC : Nat → Option zsh} {d : Nat} (hd : 1 ≤ d) {H : hp} {ca cb na nb f t p e : Nat} (hca : zs zC ca = some (.inr (.int, na))) (hcb : zs zC cb = some (.inr (.int, nb))) (hn : na ≤ 100000 ∧ nb ≤ 100000) (hft : f ≤ t ∧ t ≤ na) (hpe : p ≤ e ∧ e ≤ nb) : ∀ w : Nat, (∀ (i : Nat) (b : Nat), (i ≤ t - f) → (b ≤ 1) → (hid (b = 1 → t - f = e - p ∧ ∀ x, x < i → H.1 ca (f + x) = H.1 cb (p + x))) → t - f - i < w → hG (zs zC) d mt_241 21 [(0, .inr (.inr ca)), (1, .inl (f : Int)), (2, .inl (t : Int)), (3, .inr (.inr cb)), (4, .inl (p : Int)), (6, .inl (b : Int)), (7, .inl (i : Int))] [] H (fun r9 H2 => ((r9 = some (.inl 1) ∧ t - f = e - p ∧ ∀ x, x < t - f → H.1 ca (f + x) = H.1 cb (p + x)) ∨ r9 = some (.inl 0)) ∧ H = H2)) := by
  intro w
  induction w with
  | zero => exact fun _ _ _ _ _ h => absurd h (Nat.not_lt_zero _)
  | succ w ih =>
    intro i b hi hb1 hb hw
    refine h_rng (fun hrg1 => ?_)
    refine h_run 1 (pc' := 23) (l' := [(0, .inr (.inr ca)), (1, .inl (f : Int)), (2, .inl (t : Int)), (3, .inr (.inr cb)), (4, .inl (p : Int)), (6, .inl (b : Int)), (7, .inl (i : Int))]) (st' := [.inl (b : Int)]) rfl ?_
    refine h_zeq (off := 40) (t := 63) rfl rfl (by omega) (fun c2 => ?_) (fun c2 => ?_)
    · refine h_run 1 (pc' := 65) (l' := [(0, .inr (.inr ca)), (1, .inl (f : Int)), (2, .inl (t : Int)), (3, .inr (.inr cb)), (4, .inl (p : Int)), (6, .inl (b : Int)), (7, .inl (i : Int))]) (st' := [.inl (b : Int)]) rfl ?_
      refine h_retz (x := (b : Int)) rfl rfl (by first | omega | decide) ?_
      refine ⟨?_, rfl⟩
      by_cases e9 : b = 1
      · exact Or.inl ⟨by rw [e9]; rfl, (hb e9).1, fun x hx => (hb e9).2 x (by omega)⟩
      · exact Or.inr (by rw [show b = 0 by omega]; rfl)
    · refine h_run 4 (pc' := 31) (l' := [(0, .inr (.inr ca)), (1, .inl (f : Int)), (2, .inl (t : Int)), (3, .inr (.inr cb)), (4, .inl (p : Int)), (6, .inl (b : Int)), (7, .inl (i : Int))]) (st' := [.inl ((t : Int) - (f : Int)), .inl (i : Int)]) rfl ?_
      refine h_ige (off := 32) (t := 63) rfl rfl (by omega) (by omega) (fun c3 => ?_) (fun c3 => ?_)
      · refine h_run 1 (pc' := 65) (l' := [(0, .inr (.inr ca)), (1, .inl (f : Int)), (2, .inl (t : Int)), (3, .inr (.inr cb)), (4, .inl (p : Int)), (6, .inl (b : Int)), (7, .inl (i : Int))]) (st' := [.inl (b : Int)]) rfl ?_
        refine h_retz (x := (b : Int)) rfl rfl (by first | omega | decide) ?_
        refine ⟨?_, rfl⟩
        by_cases e9 : b = 1
        · exact Or.inl ⟨by rw [e9]; rfl, (hb e9).1, fun x hx => (hb e9).2 x (by omega)⟩
        · exact Or.inr (by rw [show b = 0 by omega]; rfl)
      · have hbe := (hb (by omega)).1
        refine h_run 4 (pc' := 39) (l' := [(0, .inr (.inr ca)), (1, .inl (f : Int)), (2, .inl (t : Int)), (3, .inr (.inr cb)), (4, .inl (p : Int)), (6, .inl (b : Int)), (7, .inl (i : Int))]) (st' := [.inl ((f : Int) + (i : Int)), .inr (.inr ca)]) rfl ?_
        refine h_ild (c := ca) (j := (f + i)) (i := ((f : Int) + (i : Int))) rfl hca (by omega) (by omega) (by omega) ?_
        have g4 : -2147483648 ≤ (H.1 ca (f + i)) ∧ (H.1 ca (f + i)) ≤ 2147483647 := hrg1.2 ca (f + i) na .int hca (by omega)
        refine h_run 0 (pc' := 40) (l' := [(0, .inr (.inr ca)), (1, .inl (f : Int)), (2, .inl (t : Int)), (3, .inr (.inr cb)), (4, .inl (p : Int)), (6, .inl (b : Int)), (7, .inl (i : Int))]) (st' := [.inl (H.1 ca (f + i))]) rfl ?_
        refine h_run 4 (pc' := 46) (l' := [(0, .inr (.inr ca)), (1, .inl (f : Int)), (2, .inl (t : Int)), (3, .inr (.inr cb)), (4, .inl (p : Int)), (6, .inl (b : Int)), (7, .inl (i : Int))]) (st' := [.inl ((p : Int) + (i : Int)), .inr (.inr cb), .inl (H.1 ca (f + i))]) rfl ?_
        refine h_ild (c := cb) (j := (p + i)) (i := ((p : Int) + (i : Int))) rfl hcb (by omega) (by omega) (by omega) ?_
        have g5 : -2147483648 ≤ (H.1 cb (p + i)) ∧ (H.1 cb (p + i)) ≤ 2147483647 := hrg1.2 cb (p + i) nb .int hcb (by omega)
        refine h_run 0 (pc' := 47) (l' := [(0, .inr (.inr ca)), (1, .inl (f : Int)), (2, .inl (t : Int)), (3, .inr (.inr cb)), (4, .inl (p : Int)), (6, .inl (b : Int)), (7, .inl (i : Int))]) (st' := [.inl (H.1 cb (p + i)), .inl (H.1 ca (f + i))]) rfl ?_
        refine h_ine (off := 7) (t := 54) rfl rfl (by omega) (by omega) (fun c6 => ?_) (fun c6 => ?_)
        · refine h_run 4 (pc' := 21) (l' := [(0, .inr (.inr ca)), (1, .inl (f : Int)), (2, .inl (t : Int)), (3, .inr (.inr cb)), (4, .inl (p : Int)), (6, .inl 0), (7, .inl ((i : Int) + 1))]) (st' := []) rfl ?_
          rw [show ((i : Int) + 1) = (((i + 1) : Nat) : Int) by omega]
          exact ih (i + 1) 0 (by omega) (by omega) (fun q9 => absurd q9 (by decide)) (by omega : t - f - (i + 1) < w)
        · refine h_run 5 (pc' := 21) (l' := [(0, .inr (.inr ca)), (1, .inl (f : Int)), (2, .inl (t : Int)), (3, .inr (.inr cb)), (4, .inl (p : Int)), (6, .inl 1), (7, .inl ((i : Int) + 1))]) (st' := []) rfl ?_
          rw [show ((i : Int) + 1) = (((i + 1) : Nat) : Int) by omega]
          exact ih (i + 1) 1 (by omega) (by omega) (fun _ => ⟨(hb (by omega)).1, fun x hx => by by_cases e9 : x = i; { rw [e9]; omega }; { exact (hb (by omega)).2 x (by omega) }⟩) (by omega : t - f - (i + 1) < w)
set_option maxRecDepth 100000 in
theorem m_isSame {zC : Nat → Option zsh} {d : Nat} (hd : 1 ≤ d) {H : hp} {ca cb na nb f t p e : Nat} (hca : zs zC ca = some (.inr (.int, na))) (hcb : zs zC cb = some (.inr (.int, nb))) (hn : na ≤ 100000 ∧ nb ≤ 100000) (hft : f ≤ t ∧ t ≤ na) (hpe : p ≤ e ∧ e ≤ nb) : hG (zs zC) d mt_241 0 (zargs 0 [.inr (.inr ca), .inl (f : Int), .inl (t : Int), .inr (.inr cb), .inl (p : Int), .inl (e : Int)]) [] H (fun r9 H2 => ((r9 = some (.inl 1) ∧ t - f = e - p ∧ ∀ x, x < t - f → H.1 ca (f + x) = H.1 cb (p + x)) ∨ r9 = some (.inl 0)) ∧ H = H2) := by
  refine h_rng (fun hrg0 => ?_)
  refine h_run 0 (pc' := 0) (l' := [(0, .inr (.inr ca)), (1, .inl (f : Int)), (2, .inl (t : Int)), (3, .inr (.inr cb)), (4, .inl (p : Int)), (5, .inl (e : Int))]) (st' := []) rfl ?_
  refine h_run 6 (pc' := 8) (l' := [(0, .inr (.inr ca)), (1, .inl (f : Int)), (2, .inl (t : Int)), (3, .inr (.inr cb)), (4, .inl (p : Int)), (5, .inl (e : Int))]) (st' := [.inl ((e : Int) - (p : Int)), .inl ((t : Int) - (f : Int))]) rfl ?_
  refine h_ine (off := 7) (t := 15) rfl rfl (by omega) (by omega) (fun c7 => ?_) (fun c7 => ?_)
  · refine h_run 4 (pc' := 21) (l' := [(0, .inr (.inr ca)), (1, .inl (f : Int)), (2, .inl (t : Int)), (3, .inr (.inr cb)), (4, .inl (p : Int)), (5, .inl (e : Int)), (6, .inl 0), (7, .inl 0)]) (st' := []) rfl ?_
    refine h_loc [0, 1, 2, 3, 4, 6, 7] rfl ?_
    exact (m_isSame_cut hd hca hcb hn hft hpe _) 0 0 (by omega) (by omega) (fun q9 => absurd q9 (by decide)) (Nat.lt_succ_self _)
  · refine h_run 5 (pc' := 21) (l' := [(0, .inr (.inr ca)), (1, .inl (f : Int)), (2, .inl (t : Int)), (3, .inr (.inr cb)), (4, .inl (p : Int)), (5, .inl (e : Int)), (6, .inl 1), (7, .inl 0)]) (st' := []) rfl ?_
    refine h_loc [0, 1, 2, 3, 4, 6, 7] rfl ?_
    exact (m_isSame_cut hd hca hcb hn hft hpe _) 0 1 (by omega) (by omega) (fun _ => ⟨by omega, fun x hx => absurd hx (Nat.not_lt_zero _)⟩) (Nat.lt_succ_self _)
