/-! the reference tries a row, told exactly -/
def bE (z : Int) : Int := if z = 0 then 1 else 0
theorem bE_b (z : Int) : 0 ≤ bE z ∧ bE z ≤ 1 := by
  unfold bE
  split <;> decide
theorem bE_1 {z : Int} : bE z = 1 ↔ z = 0 := by
  unfold bE
  split
  · exact ⟨fun _ => by assumption, fun _ => rfl⟩
  · exact ⟨fun h => absurd h (by decide), fun h => absurd h (by assumption)⟩
theorem z_and_1 {x y : Int} (hx : 0 ≤ x ∧ x ≤ 1) (hy : 0 ≤ y ∧ y ≤ 1) : z_and x y = if x = 1 ∧ y = 1 then 1 else 0 := by
  rcases (show x = 0 ∨ x = 1 by omega) with rfl | rfl <;> rcases (show y = 0 ∨ y = 1 by omega) with rfl | rfl <;> decide
/-- what a row has come to before its side s -/
def Q4 (EL ER : Int × Int × List Int) (bb os ts : Int) (ot tr : Nat → Int) (s : Nat) : Prop := (s = 0 → bb = 1) ∧ (s = 1 → bb = bE EL.1) ∧ (1 ≤ s → os = (EL.2.2.length : Int) ∧ MK ot EL.2.2.length EL.2.2) ∧ (s = 2 → (bb = if EL.1 = 0 ∧ ER.1 = 0 then 1 else 0) ∧ ts = (ER.2.2.length : Int) ∧ MK tr ER.2.2.length ER.2.2 ∧ ER.2.2.length ≤ 240)
/-- the law's sides are the machine's -/
def LR9 (H : hp) (X : rx) (l : Nat) : Prop := ∀ s : Nat, s < 2 → (H.1 1843) (2 * l + s) = X (4 * l + 102 + s) 0 ∧ ∀ k : Nat, (k : Int) < (H.1 1843) (2 * l + s) → (H.1 1842) (48 * (2 * l + s) + k) = X (4 * l + 102 + s) (k + 1)
def sdX (X : rx) (l s k : Nat) : Int := X (4 * l + 102 + s) (k + 1)
def flX (X : rx) (l s : Nat) (vs : Nat → List Int) : List Int := fil (sdX X l s) vs (X (4 * l + 102 + s) 0).toNat
def rO9 (EL ER : Int × Int × List Int) : Int := if EL.1 = 0 ∧ ER.1 = 0 then (if EL.2.2 = ER.2.2 then 0 else 1) else 2
theorem fil_v {a : Nat → Int} {vs : Nat → List Int} {k : Nat} (h : 1000 ≤ a k) : fil a vs (k + 1) = fil a vs k ++ vs (a k - 1000).toNat := by
  show _ ++ (if 1000 ≤ a k then _ else _) = _
  rw [if_pos h]
theorem fil_c {a : Nat → Int} {vs : Nat → List Int} {k : Nat} (h : ¬ 1000 ≤ a k) : fil a vs (k + 1) = fil a vs k ++ [a k] := by
  show _ ++ (if 1000 ≤ a k then _ else _) = _
  rw [if_neg h]


theorem Q4_2 {EL ER : Int × Int × List Int} {bb y os ts : Int} {ot tr : Nat → Int} {s M : Nat} {l2 : List Int} {r bz : Int} (h : Q4 EL ER bb os 0 ot (fun _ => 0) s) (hs : s = 1) (hr : r = ER.1) (hl : l2 = ER.2.2) (hy : y = bE r) (hbz : bz = if bb = 1 ∧ y = 1 then 1 else 0) (hts : ts = (M : Int)) (hm : MK tr M l2) (hM : M ≤ 240) : Q4 EL ER bz os ts ot tr (s + 1) := by
  obtain ⟨-, h2, h3, -⟩ := h
  refine ⟨fun q => by omega, fun q => by omega, fun _ => h3 (by omega), fun _ => ⟨?_, by rw [hts, ← hl, hm.1], by rw [← hl, hm.1]; exact hm, by rw [← hl, hm.1]; exact hM⟩⟩
  rw [hbz, h2 hs, hy, hr]
  by_cases q : EL.1 = 0 ∧ ER.1 = 0
  · rw [if_pos ⟨bE_1.mpr q.1, bE_1.mpr q.2⟩, if_pos q]
  · rw [if_neg (fun q2 => q ⟨bE_1.mp q2.1, bE_1.mp q2.2⟩), if_neg q]
theorem Q4_b {EL ER : Int × Int × List Int} {bb y os : Int} {ot : Nat → Int} {s : Nat} {r bz : Int} (h : Q4 EL ER bb os 0 ot (fun _ => 0) s) (hs : s = 0) (hr : r = EL.1) (hy : y = bE r) (hbz : bz = if bb = 1 ∧ y = 1 then 1 else 0) : bz = bE EL.1 := by
  rw [hbz, h.1 hs, hy, hr]
  have h1 := bE_b EL.1
  by_cases q : bE EL.1 = 1
  · rw [if_pos ⟨rfl, q⟩, q]
  · rw [if_neg (fun q2 => q q2.2)]
    omega
theorem Q4_1 {EL ER : Int × Int × List Int} {bb os ts : Int} {ot tr : Nat → Int} {s : Nat} (hb : bb = bE EL.1) (ho : os = (EL.2.2.length : Int)) (hm : MK ot EL.2.2.length EL.2.2) (hs : s = 0) : Q4 EL ER bb os ts ot tr (s + 1) := ⟨fun q => by omega, fun _ => hb, fun _ => ⟨ho, hm⟩, fun q => by omega⟩
theorem MK_eq {m m' : Nat → Int} {l l' : List Int} (h : MK m l.length l) (g : MK m' l'.length l') (e : l.length = l'.length) (h2 : ∀ y, y < l.length → m y = m' y) : l = l' := list_ga e (fun x hx => by rw [← h.2 x hx, ← g.2 x (by omega), h2 x hx])

/-! row -/
set_option maxRecDepth 100000 in
theorem n_row_cut {zC : Nat → Option zsh} {d : Nat} (hd : 7 ≤ d) {H : hp} {X : rx} {Ls : Nat → vls} {vs : Nat → List Int} {l : Nat} (hP : PWc H) (hX : RZ9 H X) (hl : (l : Int) < (H.1 1826 19)) (hLR : LR9 H X l) (hV : VS (H.1 1826 1) (H.1 1861) (H.1 1862) (H.1 1863) Ls) (hN : ∀ v : Nat, (v : Int) < (H.1 1845) l → 0 ≤ (H.1 1868) v ∧ (Ls ((H.1 1846) (6 * l + v)).toNat)[((H.1 1868) v).toNat]? = some (vs v)) (hft : ∀ s : Nat, s < 2 → tm (ma (H.1 1833) (H.1 1830)) (m_sg (H.1 1826 3) (H.1 1826 8) 0) (ga (flX X l s vs)) (flX X l s vs).length 0 1) (hv6 : ∀ v : Nat, (v : Int) < (H.1 1845) l → 1 ≤ (vs v).length ∧ (vs v).length ≤ 6) : ∀ w : Nat, (∀ (H1 : hp) (bb : Int) (s : Nat), (fr [50, 51, 53, 55, 56, 72] [1855, 1856, 1857, 1869] H H1) → (0 ≤ bb ∧ bb ≤ 1) → (s ≤ 2) → (Q4 (evF (ma (H.1 1833) (H.1 1830)) X 300 (flX X l 0 vs) 0) (evF (ma (H.1 1833) (H.1 1830)) X 300 (flX X l 1 vs) 0) bb (H1.1 1826 72) (H1.1 1826 55) (H1.1 1869) (H1.1 1857) s) → 1000000 - 100000 * s < w → hG (zs zC) d mt_219 4 [(0, .inr (.inr 1826)), (1, .inl (l : Int)), (2, .inl bb), (3, .inl (s : Int))] [] H1 (fun r9 H2 => fr [50, 51, 53, 55, 56, 72] [1855, 1856, 1857, 1869] H H2 ∧ ∃ r0 : Int, r9 = some (.inl r0) ∧ r0 = rO9 (evF (ma (H.1 1833) (H.1 1830)) X 300 (flX X l 0 vs) 0) (evF (ma (H.1 1833) (H.1 1830)) X 300 (flX X l 1 vs) 0))) ∧ (∀ (H1 : hp) (bb : Int) (s : Nat) (i : Nat) (p : Nat), (fr [50, 51, 53, 55, 56, 72] [1855, 1856, 1857, 1869] H H1) → (0 ≤ bb ∧ bb ≤ 1) → (s < 2) → (i ≤ 40 ∧ (i : Int) ≤ (H.1 1843) (2 * l + s)) → ((H1.1 1826 53) = (p : Int)) → (p ≤ 6 * i) → (MK (H1.1 1856) p (fil (sdX X l s) vs i)) → (hid (Q4 (evF (ma (H.1 1833) (H.1 1830)) X 300 (flX X l 0 vs) 0) (evF (ma (H.1 1833) (H.1 1830)) X 300 (flX X l 1 vs) 0) bb (H1.1 1826 72) 0 (H1.1 1869) (fun _ => 0) s)) → 1000000 - 100000 * s - 100 - 100 * i < w → hG (zs zC) d mt_219 17 [(0, .inr (.inr 1826)), (1, .inl (l : Int)), (2, .inl bb), (3, .inl (s : Int)), (4, .inl (i : Int))] [] H1 (fun r9 H2 => fr [50, 51, 53, 55, 56, 72] [1855, 1856, 1857, 1869] H H2 ∧ ∃ r0 : Int, r9 = some (.inl r0) ∧ r0 = rO9 (evF (ma (H.1 1833) (H.1 1830)) X 300 (flX X l 0 vs) 0) (evF (ma (H.1 1833) (H.1 1830)) X 300 (flX X l 1 vs) 0))) ∧ (∀ (H1 : hp) (bb : Int) (s : Nat) (i : Nat) (q : Nat) (x : Nat) (p : Nat), (fr [50, 51, 53, 55, 56, 72] [1855, 1856, 1857, 1869] H H1) → (0 ≤ bb ∧ bb ≤ 1) → (s < 2) → (i < 40 ∧ (i : Int) < (H.1 1843) (2 * l + s)) → (1000 ≤ sdX X l s i ∧ sdX X l s i < 1000 + (H.1 1845) l) → (x ≤ (vs (sdX X l s i - 1000).toNat).length) → ((H1.1 1826 53) = ((p + x : Nat) : Int)) → (p ≤ 6 * i) → (q < 12006) → ((H.1 1862) q = ((vs (sdX X l s i - 1000).toNat).length : Int) ∧ ∀ y, y < (vs (sdX X l s i - 1000).toNat).length → (H.1 1861) (7 * q + y) = ga (vs (sdX X l s i - 1000).toNat) y) → (MK (H1.1 1856) p (fil (sdX X l s) vs i)) → (∀ y, y < x → (H1.1 1856) (p + y) = (H.1 1861) (7 * q + y)) → (hid (Q4 (evF (ma (H.1 1833) (H.1 1830)) X 300 (flX X l 0 vs) 0) (evF (ma (H.1 1833) (H.1 1830)) X 300 (flX X l 1 vs) 0) bb (H1.1 1826 72) 0 (H1.1 1869) (fun _ => 0) s)) → 1000000 - 100000 * s - 100 - 100 * i - 10 - x < w → hG (zs zC) d mt_219 95 [(0, .inr (.inr 1826)), (1, .inl (l : Int)), (2, .inl bb), (3, .inl (s : Int)), (4, .inl (i : Int)), (7, .inl (q : Int)), (8, .inl (x : Int))] [] H1 (fun r9 H2 => fr [50, 51, 53, 55, 56, 72] [1855, 1856, 1857, 1869] H H2 ∧ ∃ r0 : Int, r9 = some (.inl r0) ∧ r0 = rO9 (evF (ma (H.1 1833) (H.1 1830)) X 300 (flX X l 0 vs) 0) (evF (ma (H.1 1833) (H.1 1830)) X 300 (flX X l 1 vs) 0))) ∧ (∀ (H1 : hp) (bb : Int) (s : Nat) (i : Nat) (p : Nat), (fr [50, 51, 53, 55, 56, 72] [1855, 1856, 1857, 1869] H H1) → (0 ≤ bb ∧ bb ≤ 1) → (s < 2) → (i ≤ p ∧ p ≤ 240) → ((H1.1 1826 53) = (p : Int)) → ((H1.1 1826 55) = (p : Int)) → (MK (H1.1 1856) p (flX X l s vs)) → (∀ y, y < i → (H1.1 1857) y = (H1.1 1856) y) → (hid (Q4 (evF (ma (H.1 1833) (H.1 1830)) X 300 (flX X l 0 vs) 0) (evF (ma (H.1 1833) (H.1 1830)) X 300 (flX X l 1 vs) 0) bb (H1.1 1826 72) 0 (H1.1 1869) (fun _ => 0) s)) → 1000000 - 100000 * s - 10000 - i < w → hG (zs zC) d mt_219 186 [(0, .inr (.inr 1826)), (1, .inl (l : Int)), (2, .inl bb), (3, .inl (s : Int)), (4, .inl (i : Int))] [] H1 (fun r9 H2 => fr [50, 51, 53, 55, 56, 72] [1855, 1856, 1857, 1869] H H2 ∧ ∃ r0 : Int, r9 = some (.inl r0) ∧ r0 = rO9 (evF (ma (H.1 1833) (H.1 1830)) X 300 (flX X l 0 vs) 0) (evF (ma (H.1 1833) (H.1 1830)) X 300 (flX X l 1 vs) 0))) ∧ (∀ (H1 : hp) (bb : Int) (s : Nat) (i : Nat), (fr [50, 51, 53, 55, 56, 72] [1855, 1856, 1857, 1869] H H1) → (0 ≤ bb ∧ bb ≤ 1) → (s = 0) → (bb = bE (evF (ma (H.1 1833) (H.1 1830)) X 300 (flX X l 0 vs) 0).1) → ((H1.1 1826 55) = ((evF (ma (H.1 1833) (H.1 1830)) X 300 (flX X l 0 vs) 0).2.2.length : Int) ∧ (evF (ma (H.1 1833) (H.1 1830)) X 300 (flX X l 0 vs) 0).2.2.length ≤ 240) → ((H1.1 1826 72) = ((evF (ma (H.1 1833) (H.1 1830)) X 300 (flX X l 0 vs) 0).2.2.length : Int)) → (MK (H1.1 1857) (evF (ma (H.1 1833) (H.1 1830)) X 300 (flX X l 0 vs) 0).2.2.length (evF (ma (H.1 1833) (H.1 1830)) X 300 (flX X l 0 vs) 0).2.2) → (∀ y, y < i → (H1.1 1869) y = (H1.1 1857) y) → (i ≤ 240) → 1000000 - 100000 * s - 20000 - i < w → hG (zs zC) d mt_219 248 [(0, .inr (.inr 1826)), (1, .inl (l : Int)), (2, .inl bb), (3, .inl (s : Int)), (4, .inl (i : Int))] [] H1 (fun r9 H2 => fr [50, 51, 53, 55, 56, 72] [1855, 1856, 1857, 1869] H H2 ∧ ∃ r0 : Int, r9 = some (.inl r0) ∧ r0 = rO9 (evF (ma (H.1 1833) (H.1 1830)) X 300 (flX X l 0 vs) 0) (evF (ma (H.1 1833) (H.1 1830)) X 300 (flX X l 1 vs) 0))) ∧ (∀ (H1 : hp) (b3 : Int) (i : Nat), (fr [50, 51, 53, 55, 56, 72] [1855, 1856, 1857, 1869] H H1) → (0 ≤ b3 ∧ b3 ≤ 1) → ((evF (ma (H.1 1833) (H.1 1830)) X 300 (flX X l 0 vs) 0).1 = 0 ∧ (evF (ma (H.1 1833) (H.1 1830)) X 300 (flX X l 1 vs) 0).1 = 0) → (((H1.1 1826 55) = ((evF (ma (H.1 1833) (H.1 1830)) X 300 (flX X l 1 vs) 0).2.2.length : Int) ∧ MK (H1.1 1857) (evF (ma (H.1 1833) (H.1 1830)) X 300 (flX X l 1 vs) 0).2.2.length (evF (ma (H.1 1833) (H.1 1830)) X 300 (flX X l 1 vs) 0).2.2) ∧ (H1.1 1826 72) = ((evF (ma (H.1 1833) (H.1 1830)) X 300 (flX X l 0 vs) 0).2.2.length : Int) ∧ MK (H1.1 1869) (evF (ma (H.1 1833) (H.1 1830)) X 300 (flX X l 0 vs) 0).2.2.length (evF (ma (H.1 1833) (H.1 1830)) X 300 (flX X l 0 vs) 0).2.2) → (b3 = 1 → (H1.1 1826 55) = (H1.1 1826 72) ∧ ∀ y, y < i → (H1.1 1857) y = (H1.1 1869) y) → (b3 = 0 → (evF (ma (H.1 1833) (H.1 1830)) X 300 (flX X l 0 vs) 0).2.2 ≠ (evF (ma (H.1 1833) (H.1 1830)) X 300 (flX X l 1 vs) 0).2.2) → ((evF (ma (H.1 1833) (H.1 1830)) X 300 (flX X l 1 vs) 0).2.2.length ≤ 240) → (i ≤ 240) → 1000 - i < w → hG (zs zC) d mt_219 309 [(0, .inr (.inr 1826)), (1, .inl (l : Int)), (3, .inl b3), (4, .inl (i : Int))] [] H1 (fun r9 H2 => fr [50, 51, 53, 55, 56, 72] [1855, 1856, 1857, 1869] H H2 ∧ ∃ r0 : Int, r9 = some (.inl r0) ∧ r0 = rO9 (evF (ma (H.1 1833) (H.1 1830)) X 300 (flX X l 0 vs) 0) (evF (ma (H.1 1833) (H.1 1830)) X 300 (flX X l 1 vs) 0))) := by
  intro w
  induction w with
  | zero => exact ⟨fun _ _ _ _ _ _ _ h => absurd h (Nat.not_lt_zero _), fun _ _ _ _ _ _ _ _ _ _ _ _ _ h => absurd h (Nat.not_lt_zero _), fun _ _ _ _ _ _ _ _ _ _ _ _ _ _ _ _ _ _ _ _ h => absurd h (Nat.not_lt_zero _), fun _ _ _ _ _ _ _ _ _ _ _ _ _ _ h => absurd h (Nat.not_lt_zero _), fun _ _ _ _ _ _ _ _ _ _ _ _ _ h => absurd h (Nat.not_lt_zero _), fun _ _ _ _ _ _ _ _ _ _ _ h => absurd h (Nat.not_lt_zero _)⟩
  | succ w ih =>
    refine ⟨?_, ?_, ?_, ?_, ?_, ?_⟩
    · intro H1 bb s hf hbb hs hq4 hw
      refine h_rng (fun hrg1 => ?_)
      obtain ⟨⟨pb1, pb2, pb3, pb4, pb5⟩, pw1, pw2, pw3, pw4⟩ := (id hP : PW H (H.1 1826 1) (H.1 1826 3) (H.1 1826 8) (H.1 1826 13) (H.1 1826 19))
      obtain ⟨v9, ⟨lv1, lv2⟩, lv3, lv4⟩ := pw4 l (by omega)
      refine h_run 2 (pc' := 6) (l' := [(0, .inr (.inr 1826)), (1, .inl (l : Int)), (2, .inl bb), (3, .inl (s : Int))]) (st' := [.inl 2, .inl (s : Int)]) rfl ?_
      refine h_ige (off := 277) (t := 283) rfl rfl (by omega) (by decide) (fun c2 => ?_) (fun c2 => ?_)
      · refine h_run 1 (pc' := 284) (l' := [(0, .inr (.inr 1826)), (1, .inl (l : Int)), (2, .inl bb), (3, .inl (s : Int))]) (st' := [.inl bb]) rfl ?_
        refine h_zne (off := 5) (t := 289) rfl rfl (by omega) (fun c3 => ?_) (fun c3 => ?_)
        · obtain ⟨-, -, q43, q44⟩ := id hq4
          obtain ⟨q44a, q44b, q44c, hl240⟩ := q44 (by omega)
          obtain ⟨q43a, q43b⟩ := q43 (by omega)
          have hz2 : (evF (ma (H.1 1833) (H.1 1830)) X 300 (flX X l 0 vs) 0).1 = 0 ∧ (evF (ma (H.1 1833) (H.1 1830)) X 300 (flX X l 1 vs) 0).1 = 0 := by by_cases q9 : (evF (ma (H.1 1833) (H.1 1830)) X 300 (flX X l 0 vs) 0).1 = 0 ∧ (evF (ma (H.1 1833) (H.1 1830)) X 300 (flX X l 1 vs) 0).1 = 0; { exact q9 }; { rw [if_neg q9] at q44a; exfalso; omega }
          have hto := And.intro (And.intro q44b q44c) (And.intro q43a q43b)
          refine h_run 2 (pc' := 293) (l' := [(0, .inr (.inr 1826)), (1, .inl (l : Int)), (2, .inl bb), (3, .inl (s : Int))]) (st' := [.inl (H1.1 1826 55)]) rfl ?_
          have g4 : -2147483648 ≤ (H1.1 1826 55) ∧ (H1.1 1826 55) ≤ 2147483647 := hrg1.1 1826 13 55 _ .int rfl rfl
          refine h_run 2 (pc' := 297) (l' := [(0, .inr (.inr 1826)), (1, .inl (l : Int)), (2, .inl bb), (3, .inl (s : Int))]) (st' := [.inl (H1.1 1826 72), .inl (H1.1 1826 55)]) rfl ?_
          have g5 : -2147483648 ≤ (H1.1 1826 72) ∧ (H1.1 1826 72) ≤ 2147483647 := hrg1.1 1826 13 72 _ .int rfl rfl
          refine h_ine (off := 7) (t := 304) rfl rfl (by omega) (by omega) (fun c6 => ?_) (fun c6 => ?_)
          · refine h_run 4 (pc' := 309) (l' := [(0, .inr (.inr 1826)), (1, .inl (l : Int)), (2, .inl bb), (3, .inl 0), (4, .inl 0)]) (st' := []) rfl ?_
            refine h_loc [0, 1, 3, 4] rfl ?_
            exact ih.2.2.2.2.2 _ (0 : Int) 0 hf (by omega) hz2 hto (fun q9 => ⟨by omega, fun _ h8 => absurd h8 (Nat.not_lt_zero _)⟩) (fun q9 q8 => by rw [q8] at hto; obtain ⟨⟨t1, t2⟩, t3, t4⟩ := hto; omega) hl240 (by omega) (by omega : 1000 - 0 < w)
          · refine h_run 5 (pc' := 309) (l' := [(0, .inr (.inr 1826)), (1, .inl (l : Int)), (2, .inl bb), (3, .inl 1), (4, .inl 0)]) (st' := []) rfl ?_
            refine h_loc [0, 1, 3, 4] rfl ?_
            exact ih.2.2.2.2.2 _ (1 : Int) 0 hf (by omega) hz2 hto (fun q9 => ⟨by omega, fun _ h8 => absurd h8 (Nat.not_lt_zero _)⟩) (fun q9 q8 => by rw [q8] at hto; obtain ⟨⟨t1, t2⟩, t3, t4⟩ := hto; omega) hl240 (by omega) (by omega : 1000 - 0 < w)
        · refine h_run 1 (pc' := 288) (l' := [(0, .inr (.inr 1826)), (1, .inl (l : Int)), (2, .inl bb), (3, .inl (s : Int))]) (st' := [.inl 2]) rfl ?_
          refine h_reti (x := 2) rfl rfl ?_
          refine ⟨hf, _, rfl, ?_⟩
          obtain ⟨-, -, -, q44⟩ := id hq4
          obtain ⟨q44a, -⟩ := q44 (by omega)
          unfold rO9
          rw [if_neg (fun q9 => by rw [if_pos q9] at q44a; omega)]
      · obtain ⟨k9, ⟨kk1, kk2⟩, kk3⟩ := lv4 s (by omega)
        obtain ⟨hls1, hls2⟩ := hLR s (by omega)
        have hsz9 : (X (4 * l + 102 + s) 0).toNat = ((H.1 1843) (2 * l + s)).toNat := by rw [hls1]
        refine h_run 2 (pc' := 11) (l' := [(0, .inr (.inr 1826)), (1, .inl (l : Int)), (2, .inl bb), (3, .inl (s : Int))]) (st' := [.inl 0, .inr (.inr 1826)]) rfl ?_
        refine h_puti (i := 437) (ci := 13) (k := 53) (a := 1826) (x := 0) rfl rfl rfl rfl rfl rfl (by decide) (by decide) ?_
        refine h_run 2 (pc' := 17) (l' := [(0, .inr (.inr 1826)), (1, .inl (l : Int)), (2, .inl bb), (3, .inl (s : Int)), (4, .inl 0)]) (st' := []) rfl ?_
        exact ih.2.1 _ bb s 0 (0) (fr_o hf (by decide)) hbb (by omega) (by omega) (by omega : (0 : Int) = ((0) : Int)) (by omega) (MK_0 (m := (H1.1 1856))) (by obtain ⟨a1, a2, a3, -⟩ := id hq4; exact ⟨a1, a2, a3, fun q9 => by exfalso; omega⟩) (by omega : 1000000 - 100000 * s - 100 - 100 * 0 < w)
    · intro H1 bb s i p hf hbb hs hi hms hp6 hmk hq4 hw
      refine h_rng (fun hrg7 => ?_)
      obtain ⟨⟨pb1, pb2, pb3, pb4, pb5⟩, pw1, pw2, pw3, pw4⟩ := (id hP : PW H (H.1 1826 1) (H.1 1826 3) (H.1 1826 8) (H.1 1826 13) (H.1 1826 19))
      obtain ⟨v9, ⟨lv1, lv2⟩, lv3, lv4⟩ := pw4 l (by omega)
      obtain ⟨k9, ⟨kk1, kk2⟩, kk3⟩ := lv4 s (by omega)
      obtain ⟨hls1, hls2⟩ := hLR s (by omega)
      have hsz9 : (X (4 * l + 102 + s) 0).toNat = ((H.1 1843) (2 * l + s)).toNat := by rw [hls1]
      refine h_run 8 (pc' := 28) (l' := [(0, .inr (.inr 1826)), (1, .inl (l : Int)), (2, .inl bb), (3, .inl (s : Int)), (4, .inl (i : Int))]) (st' := [.inl ((2 * (l : Int)) + (s : Int)), .inr (.inr 1843), .inl (i : Int)]) rfl ?_
      refine h_ild (c := 1843) (j := ((2 * l) + s)) (i := ((2 * (l : Int)) + (s : Int))) rfl rfl (by decide) (by omega) (by omega) ?_
      have g8 : -2147483648 ≤ (H1.1 1843 ((2 * l) + s)) ∧ (H1.1 1843 ((2 * l) + s)) ≤ 2147483647 := hrg7.2 1843 ((2 * l) + s) 32 .int rfl (by omega)
      have e9 : (H1.1 1843 ((2 * l) + s)) = (H.1 1843 ((2 * l) + s)) := congrFun (hf.2.1 1843 (by decide) (by decide)) ((2 * l) + s)
      refine h_run 0 (pc' := 29) (l' := [(0, .inr (.inr 1826)), (1, .inl (l : Int)), (2, .inl bb), (3, .inl (s : Int)), (4, .inl (i : Int))]) (st' := [.inl (H1.1 1843 ((2 * l) + s)), .inl (i : Int)]) rfl ?_
      refine h_ige (off := 146) (t := 175) rfl rfl (by omega) (by omega) (fun c10 => ?_) (fun c10 => ?_)
      · refine h_run 3 (pc' := 180) (l' := [(0, .inr (.inr 1826)), (1, .inl (l : Int)), (2, .inl bb), (3, .inl (s : Int)), (4, .inl (i : Int))]) (st' := [.inl (H1.1 1826 53), .inr (.inr 1826)]) rfl ?_
        have g11 : -2147483648 ≤ (H1.1 1826 53) ∧ (H1.1 1826 53) ≤ 2147483647 := hrg7.1 1826 13 53 _ .int rfl rfl
        refine h_puti (i := 447) (ci := 13) (k := 55) (a := 1826) (x := (H1.1 1826 53)) rfl rfl rfl rfl rfl rfl (by decide) (by omega) ?_
        refine h_run 2 (pc' := 186) (l' := [(0, .inr (.inr 1826)), (1, .inl (l : Int)), (2, .inl bb), (3, .inl (s : Int)), (4, .inl 0)]) (st' := []) rfl ?_
        exact ih.2.2.2.1 _ bb s 0 (p) (fr_o hf (by decide)) hbb (by omega) (by omega) (by omega : (H1.1 1826 53) = ((p) : Int)) (by omega : (H1.1 1826 53) = ((p) : Int)) (by unfold flX; rw [hsz9, show ((H.1 1843) (2 * l + s)).toNat = i by omega]; exact hmk) (fun _ h8 => absurd h8 (Nat.not_lt_zero _)) hq4 (by omega : 1000000 - 100000 * s - 10000 - 0 < w)
      · refine h_run 11 (pc' := 47) (l' := [(0, .inr (.inr 1826)), (1, .inl (l : Int)), (2, .inl bb), (3, .inl (s : Int)), (4, .inl (i : Int))]) (st' := [.inl ((48 * ((2 * (l : Int)) + (s : Int))) + (i : Int)), .inr (.inr 1842)]) rfl ?_
        refine h_ild (c := 1842) (j := ((48 * ((2 * l) + s)) + i)) (i := ((48 * ((2 * (l : Int)) + (s : Int))) + (i : Int))) rfl rfl (by decide) (by omega) (by omega) ?_
        have g12 : -2147483648 ≤ (H1.1 1842 ((48 * ((2 * l) + s)) + i)) ∧ (H1.1 1842 ((48 * ((2 * l) + s)) + i)) ≤ 2147483647 := hrg7.2 1842 ((48 * ((2 * l) + s)) + i) 1536 .int rfl (by omega)
        have e13 : (H1.1 1842 ((48 * ((2 * l) + s)) + i)) = (H.1 1842 ((48 * ((2 * l) + s)) + i)) := congrFun (hf.2.1 1842 (by decide) (by decide)) ((48 * ((2 * l) + s)) + i)
        refine h_run 0 (pc' := 48) (l' := [(0, .inr (.inr 1826)), (1, .inl (l : Int)), (2, .inl bb), (3, .inl (s : Int)), (4, .inl (i : Int))]) (st' := [.inl (H1.1 1842 ((48 * ((2 * l) + s)) + i))]) rfl ?_
        refine h_run 1 (pc' := 50) (l' := [(0, .inr (.inr 1826)), (1, .inl (l : Int)), (2, .inl bb), (3, .inl (s : Int)), (4, .inl (i : Int)), (5, .inl (H1.1 1842 ((48 * ((2 * l) + s)) + i)))]) (st' := []) rfl ?_
        have hss : (H.1 1842) (48 * (2 * l + s) + i) = sdX X l s i := hls2 i (by omega)
        have heL : (H1.1 1842) (48 * (2 * l + s) + i) = (H.1 1842) (48 * (2 * l + s) + i) := congrFun (hf.2.1 1842 (by decide) (by decide)) _
        have hsg : m_sg (H.1 1826 3) (H.1 1826 8) ((H.1 1845) l) ((H.1 1842) (48 * (2 * l + s) + i)) := by have q9 := tm_ok kk3 i (by omega); rw [lv1]; exact q9
        unfold m_sg at hsg
        refine h_run 2 (pc' := 55) (l' := [(0, .inr (.inr 1826)), (1, .inl (l : Int)), (2, .inl bb), (3, .inl (s : Int)), (4, .inl (i : Int)), (5, .inl (H1.1 1842 ((48 * ((2 * l) + s)) + i)))]) (st' := [.inl 1000, .inl (H1.1 1842 ((48 * ((2 * l) + s)) + i))]) rfl ?_
        refine h_ilt (off := 93) (t := 148) rfl rfl (by omega) (by decide) (fun c14 => ?_) (fun c14 => ?_)
        · refine h_run 4 (pc' := 156) (l' := [(0, .inr (.inr 1826)), (1, .inl (l : Int)), (2, .inl bb), (3, .inl (s : Int)), (4, .inl (i : Int)), (5, .inl (H1.1 1842 ((48 * ((2 * l) + s)) + i)))]) (st' := [.inl (H1.1 1826 53), .inr (.inr 1856)]) rfl ?_
          have g15 : -2147483648 ≤ (H1.1 1826 53) ∧ (H1.1 1826 53) ≤ 2147483647 := hrg7.1 1826 13 53 _ .int rfl rfl
          rw [show (H1.1 1826 53) = (p : Int) by omega]
          refine h_run 1 (pc' := 158) (l' := [(0, .inr (.inr 1826)), (1, .inl (l : Int)), (2, .inl bb), (3, .inl (s : Int)), (4, .inl (i : Int)), (5, .inl (H1.1 1842 ((48 * ((2 * l) + s)) + i)))]) (st' := [.inl (H1.1 1842 ((48 * ((2 * l) + s)) + i)), .inl (p : Int), .inr (.inr 1856)]) rfl ?_
          refine h_ist (c := 1856) (j := p) (i := (p : Int)) (x := (H1.1 1842 ((48 * ((2 * l) + s)) + i))) rfl rfl (by decide) (by decide) rfl (by omega) (by omega) ?_
          refine h_run 3 (pc' := 164) (l' := [(0, .inr (.inr 1826)), (1, .inl (l : Int)), (2, .inl bb), (3, .inl (s : Int)), (4, .inl (i : Int)), (5, .inl (H1.1 1842 ((48 * ((2 * l) + s)) + i)))]) (st' := [.inl (H1.1 1826 53), .inr (.inr 1826)]) rfl ?_
          refine h_run 2 (pc' := 166) (l' := [(0, .inr (.inr 1826)), (1, .inl (l : Int)), (2, .inl bb), (3, .inl (s : Int)), (4, .inl (i : Int)), (5, .inl (H1.1 1842 ((48 * ((2 * l) + s)) + i)))]) (st' := [.inl ((H1.1 1826 53) + 1), .inr (.inr 1826)]) rfl ?_
          refine h_puti (i := 437) (ci := 13) (k := 53) (a := 1826) (x := ((H1.1 1826 53) + 1)) rfl rfl rfl rfl rfl rfl (by decide) (by omega) ?_
          refine h_run 2 (pc' := 17) (l' := [(0, .inr (.inr 1826)), (1, .inl (l : Int)), (2, .inl bb), (3, .inl (s : Int)), (4, .inl ((i : Int) + 1)), (5, .inl (H1.1 1842 ((48 * ((2 * l) + s)) + i)))]) (st' := []) rfl ?_
          refine h_loc [0, 1, 2, 3, 4] rfl ?_
          rw [show ((i : Int) + 1) = (((i + 1) : Nat) : Int) by omega]
          exact ih.2.1 _ bb s (i + 1) (p + 1) (fr_o (fr_a hf (by decide)) (by decide)) hbb (by omega) (by omega) (by omega : ((H1.1 1826 53) + 1) = ((p + 1) : Int)) (by omega) (by rw [fil_c (show ¬ 1000 ≤ sdX X l s i by omega)]; exact MK_one hmk (fun y8 h8 => up_ne _ _ (by omega)) ((show up (H1.1 1856) p _ p = _ from up_eq _ _ _).trans (heL.trans hss))) hq4 (by omega : 1000000 - 100000 * s - 100 - 100 * (i + 1) < w)
        · refine h_run 4 (pc' := 66) (l' := [(0, .inr (.inr 1826)), (1, .inl (l : Int)), (2, .inl bb), (3, .inl (s : Int)), (4, .inl (i : Int)), (5, .inl (H1.1 1842 ((48 * ((2 * l) + s)) + i))), (6, .inl ((H1.1 1842 ((48 * ((2 * l) + s)) + i)) - 1000))]) (st' := []) rfl ?_
          obtain ⟨vv, hvv⟩ : ∃ k9 : Nat, ((H1.1 1842 ((48 * ((2 * l) + s)) + i)) - 1000) = (k9 : Int) := ⟨(((H1.1 1842 ((48 * ((2 * l) + s)) + i)) - 1000)).toNat, by omega⟩
          rw [show ((H1.1 1842 ((48 * ((2 * l) + s)) + i)) - 1000) = (vv : Int) from hvv]
          have hlt := lv3 vv (by omega)
          obtain ⟨hnw, hget⟩ := hN vv (by omega)
          obtain ⟨tt, htt⟩ : ∃ q8 : Nat, (H.1 1846) (6 * l + vv) = (q8 : Int) := ⟨((H.1 1846) (6 * l + vv)).toNat, by omega⟩
          obtain ⟨nn, hnn⟩ : ∃ q8 : Nat, (H.1 1868) vv = (q8 : Int) := ⟨((H.1 1868) vv).toNat, by omega⟩
          rw [htt, hnn, Int.toNat_natCast, Int.toNat_natCast] at hget
          have hvi : (sdX X l s i - 1000).toNat = vv := by omega
          rw [← hvi] at hget
          obtain ⟨mv1, mv2, mv3⟩ := hV tt (by omega)
          have hnl : nn < (Ls tt).length := (List.getElem?_eq_some_iff.mp hget).1
          obtain ⟨kv1, kv2, kv3⟩ := mv3 nn _ hget
          refine h_run 8 (pc' := 80) (l' := [(0, .inr (.inr 1826)), (1, .inl (l : Int)), (2, .inl bb), (3, .inl (s : Int)), (4, .inl (i : Int)), (5, .inl (H1.1 1842 ((48 * ((2 * l) + s)) + i))), (6, .inl (vv : Int))]) (st' := [.inl ((6 * (l : Int)) + (vv : Int)), .inr (.inr 1846), .inl 2001]) rfl ?_
          refine h_ild (c := 1846) (j := ((6 * l) + vv)) (i := ((6 * (l : Int)) + (vv : Int))) rfl rfl (by decide) (by omega) (by omega) ?_
          have g16 : -2147483648 ≤ (H1.1 1846 ((6 * l) + vv)) ∧ (H1.1 1846 ((6 * l) + vv)) ≤ 2147483647 := hrg7.2 1846 ((6 * l) + vv) 96 .int rfl (by omega)
          have e17 : (H1.1 1846 ((6 * l) + vv)) = (H.1 1846 ((6 * l) + vv)) := congrFun (hf.2.1 1846 (by decide) (by decide)) ((6 * l) + vv)
          refine h_run 0 (pc' := 81) (l' := [(0, .inr (.inr 1826)), (1, .inl (l : Int)), (2, .inl bb), (3, .inl (s : Int)), (4, .inl (i : Int)), (5, .inl (H1.1 1842 ((48 * ((2 * l) + s)) + i))), (6, .inl (vv : Int))]) (st' := [.inl (H1.1 1846 ((6 * l) + vv)), .inl 2001]) rfl ?_
          refine h_run 4 (pc' := 88) (l' := [(0, .inr (.inr 1826)), (1, .inl (l : Int)), (2, .inl bb), (3, .inl (s : Int)), (4, .inl (i : Int)), (5, .inl (H1.1 1842 ((48 * ((2 * l) + s)) + i))), (6, .inl (vv : Int))]) (st' := [.inl (vv : Int), .inr (.inr 1868), .inl (2001 * (H1.1 1846 ((6 * l) + vv)))]) rfl ?_
          refine h_ild (c := 1868) (j := vv) (i := (vv : Int)) rfl rfl (by decide) rfl (by omega) ?_
          have g18 : -2147483648 ≤ (H1.1 1868 vv) ∧ (H1.1 1868 vv) ≤ 2147483647 := hrg7.2 1868 vv 6 .int rfl (by omega)
          have e19 : (H1.1 1868 vv) = (H.1 1868 vv) := congrFun (hf.2.1 1868 (by decide) (by decide)) vv
          refine h_run 0 (pc' := 89) (l' := [(0, .inr (.inr 1826)), (1, .inl (l : Int)), (2, .inl bb), (3, .inl (s : Int)), (4, .inl (i : Int)), (5, .inl (H1.1 1842 ((48 * ((2 * l) + s)) + i))), (6, .inl (vv : Int))]) (st' := [.inl (H1.1 1868 vv), .inl (2001 * (H1.1 1846 ((6 * l) + vv)))]) rfl ?_
          refine h_run 2 (pc' := 92) (l' := [(0, .inr (.inr 1826)), (1, .inl (l : Int)), (2, .inl bb), (3, .inl (s : Int)), (4, .inl (i : Int)), (5, .inl (H1.1 1842 ((48 * ((2 * l) + s)) + i))), (6, .inl (vv : Int)), (7, .inl ((2001 * (H1.1 1846 ((6 * l) + vv))) + (H1.1 1868 vv)))]) (st' := []) rfl ?_
          have hel9 : (H1.1 1846) (6 * l + vv) = (H.1 1846) (6 * l + vv) := congrFun (hf.2.1 1846 (by decide) (by decide)) _
          have hen9 : (H1.1 1868) vv = (H.1 1868) vv := congrFun (hf.2.1 1868 (by decide) (by decide)) _
          refine h_run 2 (pc' := 95) (l' := [(0, .inr (.inr 1826)), (1, .inl (l : Int)), (2, .inl bb), (3, .inl (s : Int)), (4, .inl (i : Int)), (5, .inl (H1.1 1842 ((48 * ((2 * l) + s)) + i))), (6, .inl (vv : Int)), (7, .inl ((2001 * (H1.1 1846 ((6 * l) + vv))) + (H1.1 1868 vv))), (8, .inl 0)]) (st' := []) rfl ?_
          have g20 : -2147483648 ≤ (H1.1 1826 53) ∧ (H1.1 1826 53) ≤ 2147483647 := hrg7.1 1826 13 53 _ .int rfl rfl
          refine h_loc [0, 1, 2, 3, 4, 7, 8] rfl ?_
          rw [show ((2001 * (H1.1 1846 ((6 * l) + vv))) + (H1.1 1868 vv)) = (((((2001 * (H1.1 1846 ((6 * l) + vv))) + (H1.1 1868 vv))).toNat : Nat) : Int) by omega]
          exact ih.2.2.1 _ bb s i (((2001 * (H1.1 1846 ((6 * l) + vv))) + (H1.1 1868 vv))).toNat 0 (p) hf hbb (by omega) (by omega) (by omega) (by omega) (by omega : (H1.1 1826 53) = (((p) + 0 : Nat) : Int)) (by omega) (by omega) (by rw [show (2001 * _ + _ : Int).toNat = 2001 * tt + nn by omega]; exact ⟨kv2, kv3⟩) hmk (fun _ h8 => absurd h8 (Nat.not_lt_zero _)) hq4 (by omega : 1000000 - 100000 * s - 100 - 100 * i - 10 - 0 < w)
    · intro H1 bb s i q x p hf hbb hs hi hsv hx hms hp6 hq hvq hmk hcp hq4 hw
      refine h_rng (fun hrg21 => ?_)
      obtain ⟨⟨pb1, pb2, pb3, pb4, pb5⟩, pw1, pw2, pw3, pw4⟩ := (id hP : PW H (H.1 1826 1) (H.1 1826 3) (H.1 1826 8) (H.1 1826 13) (H.1 1826 19))
      obtain ⟨v9, ⟨lv1, lv2⟩, lv3, lv4⟩ := pw4 l (by omega)
      obtain ⟨k9, ⟨kk1, kk2⟩, kk3⟩ := lv4 s (by omega)
      obtain ⟨hls1, hls2⟩ := hLR s (by omega)
      have hsz9 : (X (4 * l + 102 + s) 0).toNat = ((H.1 1843) (2 * l + s)).toNat := by rw [hls1]
      obtain ⟨hvq1, hvq2⟩ := hvq
      have hvq := And.intro hvq1 hvq2
      have hvl6 := hv6 (sdX X l s i - 1000).toNat (by omega)
      refine h_run 4 (pc' := 103) (l' := [(0, .inr (.inr 1826)), (1, .inl (l : Int)), (2, .inl bb), (3, .inl (s : Int)), (4, .inl (i : Int)), (7, .inl (q : Int)), (8, .inl (x : Int))]) (st' := [.inl (q : Int), .inr (.inr 1862), .inl (x : Int)]) rfl ?_
      refine h_ild (c := 1862) (j := q) (i := (q : Int)) rfl rfl (by decide) rfl (by omega) ?_
      have g22 : -2147483648 ≤ (H1.1 1862 q) ∧ (H1.1 1862 q) ≤ 2147483647 := hrg21.2 1862 q 12006 .int rfl (by omega)
      have e23 : (H1.1 1862 q) = (H.1 1862 q) := congrFun (hf.2.1 1862 (by decide) (by decide)) q
      refine h_run 0 (pc' := 104) (l' := [(0, .inr (.inr 1826)), (1, .inl (l : Int)), (2, .inl bb), (3, .inl (s : Int)), (4, .inl (i : Int)), (7, .inl (q : Int)), (8, .inl (x : Int))]) (st' := [.inl (H1.1 1862 q), .inl (x : Int)]) rfl ?_
      refine h_ige (off := 41) (t := 145) rfl rfl (by omega) (by omega) (fun c24 => ?_) (fun c24 => ?_)
      · refine h_run 3 (pc' := 17) (l' := [(0, .inr (.inr 1826)), (1, .inl (l : Int)), (2, .inl bb), (3, .inl (s : Int)), (4, .inl ((i : Int) + 1)), (7, .inl (q : Int)), (8, .inl (x : Int))]) (st' := []) rfl ?_
        have g25 : -2147483648 ≤ (H1.1 1826 53) ∧ (H1.1 1826 53) ≤ 2147483647 := hrg21.1 1826 13 53 _ .int rfl rfl
        refine h_loc [0, 1, 2, 3, 4] rfl ?_
        rw [show ((i : Int) + 1) = (((i + 1) : Nat) : Int) by omega]
        exact ih.2.1 _ bb s (i + 1) (p + (vs (sdX X l s i - 1000).toNat).length) hf hbb (by omega) (by omega) (by omega : (H1.1 1826 53) = ((p + (vs (sdX X l s i - 1000).toNat).length) : Int)) (by omega) (by rw [fil_v (show 1000 ≤ sdX X l s i by omega)]; exact MK_ap hmk (fun _ _ => rfl) (fun y8 h8 => (hcp y8 (by omega)).trans (hvq2 y8 h8))) hq4 (by omega : 1000000 - 100000 * s - 100 - 100 * (i + 1) < w)
      · refine h_run 4 (pc' := 115) (l' := [(0, .inr (.inr 1826)), (1, .inl (l : Int)), (2, .inl bb), (3, .inl (s : Int)), (4, .inl (i : Int)), (7, .inl (q : Int)), (8, .inl (x : Int))]) (st' := [.inl (H1.1 1826 53), .inr (.inr 1856)]) rfl ?_
        have g26 : -2147483648 ≤ (H1.1 1826 53) ∧ (H1.1 1826 53) ≤ 2147483647 := hrg21.1 1826 13 53 _ .int rfl rfl
        rw [show (H1.1 1826 53) = ((p + x : Nat) : Int) from (by omega)]
        refine h_run 7 (pc' := 127) (l' := [(0, .inr (.inr 1826)), (1, .inl (l : Int)), (2, .inl bb), (3, .inl (s : Int)), (4, .inl (i : Int)), (7, .inl (q : Int)), (8, .inl (x : Int))]) (st' := [.inl ((7 * (q : Int)) + (x : Int)), .inr (.inr 1861), .inl ((p + x : Nat) : Int), .inr (.inr 1856)]) rfl ?_
        refine h_ild (c := 1861) (j := ((7 * q) + x)) (i := ((7 * (q : Int)) + (x : Int))) rfl rfl (by decide) (by omega) (by omega) ?_
        have g27 : -2147483648 ≤ (H1.1 1861 ((7 * q) + x)) ∧ (H1.1 1861 ((7 * q) + x)) ≤ 2147483647 := hrg21.2 1861 ((7 * q) + x) 84042 .int rfl (by omega)
        have e28 : (H1.1 1861 ((7 * q) + x)) = (H.1 1861 ((7 * q) + x)) := congrFun (hf.2.1 1861 (by decide) (by decide)) ((7 * q) + x)
        refine h_run 0 (pc' := 128) (l' := [(0, .inr (.inr 1826)), (1, .inl (l : Int)), (2, .inl bb), (3, .inl (s : Int)), (4, .inl (i : Int)), (7, .inl (q : Int)), (8, .inl (x : Int))]) (st' := [.inl (H1.1 1861 ((7 * q) + x)), .inl ((p + x : Nat) : Int), .inr (.inr 1856)]) rfl ?_
        refine h_ist (c := 1856) (j := (p + x)) (i := ((p + x : Nat) : Int)) (x := (H1.1 1861 ((7 * q) + x))) rfl rfl (by decide) (by decide) rfl (by omega) (by omega) ?_
        refine h_run 3 (pc' := 134) (l' := [(0, .inr (.inr 1826)), (1, .inl (l : Int)), (2, .inl bb), (3, .inl (s : Int)), (4, .inl (i : Int)), (7, .inl (q : Int)), (8, .inl (x : Int))]) (st' := [.inl (H1.1 1826 53), .inr (.inr 1826)]) rfl ?_
        refine h_run 2 (pc' := 136) (l' := [(0, .inr (.inr 1826)), (1, .inl (l : Int)), (2, .inl bb), (3, .inl (s : Int)), (4, .inl (i : Int)), (7, .inl (q : Int)), (8, .inl (x : Int))]) (st' := [.inl ((H1.1 1826 53) + 1), .inr (.inr 1826)]) rfl ?_
        refine h_puti (i := 437) (ci := 13) (k := 53) (a := 1826) (x := ((H1.1 1826 53) + 1)) rfl rfl rfl rfl rfl rfl (by decide) (by omega) ?_
        refine h_run 2 (pc' := 95) (l' := [(0, .inr (.inr 1826)), (1, .inl (l : Int)), (2, .inl bb), (3, .inl (s : Int)), (4, .inl (i : Int)), (7, .inl (q : Int)), (8, .inl ((x : Int) + 1))]) (st' := []) rfl ?_
        rw [show ((x : Int) + 1) = (((x + 1) : Nat) : Int) by omega]
        exact ih.2.2.1 _ bb s i q (x + 1) (p) (fr_o (fr_a hf (by decide)) (by decide)) hbb (by omega) (by omega) (by omega) (by omega) (by omega : ((H1.1 1826 53) + 1) = (((p) + (x + 1) : Nat) : Int)) (by omega) (by omega) hvq (MK_cg hmk (fun y8 h8 => up_ne _ _ (by omega))) (pv_up hcp (by omega) (congrFun (hf.2.1 1861 (by decide) (by decide)) _)) hq4 (by omega : 1000000 - 100000 * s - 100 - 100 * i - 10 - (x + 1) < w)
    · intro H1 bb s i p hf hbb hs hi hms hts hmk hcp hq4 hw
      refine h_rng (fun hrg29 => ?_)
      obtain ⟨⟨pb1, pb2, pb3, pb4, pb5⟩, pw1, pw2, pw3, pw4⟩ := (id hP : PW H (H.1 1826 1) (H.1 1826 3) (H.1 1826 8) (H.1 1826 13) (H.1 1826 19))
      obtain ⟨v9, ⟨lv1, lv2⟩, lv3, lv4⟩ := pw4 l (by omega)
      obtain ⟨k9, ⟨kk1, kk2⟩, kk3⟩ := lv4 s (by omega)
      refine h_run 3 (pc' := 192) (l' := [(0, .inr (.inr 1826)), (1, .inl (l : Int)), (2, .inl bb), (3, .inl (s : Int)), (4, .inl (i : Int))]) (st' := [.inl (H1.1 1826 53), .inl (i : Int)]) rfl ?_
      have g30 : -2147483648 ≤ (H1.1 1826 53) ∧ (H1.1 1826 53) ≤ 2147483647 := hrg29.1 1826 13 53 _ .int rfl rfl
      refine h_ige (off := 23) (t := 215) rfl rfl (by omega) (by omega) (fun c31 => ?_) (fun c31 => ?_)
      · refine h_run 3 (pc' := 220) (l' := [(0, .inr (.inr 1826)), (1, .inl (l : Int)), (2, .inl bb), (3, .inl (s : Int)), (4, .inl (i : Int))]) (st' := [.inl 300, .inr (.inr 1826), .inl bb]) rfl ?_
        have hP1 : PWc H1 := PWc_fr hP hf (by decide) (by decide)
        have hX1 := RZ9_fr hX hf (by decide) (by decide)
        have e_fA : (H1.1 1833) = (H.1 1833) := hf.2.1 1833 (by decide) (by decide)
        have e_cA : (H1.1 1830) = (H.1 1830) := hf.2.1 1830 (by decide) (by decide)
        have e_fn : (H1.1 1826 8) = (H.1 1826 8) := hf.2.2 8 (by decide)
        have e_cn : (H1.1 1826 3) = (H.1 1826 3) := hf.2.2 3 (by decide)
        refine h_cv (i := 460) (j := 200) (b := 1826) (M' := mt_200) (xs := [.inl 300]) (rest := [.inl bb]) rfl rfl rfl rfl rfl rfl (Nat.le_of_ble_eq_true rfl) (Nat.le_of_ble_eq_true rfl) (by omega) (n_run (X := X) (l := flX X l s vs) (N := p) (by omega) (by decide) hP1 hX1 ⟨hts, by omega⟩ ⟨hmk.1, fun y8 h8 => (hcp y8 (by omega)).trans (hmk.2 y8 h8)⟩ (by rw [e_fA, e_cA, e_cn, e_fn, show p = (flX X l s vs).length by have q9 := hmk.1; omega]; exact hft s (by omega))) ?_
        rintro _ H32 ⟨hfH32, rH32, rfl, MH32, lH32, eH32, zH32, bH32, mH32, -⟩
        refine h_rng (fun hrg33 => ?_)
        have hf34 : fr [50, 51, 53, 55, 56, 72] [1855, 1856, 1857, 1869] H H32 := fr_t hf hfH32 (by decide) (by decide)
        rw [e_fA, e_cA] at eH32
        have eLH32 : (lH32).length = MH32 := mH32.1
        have erH32 : rH32 = (evF (ma (H.1 1833) (H.1 1830)) X 300 (flX X l s vs) 0).1 := by rw [show (300 : Int).toNat = 300 from rfl] at eH32; rw [eH32]
        have rbH32 : 0 ≤ rH32 ∧ rH32 ≤ 2 := by rw [erH32]; exact ev_b
        have elH32 : lH32 = (evF (ma (H.1 1833) (H.1 1830)) X 300 (flX X l s vs) 0).2.2 := by rw [show (300 : Int).toNat = 300 from rfl] at eH32; rw [eH32]
        refine h_run 0 (pc' := 223) (l' := [(0, .inr (.inr 1826)), (1, .inl (l : Int)), (2, .inl bb), (3, .inl (s : Int)), (4, .inl (i : Int))]) (st' := [.inl rH32, .inl bb]) rfl ?_
        refine h_zne (off := 7) (t := 230) rfl rfl (by omega) (fun c35 => ?_) (fun c35 => ?_)
        · refine h_run 1 (pc' := 231) (l' := [(0, .inr (.inr 1826)), (1, .inl (l : Int)), (2, .inl bb), (3, .inl (s : Int)), (4, .inl (i : Int))]) (st' := [.inl 0, .inl bb]) rfl ?_
          have hby : (0 : Int) = bE rH32 := by unfold bE; split <;> omega
          have hbbx := z_and_1 (x := bb) (y := (0 : Int)) hbb (by decide)
          have hbb9 := z_and_b (x := bb) (y := (0 : Int)) hbb (by decide)
          refine h_run 3 (pc' := 234) (l' := [(0, .inr (.inr 1826)), (1, .inl (l : Int)), (2, .inl (z_and bb 0)), (3, .inl (s : Int)), (4, .inl (i : Int))]) (st' := [.inl (s : Int)]) rfl ?_
          refine h_zne (off := 43) (t := 277) rfl rfl (by omega) (fun c36 => ?_) (fun c36 => ?_)
          · refine h_run 2 (pc' := 4) (l' := [(0, .inr (.inr 1826)), (1, .inl (l : Int)), (2, .inl (z_and bb 0)), (3, .inl ((s : Int) + 1)), (4, .inl (i : Int))]) (st' := []) rfl ?_
            have g37 : -2147483648 ≤ (H32.1 1826 55) ∧ (H32.1 1826 55) ≤ 2147483647 := hrg33.1 1826 13 55 _ .int rfl rfl
            refine h_loc [0, 1, 2, 3] rfl ?_
            rw [show ((s : Int) + 1) = (((s + 1) : Nat) : Int) by omega]
            exact ih.1 _ (z_and bb 0) (s + 1) hf34 hbb9 (by omega) (by have q3 := hq4; rw [← (show (H32.1 1826 72) = (H1.1 1826 72) from hfH32.2.2 72 (by decide)), ← (show (H32.1 1869) = (H1.1 1869) from hfH32.2.1 1869 (by decide) (by decide))] at q3; exact Q4_2 q3 (by omega) (by rw [erH32, show s = 1 by omega]) (by rw [elH32, show s = 1 by omega]) hby hbbx zH32 mH32 bH32) (by omega : 1000000 - 100000 * (s + 1) < w)
          · refine h_run 3 (pc' := 242) (l' := [(0, .inr (.inr 1826)), (1, .inl (l : Int)), (2, .inl (z_and bb 0)), (3, .inl (s : Int)), (4, .inl (i : Int))]) (st' := [.inl (H32.1 1826 55), .inr (.inr 1826)]) rfl ?_
            have g38 : -2147483648 ≤ (H32.1 1826 55) ∧ (H32.1 1826 55) ≤ 2147483647 := hrg33.1 1826 13 55 _ .int rfl rfl
            refine h_puti (i := 525) (ci := 13) (k := 72) (a := 1826) (x := (H32.1 1826 55)) rfl rfl rfl rfl rfl rfl (by decide) (by omega) ?_
            refine h_run 2 (pc' := 248) (l' := [(0, .inr (.inr 1826)), (1, .inl (l : Int)), (2, .inl (z_and bb 0)), (3, .inl (s : Int)), (4, .inl 0)]) (st' := []) rfl ?_
            exact ih.2.2.2.2.1 _ (z_and bb 0) s 0 (fr_o hf34 (by decide)) hbb9 (by omega) (by have q3 := hq4; exact Q4_b q3 (by omega) (by rw [erH32, show s = 0 by omega]) hby hbbx) (by rw [← (show lH32 = (evF (ma (H.1 1833) (H.1 1830)) X 300 (flX X l 0 vs) 0).2.2 by rw [elH32, show s = 0 by omega]), eLH32]; exact ⟨zH32, bH32⟩) (by rw [← (show lH32 = (evF (ma (H.1 1833) (H.1 1830)) X 300 (flX X l 0 vs) 0).2.2 by rw [elH32, show s = 0 by omega]), eLH32]; exact zH32) (by rw [← (show lH32 = (evF (ma (H.1 1833) (H.1 1830)) X 300 (flX X l 0 vs) 0).2.2 by rw [elH32, show s = 0 by omega]), eLH32]; exact mH32) (fun _ h8 => absurd h8 (Nat.not_lt_zero _)) (by omega) (by omega : 1000000 - 100000 * s - 20000 - 0 < w)
        · refine h_run 2 (pc' := 231) (l' := [(0, .inr (.inr 1826)), (1, .inl (l : Int)), (2, .inl bb), (3, .inl (s : Int)), (4, .inl (i : Int))]) (st' := [.inl 1, .inl bb]) rfl ?_
          have hby : (1 : Int) = bE rH32 := by unfold bE; split <;> omega
          have hbbx := z_and_1 (x := bb) (y := (1 : Int)) hbb (by decide)
          have hbb9 := z_and_b (x := bb) (y := (1 : Int)) hbb (by decide)
          refine h_run 3 (pc' := 234) (l' := [(0, .inr (.inr 1826)), (1, .inl (l : Int)), (2, .inl (z_and bb 1)), (3, .inl (s : Int)), (4, .inl (i : Int))]) (st' := [.inl (s : Int)]) rfl ?_
          refine h_zne (off := 43) (t := 277) rfl rfl (by omega) (fun c39 => ?_) (fun c39 => ?_)
          · refine h_run 2 (pc' := 4) (l' := [(0, .inr (.inr 1826)), (1, .inl (l : Int)), (2, .inl (z_and bb 1)), (3, .inl ((s : Int) + 1)), (4, .inl (i : Int))]) (st' := []) rfl ?_
            have g40 : -2147483648 ≤ (H32.1 1826 55) ∧ (H32.1 1826 55) ≤ 2147483647 := hrg33.1 1826 13 55 _ .int rfl rfl
            refine h_loc [0, 1, 2, 3] rfl ?_
            rw [show ((s : Int) + 1) = (((s + 1) : Nat) : Int) by omega]
            exact ih.1 _ (z_and bb 1) (s + 1) hf34 hbb9 (by omega) (by have q3 := hq4; rw [← (show (H32.1 1826 72) = (H1.1 1826 72) from hfH32.2.2 72 (by decide)), ← (show (H32.1 1869) = (H1.1 1869) from hfH32.2.1 1869 (by decide) (by decide))] at q3; exact Q4_2 q3 (by omega) (by rw [erH32, show s = 1 by omega]) (by rw [elH32, show s = 1 by omega]) hby hbbx zH32 mH32 bH32) (by omega : 1000000 - 100000 * (s + 1) < w)
          · refine h_run 3 (pc' := 242) (l' := [(0, .inr (.inr 1826)), (1, .inl (l : Int)), (2, .inl (z_and bb 1)), (3, .inl (s : Int)), (4, .inl (i : Int))]) (st' := [.inl (H32.1 1826 55), .inr (.inr 1826)]) rfl ?_
            have g41 : -2147483648 ≤ (H32.1 1826 55) ∧ (H32.1 1826 55) ≤ 2147483647 := hrg33.1 1826 13 55 _ .int rfl rfl
            refine h_puti (i := 525) (ci := 13) (k := 72) (a := 1826) (x := (H32.1 1826 55)) rfl rfl rfl rfl rfl rfl (by decide) (by omega) ?_
            refine h_run 2 (pc' := 248) (l' := [(0, .inr (.inr 1826)), (1, .inl (l : Int)), (2, .inl (z_and bb 1)), (3, .inl (s : Int)), (4, .inl 0)]) (st' := []) rfl ?_
            exact ih.2.2.2.2.1 _ (z_and bb 1) s 0 (fr_o hf34 (by decide)) hbb9 (by omega) (by have q3 := hq4; exact Q4_b q3 (by omega) (by rw [erH32, show s = 0 by omega]) hby hbbx) (by rw [← (show lH32 = (evF (ma (H.1 1833) (H.1 1830)) X 300 (flX X l 0 vs) 0).2.2 by rw [elH32, show s = 0 by omega]), eLH32]; exact ⟨zH32, bH32⟩) (by rw [← (show lH32 = (evF (ma (H.1 1833) (H.1 1830)) X 300 (flX X l 0 vs) 0).2.2 by rw [elH32, show s = 0 by omega]), eLH32]; exact zH32) (by rw [← (show lH32 = (evF (ma (H.1 1833) (H.1 1830)) X 300 (flX X l 0 vs) 0).2.2 by rw [elH32, show s = 0 by omega]), eLH32]; exact mH32) (fun _ h8 => absurd h8 (Nat.not_lt_zero _)) (by omega) (by omega : 1000000 - 100000 * s - 20000 - 0 < w)
      · refine h_run 6 (pc' := 207) (l' := [(0, .inr (.inr 1826)), (1, .inl (l : Int)), (2, .inl bb), (3, .inl (s : Int)), (4, .inl (i : Int))]) (st' := [.inl (i : Int), .inr (.inr 1856), .inl (i : Int), .inr (.inr 1857)]) rfl ?_
        refine h_ild (c := 1856) (j := i) (i := (i : Int)) rfl rfl (by decide) rfl (by omega) ?_
        have g42 : -2147483648 ≤ (H1.1 1856 i) ∧ (H1.1 1856 i) ≤ 2147483647 := hrg29.2 1856 i 12000 .int rfl (by omega)
        refine h_run 0 (pc' := 208) (l' := [(0, .inr (.inr 1826)), (1, .inl (l : Int)), (2, .inl bb), (3, .inl (s : Int)), (4, .inl (i : Int))]) (st' := [.inl (H1.1 1856 i), .inl (i : Int), .inr (.inr 1857)]) rfl ?_
        refine h_ist (c := 1857) (j := i) (i := (i : Int)) (x := (H1.1 1856 i)) rfl rfl (by decide) (by decide) rfl (by omega) (by omega) ?_
        refine h_run 2 (pc' := 186) (l' := [(0, .inr (.inr 1826)), (1, .inl (l : Int)), (2, .inl bb), (3, .inl (s : Int)), (4, .inl ((i : Int) + 1))]) (st' := []) rfl ?_
        have g43 : -2147483648 ≤ (H1.1 1826 55) ∧ (H1.1 1826 55) ≤ 2147483647 := hrg29.1 1826 13 55 _ .int rfl rfl
        rw [show ((i : Int) + 1) = (((i + 1) : Nat) : Int) by omega]
        exact ih.2.2.2.1 _ bb s (i + 1) (p) (fr_a hf (by decide)) hbb (by omega) (by omega) (by omega : (H1.1 1826 53) = ((p) : Int)) (by omega : (H1.1 1826 55) = ((p) : Int)) hmk (cp_u2 hcp rfl rfl) hq4 (by omega : 1000000 - 100000 * s - 10000 - (i + 1) < w)
    · intro H1 bb s i hf hbb hs0 hbv hts hos hmt hcp hi hw
      refine h_rng (fun hrg44 => ?_)
      obtain ⟨⟨pb1, pb2, pb3, pb4, pb5⟩, pw1, pw2, pw3, pw4⟩ := (id hP : PW H (H.1 1826 1) (H.1 1826 3) (H.1 1826 8) (H.1 1826 13) (H.1 1826 19))
      obtain ⟨v9, ⟨lv1, lv2⟩, lv3, lv4⟩ := pw4 l (by omega)
      obtain ⟨hts1, hts2⟩ := hts
      have hts := And.intro hts1 hts2
      refine h_run 3 (pc' := 254) (l' := [(0, .inr (.inr 1826)), (1, .inl (l : Int)), (2, .inl bb), (3, .inl (s : Int)), (4, .inl (i : Int))]) (st' := [.inl (H1.1 1826 55), .inl (i : Int)]) rfl ?_
      have g45 : -2147483648 ≤ (H1.1 1826 55) ∧ (H1.1 1826 55) ≤ 2147483647 := hrg44.1 1826 13 55 _ .int rfl rfl
      refine h_ige (off := 23) (t := 277) rfl rfl (by omega) (by omega) (fun c46 => ?_) (fun c46 => ?_)
      · refine h_run 2 (pc' := 4) (l' := [(0, .inr (.inr 1826)), (1, .inl (l : Int)), (2, .inl bb), (3, .inl ((s : Int) + 1)), (4, .inl (i : Int))]) (st' := []) rfl ?_
        refine h_loc [0, 1, 2, 3] rfl ?_
        rw [show ((s : Int) + 1) = (((s + 1) : Nat) : Int) by omega]
        exact ih.1 _ bb (s + 1) hf hbb (by omega) (Q4_1 hbv (show (H1.1 1826 72) = _ from hos) ⟨hmt.1, fun y8 h8 => (hcp y8 (by omega)).trans (hmt.2 y8 h8)⟩ hs0) (by omega : 1000000 - 100000 * (s + 1) < w)
      · refine h_run 6 (pc' := 269) (l' := [(0, .inr (.inr 1826)), (1, .inl (l : Int)), (2, .inl bb), (3, .inl (s : Int)), (4, .inl (i : Int))]) (st' := [.inl (i : Int), .inr (.inr 1857), .inl (i : Int), .inr (.inr 1869)]) rfl ?_
        refine h_ild (c := 1857) (j := i) (i := (i : Int)) rfl rfl (by decide) rfl (by omega) ?_
        have g47 : -2147483648 ≤ (H1.1 1857 i) ∧ (H1.1 1857 i) ≤ 2147483647 := hrg44.2 1857 i 400 .int rfl (by omega)
        refine h_run 0 (pc' := 270) (l' := [(0, .inr (.inr 1826)), (1, .inl (l : Int)), (2, .inl bb), (3, .inl (s : Int)), (4, .inl (i : Int))]) (st' := [.inl (H1.1 1857 i), .inl (i : Int), .inr (.inr 1869)]) rfl ?_
        refine h_ist (c := 1869) (j := i) (i := (i : Int)) (x := (H1.1 1857 i)) rfl rfl (by decide) (by decide) rfl (by omega) (by omega) ?_
        refine h_run 2 (pc' := 248) (l' := [(0, .inr (.inr 1826)), (1, .inl (l : Int)), (2, .inl bb), (3, .inl (s : Int)), (4, .inl ((i : Int) + 1))]) (st' := []) rfl ?_
        rw [show ((i : Int) + 1) = (((i + 1) : Nat) : Int) by omega]
        exact ih.2.2.2.2.1 _ bb s (i + 1) (fr_a hf (by decide)) hbb (by omega) hbv hts hos hmt (cp_u2 hcp rfl rfl) (by omega) (by omega : 1000000 - 100000 * s - 20000 - (i + 1) < w)
    · intro H1 b3 i hf hb3 hz2 hto hb1 hb0 hl240 hi hw
      refine h_rng (fun hrg48 => ?_)
      obtain ⟨⟨pb1, pb2, pb3, pb4, pb5⟩, pw1, pw2, pw3, pw4⟩ := (id hP : PW H (H.1 1826 1) (H.1 1826 3) (H.1 1826 8) (H.1 1826 13) (H.1 1826 19))
      obtain ⟨v9, ⟨lv1, lv2⟩, lv3, lv4⟩ := pw4 l (by omega)
      obtain ⟨⟨ht1, ht2⟩, ho1, ho2⟩ := id hto
      refine h_run 3 (pc' := 315) (l' := [(0, .inr (.inr 1826)), (1, .inl (l : Int)), (3, .inl b3), (4, .inl (i : Int))]) (st' := [.inl (H1.1 1826 55), .inl (i : Int)]) rfl ?_
      have g49 : -2147483648 ≤ (H1.1 1826 55) ∧ (H1.1 1826 55) ≤ 2147483647 := hrg48.1 1826 13 55 _ .int rfl rfl
      refine h_ige (off := 36) (t := 351) rfl rfl (by omega) (by omega) (fun c50 => ?_) (fun c50 => ?_)
      · refine h_run 1 (pc' := 352) (l' := [(0, .inr (.inr 1826)), (1, .inl (l : Int)), (3, .inl b3), (4, .inl (i : Int))]) (st' := [.inl b3]) rfl ?_
        refine h_zeq (off := 7) (t := 359) rfl rfl (by omega) (fun c51 => ?_) (fun c51 => ?_)
        · refine h_run 1 (pc' := 360) (l' := [(0, .inr (.inr 1826)), (1, .inl (l : Int)), (3, .inl b3), (4, .inl (i : Int))]) (st' := [.inl 1]) rfl ?_
          refine h_reti (x := 1) rfl rfl ?_
          refine ⟨hf, _, rfl, ?_⟩
          unfold rO9
          rw [if_pos hz2, if_neg (hb0 (by omega))]
        · refine h_run 2 (pc' := 360) (l' := [(0, .inr (.inr 1826)), (1, .inl (l : Int)), (3, .inl b3), (4, .inl (i : Int))]) (st' := [.inl 0]) rfl ?_
          refine h_reti (x := 0) rfl rfl ?_
          refine ⟨hf, _, rfl, ?_⟩
          unfold rO9
          rw [if_pos hz2, if_pos (by obtain ⟨q8, q7⟩ := hb1 (by omega); exact (MK_eq ht2 ho2 (by omega) (fun y8 h8 => q7 y8 (by omega))).symm)]
      · refine h_run 1 (pc' := 319) (l' := [(0, .inr (.inr 1826)), (1, .inl (l : Int)), (3, .inl b3), (4, .inl (i : Int))]) (st' := [.inl b3]) rfl ?_
        refine h_zeq (off := 32) (t := 351) rfl rfl (by omega) (fun c52 => ?_) (fun c52 => ?_)
        · refine h_run 1 (pc' := 352) (l' := [(0, .inr (.inr 1826)), (1, .inl (l : Int)), (3, .inl b3), (4, .inl (i : Int))]) (st' := [.inl b3]) rfl ?_
          refine h_zeq (off := 7) (t := 359) rfl rfl (by omega) (fun c53 => ?_) (fun c53 => ?_)
          · refine h_run 1 (pc' := 360) (l' := [(0, .inr (.inr 1826)), (1, .inl (l : Int)), (3, .inl b3), (4, .inl (i : Int))]) (st' := [.inl 1]) rfl ?_
            refine h_reti (x := 1) rfl rfl ?_
            refine ⟨hf, _, rfl, ?_⟩
            unfold rO9
            rw [if_pos hz2, if_neg (hb0 (by omega))]
          · exfalso
            omega
        · refine h_run 3 (pc' := 328) (l' := [(0, .inr (.inr 1826)), (1, .inl (l : Int)), (3, .inl b3), (4, .inl (i : Int))]) (st' := [.inl (i : Int), .inr (.inr 1857)]) rfl ?_
          refine h_ild (c := 1857) (j := i) (i := (i : Int)) rfl rfl (by decide) rfl (by omega) ?_
          have g54 : -2147483648 ≤ (H1.1 1857 i) ∧ (H1.1 1857 i) ≤ 2147483647 := hrg48.2 1857 i 400 .int rfl (by omega)
          refine h_run 0 (pc' := 329) (l' := [(0, .inr (.inr 1826)), (1, .inl (l : Int)), (3, .inl b3), (4, .inl (i : Int))]) (st' := [.inl (H1.1 1857 i)]) rfl ?_
          refine h_run 3 (pc' := 335) (l' := [(0, .inr (.inr 1826)), (1, .inl (l : Int)), (3, .inl b3), (4, .inl (i : Int))]) (st' := [.inl (i : Int), .inr (.inr 1869), .inl (H1.1 1857 i)]) rfl ?_
          refine h_ild (c := 1869) (j := i) (i := (i : Int)) rfl rfl (by decide) rfl (by omega) ?_
          have g55 : -2147483648 ≤ (H1.1 1869 i) ∧ (H1.1 1869 i) ≤ 2147483647 := hrg48.2 1869 i 400 .int rfl (by omega)
          refine h_run 0 (pc' := 336) (l' := [(0, .inr (.inr 1826)), (1, .inl (l : Int)), (3, .inl b3), (4, .inl (i : Int))]) (st' := [.inl (H1.1 1869 i), .inl (H1.1 1857 i)]) rfl ?_
          refine h_ine (off := 7) (t := 343) rfl rfl (by omega) (by omega) (fun c56 => ?_) (fun c56 => ?_)
          · refine h_run 4 (pc' := 309) (l' := [(0, .inr (.inr 1826)), (1, .inl (l : Int)), (3, .inl 0), (4, .inl ((i : Int) + 1))]) (st' := []) rfl ?_
            rw [show ((i : Int) + 1) = (((i + 1) : Nat) : Int) by omega]
            exact ih.2.2.2.2.2 _ (0 : Int) (i + 1) hf (by omega) hz2 hto (fun q9 => by obtain ⟨q8, q7⟩ := hb1 (by omega); exact ⟨q8, fun y8 h8 => by by_cases e8 : y8 = i; { rw [e8]; omega }; { exact q7 y8 (by omega) }⟩) (fun q9 q8 => by rw [q8] at hto; obtain ⟨⟨t1, t2⟩, t3, t4⟩ := hto; have q7 := t2.2 i (by omega); have q6 := t4.2 i (by omega); omega) hl240 (by omega) (by omega : 1000 - (i + 1) < w)
          · refine h_run 5 (pc' := 309) (l' := [(0, .inr (.inr 1826)), (1, .inl (l : Int)), (3, .inl 1), (4, .inl ((i : Int) + 1))]) (st' := []) rfl ?_
            rw [show ((i : Int) + 1) = (((i + 1) : Nat) : Int) by omega]
            exact ih.2.2.2.2.2 _ (1 : Int) (i + 1) hf (by omega) hz2 hto (fun q9 => by obtain ⟨q8, q7⟩ := hb1 (by omega); exact ⟨q8, fun y8 h8 => by by_cases e8 : y8 = i; { rw [e8]; omega }; { exact q7 y8 (by omega) }⟩) (fun q9 q8 => by rw [q8] at hto; obtain ⟨⟨t1, t2⟩, t3, t4⟩ := hto; have q7 := t2.2 i (by omega); have q6 := t4.2 i (by omega); omega) hl240 (by omega) (by omega : 1000 - (i + 1) < w)
set_option maxRecDepth 100000 in
theorem n_row {zC : Nat → Option zsh} {d : Nat} (hd : 7 ≤ d) {H : hp} {X : rx} {Ls : Nat → vls} {vs : Nat → List Int} {l : Nat} (hP : PWc H) (hX : RZ9 H X) (hl : (l : Int) < (H.1 1826 19)) (hLR : LR9 H X l) (hV : VS (H.1 1826 1) (H.1 1861) (H.1 1862) (H.1 1863) Ls) (hN : ∀ v : Nat, (v : Int) < (H.1 1845) l → 0 ≤ (H.1 1868) v ∧ (Ls ((H.1 1846) (6 * l + v)).toNat)[((H.1 1868) v).toNat]? = some (vs v)) (hft : ∀ s : Nat, s < 2 → tm (ma (H.1 1833) (H.1 1830)) (m_sg (H.1 1826 3) (H.1 1826 8) 0) (ga (flX X l s vs)) (flX X l s vs).length 0 1) (hv6 : ∀ v : Nat, (v : Int) < (H.1 1845) l → 1 ≤ (vs v).length ∧ (vs v).length ≤ 6) : hG (zs zC) d mt_219 0 (zargs 0 [.inr (.inr 1826), .inl (l : Int)]) [] H (fun r9 H2 => fr [50, 51, 53, 55, 56, 72] [1855, 1856, 1857, 1869] H H2 ∧ ∃ r0 : Int, r9 = some (.inl r0) ∧ r0 = rO9 (evF (ma (H.1 1833) (H.1 1830)) X 300 (flX X l 0 vs) 0) (evF (ma (H.1 1833) (H.1 1830)) X 300 (flX X l 1 vs) 0)) := by
  refine h_rng (fun hrg0 => ?_)
  refine h_run 0 (pc' := 0) (l' := [(0, .inr (.inr 1826)), (1, .inl (l : Int))]) (st' := []) rfl ?_
  obtain ⟨⟨pb1, pb2, pb3, pb4, pb5⟩, pw1, pw2, pw3, pw4⟩ := (id hP : PW H (H.1 1826 1) (H.1 1826 3) (H.1 1826 8) (H.1 1826 13) (H.1 1826 19))
  obtain ⟨v9, ⟨lv1, lv2⟩, lv3, lv4⟩ := pw4 l (by omega)
  refine h_run 4 (pc' := 4) (l' := [(0, .inr (.inr 1826)), (1, .inl (l : Int)), (2, .inl 1), (3, .inl 0)]) (st' := []) rfl ?_
  have g57 : -2147483648 ≤ (H.1 1826 55) ∧ (H.1 1826 55) ≤ 2147483647 := hrg0.1 1826 13 55 _ .int rfl rfl
  exact (n_row_cut hd hP hX hl hLR hV hN hft hv6 _).1 _ (1 : Int) 0 (fr_rf _ _ _) (by decide) (by omega) ⟨fun _ => rfl, fun q9 => absurd q9 (by decide), fun q9 => absurd q9 (by decide), fun q9 => absurd q9 (by decide)⟩ (Nat.lt_succ_self _)
