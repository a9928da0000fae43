/-! the class makes what a call becomes, told exactly -/
/-- a template, filled -/
def mT (ar : Int → Int) (T : Nat → Int) (bv : Nat → Nat) (g : Nat → Int) : Nat → List Int
  | 0 => []
  | y + 1 => mT ar T bv g y ++ (if 1000 ≤ T y then sl g (bv y) (bh ar g (bv y)) else [T y])
def rT (ar : Int → Int) (T : Nat → Int) (bv : Nat → Nat) (g : Nat → Int) (a y : Nat) : List Int := sl g 0 a ++ mT ar T bv g y
def lT (ar : Int → Int) (T : Nat → Int) (bv : Nat → Nat) (g : Nat → Int) (a kr N : Nat) : List Int := rT ar T bv g a kr ++ sl g (bh ar g a) N
theorem rT_v {ar : Int → Int} {T : Nat → Int} {bv : Nat → Nat} {g : Nat → Int} {a y e : Nat} (h : 1000 ≤ T y) (hb : bh ar g (bv y) = e) : rT ar T bv g a (y + 1) = rT ar T bv g a y ++ sl g (bv y) e := by
  show sl g 0 a ++ (mT ar T bv g y ++ (if 1000 ≤ T y then _ else _)) = _
  rw [if_pos h, hb, ← List.append_assoc]
  rfl
theorem sl_one (g : Nat → Int) (i : Nat) : sl g i (i + 1) = [g i] := by
  unfold sl
  rw [Nat.add_sub_cancel_left]
  rfl
theorem rT_c {ar : Int → Int} {T : Nat → Int} {bv : Nat → Nat} {g : Nat → Int} {a y : Nat} (h : ¬ 1000 ≤ T y) : rT ar T bv g a (y + 1) = rT ar T bv g a y ++ sl T y (y + 1) := by
  show sl g 0 a ++ (mT ar T bv g y ++ (if 1000 ≤ T y then _ else _)) = _
  rw [if_neg h, sl_one, ← List.append_assoc]
  rfl
theorem rT_le {ar : Int → Int} {T : Nat → Int} {bv : Nat → Nat} {g : Nat → Int} {a : Nat} : ∀ {j y : Nat}, (rT ar T bv g a y).length ≤ (rT ar T bv g a (y + j)).length
  | 0, _ => Nat.le_refl _
  | j + 1, y => by
    refine Nat.le_trans (rT_le (j := j)) ?_
    show _ ≤ (sl g 0 a ++ (mT ar T bv g (y + j) ++ _)).length
    rw [← List.append_assoc, List.length_append]
    exact Nat.le_add_right _ _
theorem lT_le {ar : Int → Int} {T : Nat → Int} {bv : Nat → Nat} {g : Nat → Int} {a kr N y : Nat} (h : y ≤ kr) : (rT ar T bv g a y).length ≤ (lT ar T bv g a kr N).length := by
  unfold lT
  rw [List.length_append]
  have := rT_le (ar := ar) (T := T) (bv := bv) (g := g) (a := a) (y := y) (j := kr - y)
  rw [show y + (kr - y) = kr by omega] at this
  omega
theorem CM_app {H H9 : hp} {v t : Nat} {X : rx} {N i j : Nat} {g : Nat → Int} {l : List Int} {a b : Int} (h : CM H v X l.length (ga l)) (ap : AP v t a b H H9) (ht : ∀ x : Nat, x < N → H.1 (t + 1) x = kcd X (g x)) (ea : a = (i : Int)) (eb : b = (j : Int)) (hij : i ≤ j ∧ j ≤ N) : CM H9 v X (l ++ sl g i j).length (ga (l ++ sl g i j)) := by
  obtain ⟨q1, q2, q3, -⟩ := ap
  have h1 := h.1
  refine ⟨by rw [q1, h1, List.length_append, sl_len]; omega, fun x hx => ?_⟩
  rw [List.length_append, sl_len] at hx
  by_cases q : x < l.length
  · rw [q2 x (by omega), h.2 x q, ga_app_l q]
  · have e := q3 (x - l.length) (by omega)
    rw [show (H.1 v 1).toNat + (x - l.length) = x by omega] at e
    rw [e, ht _ (by omega), ga_app_r (by omega), sl_at g (by omega), show a.toNat + (x - l.length) = i + (x - l.length) by omega]

/-! Rewriter.replaceAt -/
set_option maxRecDepth 100000 in
theorem qb_replaceAt_cut {X : rx} {ar : Int → Int} {cn fn : Int} {g : Nat → Int} {N : Nat} {T : Nat → Int} {bv : Nat → Nat} {kr k : Nat} {d : Nat} (hd : 2 ≤ d) {H : hp} (hI : Inv H) {t n : Nat} {a : Int} {u m : Nat} {v o : Nat} (ht : isT t n) (ha : -2147483648 ≤ a ∧ a ≤ 2147483647) (hu : isT u m) (hv : isT v o) (ha0 : 0 ≤ a) (hvt : v + 1 < t ∨ t + 1 < v) (hvu : v + 1 < u ∨ u + 1 < v) (hv368 : 368 ≤ v) (hu9 : CM H t X N g) (hT9 : CM H u X kr T) (hK : ∀ s, m_sg cn fn 40 s → KF9 X s ∧ aC (kcd X s) = ar s) (hsg : ∀ x : Nat, x < kr → m_sg cn fn 40 (T x)) (hb9 : ∀ x : Nat, x < kr → 1000 ≤ T x → H.1 367 (T x - 1000).toNat = ((bv x : Nat) : Int) ∧ ∃ kb : Nat, tm ar (m_sg cn fn 0) g kb (bv x) 1 ∧ bv x + kb ≤ N) (hk9 : tm ar (m_sg cn fn 0) g k a.toNat 1) (hN9 : a.toNat + k ≤ N ∧ N ≤ 240) : ∀ w : Nat, (∀ (H1 : hp), Inv H1 → fq [] [] false H H1 → ∀ (x5 : Int) , (-2147483648 ≤ x5 ∧ x5 ≤ 2147483647) → (0 ≤ x5 ∧ x5 ≤ kr) → (CM H1 v X (rT ar T bv g a.toNat x5.toNat).length (ga (rT ar T bv g a.toNat x5.toNat)) ∧ AF v H H1) → (((1000 - x5).toNat) < w) → hG (zs zK) d mt_98 22 [(0, .inr (.inr 366)), (1, .inr (.inr t)), (2, .inl a), (3, .inr (.inr u)), (4, .inr (.inr v)), (5, .inl x5)] [] H1 (fun r9 H9 => ∃ z : Int, r9 = some (.inl z) ∧ ((0 ≤ z ∧ z ≤ 1)) ∧ Inv H9 ∧ fq [] [] false H H9 ∧ (((z = 1 ∧ (lT ar T bv g a.toNat kr N).length ≤ o ∧ CM H9 v X (lT ar T bv g a.toNat kr N).length (ga (lT ar T bv g a.toNat kr N))) ∨ (z = 0 ∧ o < (lT ar T bv g a.toNat kr N).length)) ∧ AF v H H9))) := by
  intro w
  induction w with
  | zero => exact fun _ _ _ _ _ _ _ h => absurd h (Nat.not_lt_zero _)
  | succ w ih =>
    intro H1 hI1 hf1 x5 hx5 hi0 hi1 hw
    have htb := ht.2.2.2.2
    have hub := hu.2.2.2.2
    have hvb := hv.2.2.2.2
    obtain ⟨Q9, hQ9⟩ : ∃ Q9 : Option zv → hp → Prop, Q9 = (fun r9 H9 => ∃ z : Int, r9 = some (.inl z) ∧ ((0 ≤ z ∧ z ≤ 1)) ∧ Inv H9 ∧ fq [] [] false H H9 ∧ (((z = 1 ∧ (lT ar T bv g a.toNat kr N).length ≤ o ∧ CM H9 v X (lT ar T bv g a.toNat kr N).length (ga (lT ar T bv g a.toNat kr N))) ∨ (z = 0 ∧ o < (lT ar T bv g a.toNat kr N).length)) ∧ AF v H H9)) := ⟨_, rfl⟩
    rw [← hQ9]
    have hu91 := hu9.1
    have hT91 := hT9.1
    have hkp : 0 < k := tm_le hk9
    have hU1 : CM H1 t X N g := ⟨(hi1.2.2 t 1 (by omega) (by omega)).trans hu9.1, fun x hx => (hi1.2.2 (t + 1) x (by omega) (by omega)).trans (hu9.2 x hx)⟩
    have hT1 : CM H1 u X kr T := ⟨(hi1.2.2 u 1 (by omega) (by omega)).trans hT9.1, fun x hx => (hi1.2.2 (u + 1) x (by omega) (by omega)).trans (hT9.2 x hx)⟩
    have hU11 := hU1.1
    have hT11 := hT1.1
    have hV11 := hi1.1.1
    refine k_run 2 (pc' := 25) (l' := [(0, .inr (.inr 366)), (1, .inr (.inr t)), (2, .inl a), (3, .inr (.inr u)), (4, .inr (.inr v)), (5, .inl x5)]) (st' := [.inr (.inr u), .inl x5]) rfl ?_
    refine k_get (a := u) (x := (kTo u m)) (v := .inl (H1.1 u 1)) rfl rfl hu.1 (iT0 hu) rfl rfl rfl ?_
    have g15 : 0 ≤ (H1.1 u 1) ∧ (H1.1 u 1) ≤ m := kn hI1 hu.1 1
    refine k_run 0 (pc' := 28) (l' := [(0, .inr (.inr 366)), (1, .inr (.inr t)), (2, .inl a), (3, .inr (.inr u)), (4, .inr (.inr v)), (5, .inl x5)]) (st' := [.inl (H1.1 u 1), .inl x5]) rfl ?_
    refine h_ige (off := 100) (t := 128) rfl rfl (by omega) (by omega) (fun c16 => ?_) (fun c16 => ?_)
    · refine k_run 0 (pc' := 128) (l' := [(0, .inr (.inr 366)), (1, .inr (.inr t)), (2, .inl a), (3, .inr (.inr u)), (4, .inr (.inr v)), (5, .inl x5)]) (st' := []) rfl ?_
      have hka : tm aC tr9 (H1.1 (t + 1)) k a.toNat 1 := tm_code (g := g) hk9 (fun x _ hx => hU1.2 _ (by omega)) (fun s9 h9 => (hK _ (m_sg_0 h9)).2)
      refine k_run 4 (pc' := 133) (l' := [(0, .inr (.inr 366)), (1, .inr (.inr t)), (2, .inl a), (3, .inr (.inr u)), (4, .inr (.inr v)), (5, .inl x5)]) (st' := [.inl a, .inr (.inr t), .inr (.inr t), .inr (.inr v)]) rfl ?_
      refine h_cv (i := 75) (j := 53) (b := t) (M' := mt_53) (xs := [.inl a]) (rest := [.inr (.inr t), .inr (.inr v)]) rfl rfl rfl rfl (by rw [zs_K ht.1 (iT0 ht)]; rfl) rfl (Nat.le_of_ble_eq_true rfl) (Nat.le_of_ble_eq_true rfl) (by omega) (qb_behind (by omega) hI1 ht (by omega) (k := k) (by omega) hka) ?_
      rintro _ _ ⟨z23, rfl, g17, rfl⟩
      refine k_run 0 (pc' := 136) (l' := [(0, .inr (.inr 366)), (1, .inr (.inr t)), (2, .inl a), (3, .inr (.inr u)), (4, .inr (.inr v)), (5, .inl x5)]) (st' := [.inl z23, .inr (.inr t), .inr (.inr v)]) rfl ?_
      refine k_run 1 (pc' := 137) (l' := [(0, .inr (.inr 366)), (1, .inr (.inr t)), (2, .inl a), (3, .inr (.inr u)), (4, .inr (.inr v)), (5, .inl x5)]) (st' := [.inr (.inr t), .inl z23, .inr (.inr t), .inr (.inr v)]) rfl ?_
      refine k_get (a := t) (x := (kTo t n)) (v := .inl (H1.1 t 1)) rfl rfl ht.1 (iT0 ht) rfl rfl rfl ?_
      have g24 : 0 ≤ (H1.1 t 1) ∧ (H1.1 t 1) ≤ n := kn hI1 ht.1 1
      refine k_run 0 (pc' := 140) (l' := [(0, .inr (.inr 366)), (1, .inr (.inr t)), (2, .inl a), (3, .inr (.inr u)), (4, .inr (.inr v)), (5, .inl x5)]) (st' := [.inl (H1.1 t 1), .inl z23, .inr (.inr t), .inr (.inr v)]) rfl ?_
      refine h_cv (i := 85) (j := 54) (b := v) (M' := mt_54) (xs := [.inl (H1.1 t 1), .inl z23, .inr (.inr t)]) (rest := []) rfl rfl rfl rfl (by rw [zs_K hv.1 (iT0 hv)]; rfl) rfl (Nat.le_of_ble_eq_true rfl) (Nat.le_of_ble_eq_true rfl) (by omega) (qb_append (by omega) hI1 hv ht (by omega) (by omega) (by omega)) ?_
      rintro _ H26 ⟨z31, rfl, g25, hI27, hq28, hx30⟩
      have hf32 : fq [] [] false H H26 := fq_t hf1 hq28 rfl rfl rfl
      refine k_run 0 (pc' := 143) (l' := [(0, .inr (.inr 366)), (1, .inr (.inr t)), (2, .inl a), (3, .inr (.inr u)), (4, .inr (.inr v)), (5, .inl x5)]) (st' := [.inl z31]) rfl ?_
      refine h_retz (x := z31) rfl rfl (by omega) ?_
      rw [hQ9]
      exact ⟨_, rfl, (by omega), hI27, hf32, (by first | (exfalso; omega) | exact (by have el : (lT ar T bv g a.toNat kr N) = (rT ar T bv g a.toNat x5.toNat) ++ sl g (a.toNat + k) N := (by unfold lT; rw [bh_tm hk9 (by omega), show kr = x5.toNat by omega]); have eln : ((lT ar T bv g a.toNat kr N)).length = (rT ar T bv g a.toNat x5.toNat).length + (N - (a.toNat + k)) := (by rw [el, List.length_append, sl_len]); rcases hx30 with ⟨q1, q2, q3⟩ | ⟨q1, q2, q3⟩; { refine ⟨Or.inl ⟨q1, by omega, ?_⟩, AF_tr hi1.2 q3.2.2.2⟩; rw [el]; exact CM_app (N := N) hi1.1 q3 hU1.2 (by omega) (by omega) (by omega) }; { exact ⟨Or.inr ⟨q1, by omega⟩, by rw [q3]; exact hi1.2⟩ }))⟩
    · refine k_run 0 (pc' := 31) (l' := [(0, .inr (.inr 366)), (1, .inr (.inr t)), (2, .inl a), (3, .inr (.inr u)), (4, .inr (.inr v)), (5, .inl x5)]) (st' := []) rfl ?_
      refine k_run 1 (pc' := 32) (l' := [(0, .inr (.inr 366)), (1, .inr (.inr t)), (2, .inl a), (3, .inr (.inr u)), (4, .inr (.inr v)), (5, .inl x5)]) (st' := [.inr (.inr u)]) rfl ?_
      refine k_get (a := u) (x := (kTo u m)) (v := .inr (.inr (u + 1))) rfl rfl hu.1 (iT0 hu) rfl rfl rfl ?_
      refine k_run 0 (pc' := 35) (l' := [(0, .inr (.inr 366)), (1, .inr (.inr t)), (2, .inl a), (3, .inr (.inr u)), (4, .inr (.inr v)), (5, .inl x5)]) (st' := [.inr (.inr (u + 1))]) rfl ?_
      refine k_run 1 (pc' := 37) (l' := [(0, .inr (.inr 366)), (1, .inr (.inr t)), (2, .inl a), (3, .inr (.inr u)), (4, .inr (.inr v)), (5, .inl x5)]) (st' := [.inl x5, .inr (.inr (u + 1))]) rfl ?_
      refine k_ild (c := (u + 1)) (j := (x5).toNat) (i := x5) (x := (kTc m)) rfl hu.2.1 (iT1 hu) rfl (by omega) (by omega) (by omega) ?_
      have g33 : -2147483648 ≤ (H1.1 (u + 1) (x5).toNat) ∧ (H1.1 (u + 1) (x5).toNat) ≤ 2147483647 := kn hI1 hu.2.1 (x5).toNat
      refine k_run 0 (pc' := 38) (l' := [(0, .inr (.inr 366)), (1, .inr (.inr t)), (2, .inl a), (3, .inr (.inr u)), (4, .inr (.inr v)), (5, .inl x5)]) (st' := [.inl (H1.1 (u + 1) (x5).toNat)]) rfl ?_
      have eT : H1.1 (u + 1) x5.toNat = kcd X (T x5.toNat) := hT1.2 _ (by omega)
      have hsg9 := hsg x5.toNat (by omega)
      obtain ⟨kf2, -⟩ := hK _ hsg9
      unfold KF9 at kf2
      rw [← eT] at kf2
      refine k_run 2 (pc' := 42) (l' := [(0, .inr (.inr 366)), (1, .inr (.inr t)), (2, .inl a), (3, .inr (.inr u)), (4, .inr (.inr v)), (5, .inl x5), (6, .inl (H1.1 (u + 1) (x5).toNat))]) (st' := [.inl (H1.1 (u + 1) (x5).toNat)]) rfl ?_
      refine h_cs (i := 48) (j := 50) (M' := mt_50) (xs := [.inl (H1.1 (u + 1) (x5).toNat)]) (rest := []) rfl rfl rfl rfl rfl (Nat.le_of_ble_eq_true rfl) (Nat.le_of_ble_eq_true rfl) (by omega) (q_Term_indexOf (by omega)  (by omega)) ?_
      rintro _ _ ⟨z40, rfl, g34, hx39, rfl⟩
      refine k_run 0 (pc' := 45) (l' := [(0, .inr (.inr 366)), (1, .inr (.inr t)), (2, .inl a), (3, .inr (.inr u)), (4, .inr (.inr v)), (5, .inl x5), (6, .inl (H1.1 (u + 1) (x5).toNat))]) (st' := [.inl z40]) rfl ?_
      refine k_run 2 (pc' := 49) (l' := [(0, .inr (.inr 366)), (1, .inr (.inr t)), (2, .inl a), (3, .inr (.inr u)), (4, .inr (.inr v)), (5, .inl x5), (6, .inl (H1.1 (u + 1) (x5).toNat)), (7, .inl z40)]) (st' := [.inl (H1.1 (u + 1) (x5).toNat)]) rfl ?_
      refine h_cs (i := 45) (j := 49) (M' := mt_49) (xs := [.inl (H1.1 (u + 1) (x5).toNat)]) (rest := []) rfl rfl rfl rfl rfl (Nat.le_of_ble_eq_true rfl) (Nat.le_of_ble_eq_true rfl) (by omega) (q_Term_kindOf (by omega)  (by omega)) ?_
      rintro _ _ ⟨z47, rfl, g41, hx46, rfl⟩
      refine k_run 0 (pc' := 52) (l' := [(0, .inr (.inr 366)), (1, .inr (.inr t)), (2, .inl a), (3, .inr (.inr u)), (4, .inr (.inr v)), (5, .inl x5), (6, .inl (H1.1 (u + 1) (x5).toNat)), (7, .inl z40)]) (st' := [.inl z47]) rfl ?_
      refine k_run 1 (pc' := 53) (l' := [(0, .inr (.inr 366)), (1, .inr (.inr t)), (2, .inl a), (3, .inr (.inr u)), (4, .inr (.inr v)), (5, .inl x5), (6, .inl (H1.1 (u + 1) (x5).toNat)), (7, .inl z40)]) (st' := [.inl 3, .inl z47]) rfl ?_
      refine h_ine (off := 23) (t := 76) rfl rfl (by omega) (by decide) (fun c48 => ?_) (fun c48 => ?_)
      · refine k_run 0 (pc' := 76) (l' := [(0, .inr (.inr 366)), (1, .inr (.inr t)), (2, .inl a), (3, .inr (.inr u)), (4, .inr (.inr v)), (5, .inl x5), (6, .inl (H1.1 (u + 1) (x5).toNat)), (7, .inl z40)]) (st' := []) rfl ?_
        refine k_run 3 (pc' := 81) (l' := [(0, .inr (.inr 366)), (1, .inr (.inr t)), (2, .inl a), (3, .inr (.inr u)), (4, .inr (.inr v)), (5, .inl x5), (6, .inl (H1.1 (u + 1) (x5).toNat)), (7, .inl z40), (8, .inl (-1))]) (st' := [.inl (-1)]) rfl ?_
        refine h_zge (off := 18) (t := 99) rfl rfl (by decide) (fun c => absurd c (by decide)) (fun _ => ?_)
        refine k_run 0 (pc' := 84) (l' := [(0, .inr (.inr 366)), (1, .inr (.inr t)), (2, .inl a), (3, .inr (.inr u)), (4, .inr (.inr v)), (5, .inl x5), (6, .inl (H1.1 (u + 1) (x5).toNat)), (7, .inl z40), (8, .inl (-1))]) (st' := []) rfl ?_
        refine k_run 6 (pc' := 93) (l' := [(0, .inr (.inr 366)), (1, .inr (.inr t)), (2, .inl a), (3, .inr (.inr u)), (4, .inr (.inr v)), (5, .inl x5), (6, .inl (H1.1 (u + 1) (x5).toNat)), (7, .inl z40), (8, .inl (-1))]) (st' := [.inl (x5 + 1), .inl x5, .inr (.inr u), .inr (.inr v)]) rfl ?_
        refine h_cv (i := 85) (j := 54) (b := v) (M' := mt_54) (xs := [.inl (x5 + 1), .inl x5, .inr (.inr u)]) (rest := []) rfl rfl rfl rfl (by rw [zs_K hv.1 (iT0 hv)]; rfl) rfl (Nat.le_of_ble_eq_true rfl) (Nat.le_of_ble_eq_true rfl) (by omega) (qb_append (by omega) hI1 hv hu (by omega) (by omega) (by omega)) ?_
        rintro _ H50 ⟨z55, rfl, g49, hI51, hq52, hx54⟩
        have hf56 : fq [] [] false H H50 := fq_t hf1 hq52 rfl rfl rfl
        refine k_run 0 (pc' := 96) (l' := [(0, .inr (.inr 366)), (1, .inr (.inr t)), (2, .inl a), (3, .inr (.inr u)), (4, .inr (.inr v)), (5, .inl x5), (6, .inl (H1.1 (u + 1) (x5).toNat)), (7, .inl z40), (8, .inl (-1))]) (st' := [.inl z55]) rfl ?_
        refine k_run 3 (pc' := 117) (l' := [(0, .inr (.inr 366)), (1, .inr (.inr t)), (2, .inl a), (3, .inr (.inr u)), (4, .inr (.inr v)), (5, .inl x5), (6, .inl (H1.1 (u + 1) (x5).toNat)), (7, .inl z40), (8, .inl (-1)), (9, .inl z55)]) (st' := [.inl z55]) rfl ?_
        refine h_zne (off := 5) (t := 122) rfl rfl (by omega) (fun c57 => ?_) (fun c57 => ?_)
        · refine k_run 0 (pc' := 122) (l' := [(0, .inr (.inr 366)), (1, .inr (.inr t)), (2, .inl a), (3, .inr (.inr u)), (4, .inr (.inr v)), (5, .inl x5), (6, .inl (H1.1 (u + 1) (x5).toNat)), (7, .inl z40), (8, .inl (-1)), (9, .inl z55)]) (st' := []) rfl ?_
          refine k_run 2 (pc' := 22) (l' := [(0, .inr (.inr 366)), (1, .inr (.inr t)), (2, .inl a), (3, .inr (.inr u)), (4, .inr (.inr v)), (5, .inl (x5 + 1)), (6, .inl (H1.1 (u + 1) (x5).toNat)), (7, .inl z40), (8, .inl (-1)), (9, .inl z55)]) (st' := []) rfl ?_
          refine h_loc [0, 1, 2, 3, 4, 5] rfl ?_
          rw [hQ9]
          exact ih H50 hI51 hf56 (x5 + 1) (by omega) (by omega) (by have ap := (hx54.resolve_right (fun q9 => by have q8 := q9.1; omega)).2.2; rw [show (x5 + 1).toNat = x5.toNat + 1 by omega, rT_c (by omega)]; exact ⟨CM_app (N := kr) hi1.1 ap hT1.2 (by omega) (by omega) (by omega), AF_tr hi1.2 ap.2.2.2⟩) (by omega)
        · refine k_run 0 (pc' := 120) (l' := [(0, .inr (.inr 366)), (1, .inr (.inr t)), (2, .inl a), (3, .inr (.inr u)), (4, .inr (.inr v)), (5, .inl x5), (6, .inl (H1.1 (u + 1) (x5).toNat)), (7, .inl z40), (8, .inl (-1)), (9, .inl z55)]) (st' := []) rfl ?_
          refine k_run 1 (pc' := 121) (l' := [(0, .inr (.inr 366)), (1, .inr (.inr t)), (2, .inl a), (3, .inr (.inr u)), (4, .inr (.inr v)), (5, .inl x5), (6, .inl (H1.1 (u + 1) (x5).toNat)), (7, .inl z40), (8, .inl (-1)), (9, .inl z55)]) (st' := [.inl 0]) rfl ?_
          refine h_retz (x := 0) rfl rfl (by decide) ?_
          rw [hQ9]
          exact ⟨_, rfl, (by omega), hI51, hf56, (by first | (exfalso; omega) | exact (by have q9 := (hx54.resolve_left (fun q9 => by have q8 := q9.1; omega)).2; refine ⟨Or.inr ⟨rfl, ?_⟩, by rw [q9.2]; exact hi1.2⟩; have q8 := lT_le (ar := ar) (T := T) (bv := bv) (g := g) (a := a.toNat) (kr := kr) (N := N) (y := x5.toNat + 1) (by omega); exact (by rw [rT_c (by omega), List.length_append, sl_len] at q8; omega)))⟩
      · refine k_run 0 (pc' := 56) (l' := [(0, .inr (.inr 366)), (1, .inr (.inr t)), (2, .inl a), (3, .inr (.inr u)), (4, .inr (.inr v)), (5, .inl x5), (6, .inl (H1.1 (u + 1) (x5).toNat)), (7, .inl z40)]) (st' := []) rfl ?_
        refine k_run 3 (pc' := 62) (l' := [(0, .inr (.inr 366)), (1, .inr (.inr t)), (2, .inl a), (3, .inr (.inr u)), (4, .inr (.inr v)), (5, .inl x5), (6, .inl (H1.1 (u + 1) (x5).toNat)), (7, .inl z40)]) (st' := [.inr (.inr 367), .inl z40]) rfl ?_
        refine k_alen (c := 367) (x := kx_367) rfl rfl (by decide) rfl ?_
        refine k_run 0 (pc' := 63) (l' := [(0, .inr (.inr 366)), (1, .inr (.inr t)), (2, .inl a), (3, .inr (.inr u)), (4, .inr (.inr v)), (5, .inl x5), (6, .inl (H1.1 (u + 1) (x5).toNat)), (7, .inl z40)]) (st' := [.inl 60, .inl z40]) rfl ?_
        refine h_ige (off := 13) (t := 76) rfl rfl (by omega) (by decide) (fun c58 => ?_) (fun c58 => ?_)
        · refine k_run 0 (pc' := 76) (l' := [(0, .inr (.inr 366)), (1, .inr (.inr t)), (2, .inl a), (3, .inr (.inr u)), (4, .inr (.inr v)), (5, .inl x5), (6, .inl (H1.1 (u + 1) (x5).toNat)), (7, .inl z40)]) (st' := []) rfl ?_
          refine k_run 3 (pc' := 81) (l' := [(0, .inr (.inr 366)), (1, .inr (.inr t)), (2, .inl a), (3, .inr (.inr u)), (4, .inr (.inr v)), (5, .inl x5), (6, .inl (H1.1 (u + 1) (x5).toNat)), (7, .inl z40), (8, .inl (-1))]) (st' := [.inl (-1)]) rfl ?_
          refine h_zge (off := 18) (t := 99) rfl rfl (by decide) (fun c => absurd c (by decide)) (fun _ => ?_)
          refine k_run 0 (pc' := 84) (l' := [(0, .inr (.inr 366)), (1, .inr (.inr t)), (2, .inl a), (3, .inr (.inr u)), (4, .inr (.inr v)), (5, .inl x5), (6, .inl (H1.1 (u + 1) (x5).toNat)), (7, .inl z40), (8, .inl (-1))]) (st' := []) rfl ?_
          refine k_run 6 (pc' := 93) (l' := [(0, .inr (.inr 366)), (1, .inr (.inr t)), (2, .inl a), (3, .inr (.inr u)), (4, .inr (.inr v)), (5, .inl x5), (6, .inl (H1.1 (u + 1) (x5).toNat)), (7, .inl z40), (8, .inl (-1))]) (st' := [.inl (x5 + 1), .inl x5, .inr (.inr u), .inr (.inr v)]) rfl ?_
          refine h_cv (i := 85) (j := 54) (b := v) (M' := mt_54) (xs := [.inl (x5 + 1), .inl x5, .inr (.inr u)]) (rest := []) rfl rfl rfl rfl (by rw [zs_K hv.1 (iT0 hv)]; rfl) rfl (Nat.le_of_ble_eq_true rfl) (Nat.le_of_ble_eq_true rfl) (by omega) (qb_append (by omega) hI1 hv hu (by omega) (by omega) (by omega)) ?_
          rintro _ H60 ⟨z65, rfl, g59, hI61, hq62, hx64⟩
          have hf66 : fq [] [] false H H60 := fq_t hf1 hq62 rfl rfl rfl
          refine k_run 0 (pc' := 96) (l' := [(0, .inr (.inr 366)), (1, .inr (.inr t)), (2, .inl a), (3, .inr (.inr u)), (4, .inr (.inr v)), (5, .inl x5), (6, .inl (H1.1 (u + 1) (x5).toNat)), (7, .inl z40), (8, .inl (-1))]) (st' := [.inl z65]) rfl ?_
          refine k_run 3 (pc' := 117) (l' := [(0, .inr (.inr 366)), (1, .inr (.inr t)), (2, .inl a), (3, .inr (.inr u)), (4, .inr (.inr v)), (5, .inl x5), (6, .inl (H1.1 (u + 1) (x5).toNat)), (7, .inl z40), (8, .inl (-1)), (9, .inl z65)]) (st' := [.inl z65]) rfl ?_
          refine h_zne (off := 5) (t := 122) rfl rfl (by omega) (fun c67 => ?_) (fun c67 => ?_)
          · refine k_run 0 (pc' := 122) (l' := [(0, .inr (.inr 366)), (1, .inr (.inr t)), (2, .inl a), (3, .inr (.inr u)), (4, .inr (.inr v)), (5, .inl x5), (6, .inl (H1.1 (u + 1) (x5).toNat)), (7, .inl z40), (8, .inl (-1)), (9, .inl z65)]) (st' := []) rfl ?_
            refine k_run 2 (pc' := 22) (l' := [(0, .inr (.inr 366)), (1, .inr (.inr t)), (2, .inl a), (3, .inr (.inr u)), (4, .inr (.inr v)), (5, .inl (x5 + 1)), (6, .inl (H1.1 (u + 1) (x5).toNat)), (7, .inl z40), (8, .inl (-1)), (9, .inl z65)]) (st' := []) rfl ?_
            refine h_loc [0, 1, 2, 3, 4, 5] rfl ?_
            rw [hQ9]
            exact ih H60 hI61 hf66 (x5 + 1) (by omega) (by omega) (by have ap := (hx64.resolve_right (fun q9 => by have q8 := q9.1; omega)).2.2; rw [show (x5 + 1).toNat = x5.toNat + 1 by omega, rT_c (by omega)]; exact ⟨CM_app (N := kr) hi1.1 ap hT1.2 (by omega) (by omega) (by omega), AF_tr hi1.2 ap.2.2.2⟩) (by omega)
          · refine k_run 0 (pc' := 120) (l' := [(0, .inr (.inr 366)), (1, .inr (.inr t)), (2, .inl a), (3, .inr (.inr u)), (4, .inr (.inr v)), (5, .inl x5), (6, .inl (H1.1 (u + 1) (x5).toNat)), (7, .inl z40), (8, .inl (-1)), (9, .inl z65)]) (st' := []) rfl ?_
            refine k_run 1 (pc' := 121) (l' := [(0, .inr (.inr 366)), (1, .inr (.inr t)), (2, .inl a), (3, .inr (.inr u)), (4, .inr (.inr v)), (5, .inl x5), (6, .inl (H1.1 (u + 1) (x5).toNat)), (7, .inl z40), (8, .inl (-1)), (9, .inl z65)]) (st' := [.inl 0]) rfl ?_
            refine h_retz (x := 0) rfl rfl (by decide) ?_
            rw [hQ9]
            exact ⟨_, rfl, (by omega), hI61, hf66, (by first | (exfalso; omega) | exact (by have q9 := (hx64.resolve_left (fun q9 => by have q8 := q9.1; omega)).2; refine ⟨Or.inr ⟨rfl, ?_⟩, by rw [q9.2]; exact hi1.2⟩; have q8 := lT_le (ar := ar) (T := T) (bv := bv) (g := g) (a := a.toNat) (kr := kr) (N := N) (y := x5.toNat + 1) (by omega); exact (by rw [rT_c (by omega), List.length_append, sl_len] at q8; omega)))⟩
        · refine k_run 0 (pc' := 66) (l' := [(0, .inr (.inr 366)), (1, .inr (.inr t)), (2, .inl a), (3, .inr (.inr u)), (4, .inr (.inr v)), (5, .inl x5), (6, .inl (H1.1 (u + 1) (x5).toNat)), (7, .inl z40)]) (st' := []) rfl ?_
          refine k_run 3 (pc' := 72) (l' := [(0, .inr (.inr 366)), (1, .inr (.inr t)), (2, .inl a), (3, .inr (.inr u)), (4, .inr (.inr v)), (5, .inl x5), (6, .inl (H1.1 (u + 1) (x5).toNat)), (7, .inl z40)]) (st' := [.inl z40, .inr (.inr 367)]) rfl ?_
          refine k_ild (c := 367) (j := (z40).toNat) (i := z40) (x := kx_367) rfl rfl (by decide) rfl (by decide) (by omega) (by omega) ?_
          have g68 : -2147483648 ≤ (H1.1 367 (z40).toNat) ∧ (H1.1 367 (z40).toNat) ≤ 2147483647 := kn (x := kx_367) hI1 rfl (z40).toNat
          have e69 : (H1.1 367 (z40).toNat) = (H.1 367 (z40).toNat) := (hf1.1 367 (z40).toNat rfl (by decide) (fun q => by simp at q)).1
          refine k_run 0 (pc' := 73) (l' := [(0, .inr (.inr 366)), (1, .inr (.inr t)), (2, .inl a), (3, .inr (.inr u)), (4, .inr (.inr v)), (5, .inl x5), (6, .inl (H1.1 (u + 1) (x5).toNat)), (7, .inl z40)]) (st' := [.inl (H1.1 367 (z40).toNat)]) rfl ?_
          obtain ⟨hbv1, kb, hkb1, hkb2⟩ := hb9 x5.toNat (by omega) (by omega)
          have hbv2 : (H1.1 367 (z40).toNat) = ((bv x5.toNat : Nat) : Int) := by rw [show (z40).toNat = (T x5.toNat - 1000).toNat by omega, hi1.2.2 367 _ (by omega) (by omega)]; exact hbv1
          have hkb4 : tm aC tr9 (H1.1 (t + 1)) kb (bv x5.toNat) 1 := tm_code (g := g) hkb1 (fun x _ hx => hU1.2 _ (by omega)) (fun s9 h9 => (hK _ (m_sg_0 h9)).2)
          refine k_run 3 (pc' := 81) (l' := [(0, .inr (.inr 366)), (1, .inr (.inr t)), (2, .inl a), (3, .inr (.inr u)), (4, .inr (.inr v)), (5, .inl x5), (6, .inl (H1.1 (u + 1) (x5).toNat)), (7, .inl z40), (8, .inl (H1.1 367 (z40).toNat))]) (st' := [.inl (H1.1 367 (z40).toNat)]) rfl ?_
          refine h_zge (off := 18) (t := 99) rfl rfl (by omega) (fun c70 => ?_) (fun c70 => ?_)
          · refine k_run 0 (pc' := 99) (l' := [(0, .inr (.inr 366)), (1, .inr (.inr t)), (2, .inl a), (3, .inr (.inr u)), (4, .inr (.inr v)), (5, .inl x5), (6, .inl (H1.1 (u + 1) (x5).toNat)), (7, .inl z40), (8, .inl (H1.1 367 (z40).toNat))]) (st' := []) rfl ?_
            refine k_run 5 (pc' := 107) (l' := [(0, .inr (.inr 366)), (1, .inr (.inr t)), (2, .inl a), (3, .inr (.inr u)), (4, .inr (.inr v)), (5, .inl x5), (6, .inl (H1.1 (u + 1) (x5).toNat)), (7, .inl z40), (8, .inl (H1.1 367 (z40).toNat))]) (st' := [.inl (H1.1 367 (z40).toNat), .inr (.inr t), .inl (H1.1 367 (z40).toNat), .inr (.inr t), .inr (.inr v)]) rfl ?_
            refine h_cv (i := 75) (j := 53) (b := t) (M' := mt_53) (xs := [.inl (H1.1 367 (z40).toNat)]) (rest := [.inl (H1.1 367 (z40).toNat), .inr (.inr t), .inr (.inr v)]) rfl rfl rfl rfl (by rw [zs_K ht.1 (iT0 ht)]; rfl) rfl (Nat.le_of_ble_eq_true rfl) (Nat.le_of_ble_eq_true rfl) (by omega) (qb_behind (by omega) hI1 ht (by omega) (k := kb) (by omega) (by rw [show ((H1.1 367 (z40).toNat)).toNat = bv x5.toNat by omega]; exact hkb4)) ?_
            rintro _ _ ⟨z77, rfl, g71, rfl⟩
            refine k_run 0 (pc' := 110) (l' := [(0, .inr (.inr 366)), (1, .inr (.inr t)), (2, .inl a), (3, .inr (.inr u)), (4, .inr (.inr v)), (5, .inl x5), (6, .inl (H1.1 (u + 1) (x5).toNat)), (7, .inl z40), (8, .inl (H1.1 367 (z40).toNat))]) (st' := [.inl z77, .inl (H1.1 367 (z40).toNat), .inr (.inr t), .inr (.inr v)]) rfl ?_
            refine h_cv (i := 85) (j := 54) (b := v) (M' := mt_54) (xs := [.inl z77, .inl (H1.1 367 (z40).toNat), .inr (.inr t)]) (rest := []) rfl rfl rfl rfl (by rw [zs_K hv.1 (iT0 hv)]; rfl) rfl (Nat.le_of_ble_eq_true rfl) (Nat.le_of_ble_eq_true rfl) (by omega) (qb_append (by omega) hI1 hv ht (by omega) (by omega) (by omega)) ?_
            rintro _ H79 ⟨z84, rfl, g78, hI80, hq81, hx83⟩
            have hf85 : fq [] [] false H H79 := fq_t hf1 hq81 rfl rfl rfl
            refine k_run 0 (pc' := 113) (l' := [(0, .inr (.inr 366)), (1, .inr (.inr t)), (2, .inl a), (3, .inr (.inr u)), (4, .inr (.inr v)), (5, .inl x5), (6, .inl (H1.1 (u + 1) (x5).toNat)), (7, .inl z40), (8, .inl (H1.1 367 (z40).toNat))]) (st' := [.inl z84]) rfl ?_
            refine k_run 2 (pc' := 117) (l' := [(0, .inr (.inr 366)), (1, .inr (.inr t)), (2, .inl a), (3, .inr (.inr u)), (4, .inr (.inr v)), (5, .inl x5), (6, .inl (H1.1 (u + 1) (x5).toNat)), (7, .inl z40), (8, .inl (H1.1 367 (z40).toNat)), (9, .inl z84)]) (st' := [.inl z84]) rfl ?_
            refine h_zne (off := 5) (t := 122) rfl rfl (by omega) (fun c86 => ?_) (fun c86 => ?_)
            · refine k_run 0 (pc' := 122) (l' := [(0, .inr (.inr 366)), (1, .inr (.inr t)), (2, .inl a), (3, .inr (.inr u)), (4, .inr (.inr v)), (5, .inl x5), (6, .inl (H1.1 (u + 1) (x5).toNat)), (7, .inl z40), (8, .inl (H1.1 367 (z40).toNat)), (9, .inl z84)]) (st' := []) rfl ?_
              refine k_run 2 (pc' := 22) (l' := [(0, .inr (.inr 366)), (1, .inr (.inr t)), (2, .inl a), (3, .inr (.inr u)), (4, .inr (.inr v)), (5, .inl (x5 + 1)), (6, .inl (H1.1 (u + 1) (x5).toNat)), (7, .inl z40), (8, .inl (H1.1 367 (z40).toNat)), (9, .inl z84)]) (st' := []) rfl ?_
              refine h_loc [0, 1, 2, 3, 4, 5] rfl ?_
              rw [hQ9]
              exact ih H79 hI80 hf85 (x5 + 1) (by omega) (by omega) (by have ap := (hx83.resolve_right (fun q9 => by have q8 := q9.1; omega)).2.2; rw [show (x5 + 1).toNat = x5.toNat + 1 by omega, rT_v (e := bv x5.toNat + kb) (by omega) (bh_tm hkb1 (by omega))]; exact ⟨CM_app (N := N) hi1.1 ap hU1.2 (by omega) (by omega) (by omega), AF_tr hi1.2 ap.2.2.2⟩) (by omega)
            · refine k_run 0 (pc' := 120) (l' := [(0, .inr (.inr 366)), (1, .inr (.inr t)), (2, .inl a), (3, .inr (.inr u)), (4, .inr (.inr v)), (5, .inl x5), (6, .inl (H1.1 (u + 1) (x5).toNat)), (7, .inl z40), (8, .inl (H1.1 367 (z40).toNat)), (9, .inl z84)]) (st' := []) rfl ?_
              refine k_run 1 (pc' := 121) (l' := [(0, .inr (.inr 366)), (1, .inr (.inr t)), (2, .inl a), (3, .inr (.inr u)), (4, .inr (.inr v)), (5, .inl x5), (6, .inl (H1.1 (u + 1) (x5).toNat)), (7, .inl z40), (8, .inl (H1.1 367 (z40).toNat)), (9, .inl z84)]) (st' := [.inl 0]) rfl ?_
              refine h_retz (x := 0) rfl rfl (by decide) ?_
              rw [hQ9]
              exact ⟨_, rfl, (by omega), hI80, hf85, (by first | (exfalso; omega) | exact (by have q9 := (hx83.resolve_left (fun q9 => by have q8 := q9.1; omega)).2; refine ⟨Or.inr ⟨rfl, ?_⟩, by rw [q9.2]; exact hi1.2⟩; have q8 := lT_le (ar := ar) (T := T) (bv := bv) (g := g) (a := a.toNat) (kr := kr) (N := N) (y := x5.toNat + 1) (by omega); exact (by rw [rT_v (e := bv x5.toNat + kb) (by omega) (bh_tm hkb1 (by omega)), List.length_append, sl_len] at q8; omega)))⟩
          · refine k_run 0 (pc' := 84) (l' := [(0, .inr (.inr 366)), (1, .inr (.inr t)), (2, .inl a), (3, .inr (.inr u)), (4, .inr (.inr v)), (5, .inl x5), (6, .inl (H1.1 (u + 1) (x5).toNat)), (7, .inl z40), (8, .inl (H1.1 367 (z40).toNat))]) (st' := []) rfl ?_
            refine k_run 6 (pc' := 93) (l' := [(0, .inr (.inr 366)), (1, .inr (.inr t)), (2, .inl a), (3, .inr (.inr u)), (4, .inr (.inr v)), (5, .inl x5), (6, .inl (H1.1 (u + 1) (x5).toNat)), (7, .inl z40), (8, .inl (H1.1 367 (z40).toNat))]) (st' := [.inl (x5 + 1), .inl x5, .inr (.inr u), .inr (.inr v)]) rfl ?_
            refine h_cv (i := 85) (j := 54) (b := v) (M' := mt_54) (xs := [.inl (x5 + 1), .inl x5, .inr (.inr u)]) (rest := []) rfl rfl rfl rfl (by rw [zs_K hv.1 (iT0 hv)]; rfl) rfl (Nat.le_of_ble_eq_true rfl) (Nat.le_of_ble_eq_true rfl) (by omega) (qb_append (by omega) hI1 hv hu (by omega) (by omega) (by omega)) ?_
            rintro _ H88 ⟨z93, rfl, g87, hI89, hq90, hx92⟩
            have hf94 : fq [] [] false H H88 := fq_t hf1 hq90 rfl rfl rfl
            refine k_run 0 (pc' := 96) (l' := [(0, .inr (.inr 366)), (1, .inr (.inr t)), (2, .inl a), (3, .inr (.inr u)), (4, .inr (.inr v)), (5, .inl x5), (6, .inl (H1.1 (u + 1) (x5).toNat)), (7, .inl z40), (8, .inl (H1.1 367 (z40).toNat))]) (st' := [.inl z93]) rfl ?_
            refine k_run 3 (pc' := 117) (l' := [(0, .inr (.inr 366)), (1, .inr (.inr t)), (2, .inl a), (3, .inr (.inr u)), (4, .inr (.inr v)), (5, .inl x5), (6, .inl (H1.1 (u + 1) (x5).toNat)), (7, .inl z40), (8, .inl (H1.1 367 (z40).toNat)), (9, .inl z93)]) (st' := [.inl z93]) rfl ?_
            refine h_zne (off := 5) (t := 122) rfl rfl (by omega) (fun c95 => ?_) (fun c95 => ?_)
            · refine k_run 0 (pc' := 122) (l' := [(0, .inr (.inr 366)), (1, .inr (.inr t)), (2, .inl a), (3, .inr (.inr u)), (4, .inr (.inr v)), (5, .inl x5), (6, .inl (H1.1 (u + 1) (x5).toNat)), (7, .inl z40), (8, .inl (H1.1 367 (z40).toNat)), (9, .inl z93)]) (st' := []) rfl ?_
              refine k_run 2 (pc' := 22) (l' := [(0, .inr (.inr 366)), (1, .inr (.inr t)), (2, .inl a), (3, .inr (.inr u)), (4, .inr (.inr v)), (5, .inl (x5 + 1)), (6, .inl (H1.1 (u + 1) (x5).toNat)), (7, .inl z40), (8, .inl (H1.1 367 (z40).toNat)), (9, .inl z93)]) (st' := []) rfl ?_
              refine h_loc [0, 1, 2, 3, 4, 5] rfl ?_
              rw [hQ9]
              exact ih H88 hI89 hf94 (x5 + 1) (by omega) (by omega) (by have ap := (hx92.resolve_right (fun q9 => by have q8 := q9.1; omega)).2.2; rw [show (x5 + 1).toNat = x5.toNat + 1 by omega, rT_c (by omega)]; exact ⟨CM_app (N := kr) hi1.1 ap hT1.2 (by omega) (by omega) (by omega), AF_tr hi1.2 ap.2.2.2⟩) (by omega)
            · refine k_run 0 (pc' := 120) (l' := [(0, .inr (.inr 366)), (1, .inr (.inr t)), (2, .inl a), (3, .inr (.inr u)), (4, .inr (.inr v)), (5, .inl x5), (6, .inl (H1.1 (u + 1) (x5).toNat)), (7, .inl z40), (8, .inl (H1.1 367 (z40).toNat)), (9, .inl z93)]) (st' := []) rfl ?_
              refine k_run 1 (pc' := 121) (l' := [(0, .inr (.inr 366)), (1, .inr (.inr t)), (2, .inl a), (3, .inr (.inr u)), (4, .inr (.inr v)), (5, .inl x5), (6, .inl (H1.1 (u + 1) (x5).toNat)), (7, .inl z40), (8, .inl (H1.1 367 (z40).toNat)), (9, .inl z93)]) (st' := [.inl 0]) rfl ?_
              refine h_retz (x := 0) rfl rfl (by decide) ?_
              rw [hQ9]
              exact ⟨_, rfl, (by omega), hI89, hf94, (by first | (exfalso; omega) | exact (by have q9 := (hx92.resolve_left (fun q9 => by have q8 := q9.1; omega)).2; refine ⟨Or.inr ⟨rfl, ?_⟩, by rw [q9.2]; exact hi1.2⟩; have q8 := lT_le (ar := ar) (T := T) (bv := bv) (g := g) (a := a.toNat) (kr := kr) (N := N) (y := x5.toNat + 1) (by omega); exact (by rw [rT_c (by omega), List.length_append, sl_len] at q8; omega)))⟩
set_option maxRecDepth 100000 in
theorem qb_replaceAt {X : rx} {ar : Int → Int} {cn fn : Int} {g : Nat → Int} {N : Nat} {T : Nat → Int} {bv : Nat → Nat} {kr k : Nat} {d : Nat} (hd : 2 ≤ d) {H : hp} (hI : Inv H) {t n : Nat} {a : Int} {u m : Nat} {v o : Nat} (ht : isT t n) (ha : -2147483648 ≤ a ∧ a ≤ 2147483647) (hu : isT u m) (hv : isT v o) (ha0 : 0 ≤ a) (hvt : v + 1 < t ∨ t + 1 < v) (hvu : v + 1 < u ∨ u + 1 < v) (hv368 : 368 ≤ v) (hu9 : CM H t X N g) (hT9 : CM H u X kr T) (hK : ∀ s, m_sg cn fn 40 s → KF9 X s ∧ aC (kcd X s) = ar s) (hsg : ∀ x : Nat, x < kr → m_sg cn fn 40 (T x)) (hb9 : ∀ x : Nat, x < kr → 1000 ≤ T x → H.1 367 (T x - 1000).toNat = ((bv x : Nat) : Int) ∧ ∃ kb : Nat, tm ar (m_sg cn fn 0) g kb (bv x) 1 ∧ bv x + kb ≤ N) (hk9 : tm ar (m_sg cn fn 0) g k a.toNat 1) (hN9 : a.toNat + k ≤ N ∧ N ≤ 240) : hG (zs zK) d mt_98 0 (zargs 0 [.inr (.inr 366), .inr (.inr t), .inl a, .inr (.inr u), .inr (.inr v)]) [] H (fun r9 H9 => ∃ z : Int, r9 = some (.inl z) ∧ ((0 ≤ z ∧ z ≤ 1)) ∧ Inv H9 ∧ fq [] [] false H H9 ∧ (((z = 1 ∧ (lT ar T bv g a.toNat kr N).length ≤ o ∧ CM H9 v X (lT ar T bv g a.toNat kr N).length (ga (lT ar T bv g a.toNat kr N))) ∨ (z = 0 ∧ o < (lT ar T bv g a.toNat kr N).length)) ∧ AF v H H9)) := by
  have htb := ht.2.2.2.2
  have hub := hu.2.2.2.2
  have hvb := hv.2.2.2.2
  have hu91 := hu9.1
  have hT91 := hT9.1
  have hkp : 0 < k := tm_le hk9
  obtain ⟨Q9, hQ9⟩ : ∃ Q9 : Option zv → hp → Prop, Q9 = (fun r9 H9 => ∃ z : Int, r9 = some (.inl z) ∧ ((0 ≤ z ∧ z ≤ 1)) ∧ Inv H9 ∧ fq [] [] false H H9 ∧ (((z = 1 ∧ (lT ar T bv g a.toNat kr N).length ≤ o ∧ CM H9 v X (lT ar T bv g a.toNat kr N).length (ga (lT ar T bv g a.toNat kr N))) ∨ (z = 0 ∧ o < (lT ar T bv g a.toNat kr N).length)) ∧ AF v H H9)) := ⟨_, rfl⟩
  rw [← hQ9]
  refine k_run 0 (pc' := 0) (l' := [(0, .inr (.inr 366)), (1, .inr (.inr t)), (2, .inl a), (3, .inr (.inr u)), (4, .inr (.inr v))]) (st' := []) rfl ?_
  refine k_run 2 (pc' := 3) (l' := [(0, .inr (.inr 366)), (1, .inr (.inr t)), (2, .inl a), (3, .inr (.inr u)), (4, .inr (.inr v))]) (st' := [.inl 0, .inr (.inr v)]) rfl ?_
  refine k_puti (z := 0) (a := v) (x := (kTo v o)) rfl rfl hv.1 (iT0 hv) hv.2.2.1 rfl rfl rfl rfl hI (by decide) (show 0 ≤ (0 : Int) ∧ (0 : Int) ≤ o by omega) (fun H1 hI2 hw3 hv4 => ?_)
  have hf5 : fq [] [] false H H1 := fq_w (fq_rf _ _ _ _) hw3 (fpT hv)
  refine k_run 0 (pc' := 6) (l' := [(0, .inr (.inr 366)), (1, .inr (.inr t)), (2, .inl a), (3, .inr (.inr u)), (4, .inr (.inr v))]) (st' := []) rfl ?_
  have eT0 : H1.1 t 1 = H.1 t 1 := hw3.2 _ _ (fun q9 => by have := q9.1; omega)
  refine k_run 4 (pc' := 11) (l' := [(0, .inr (.inr 366)), (1, .inr (.inr t)), (2, .inl a), (3, .inr (.inr u)), (4, .inr (.inr v))]) (st' := [.inl a, .inl 0, .inr (.inr t), .inr (.inr v)]) rfl ?_
  refine h_cv (i := 85) (j := 54) (b := v) (M' := mt_54) (xs := [.inl a, .inl 0, .inr (.inr t)]) (rest := []) rfl rfl rfl rfl (by rw [zs_K hv.1 (iT0 hv)]; rfl) rfl (Nat.le_of_ble_eq_true rfl) (Nat.le_of_ble_eq_true rfl) (by omega) (qb_append (by omega) hI2 hv ht (by decide) (by omega) (by omega)) ?_
  rintro _ H7 ⟨z12, rfl, g6, hI8, hq9, hx11⟩
  have hf13 : fq [] [] false H H7 := fq_t hf5 hq9 rfl rfl rfl
  refine k_run 0 (pc' := 14) (l' := [(0, .inr (.inr 366)), (1, .inr (.inr t)), (2, .inl a), (3, .inr (.inr u)), (4, .inr (.inr v))]) (st' := [.inl z12]) rfl ?_
  refine h_zne (off := 5) (t := 19) rfl rfl (by omega) (fun c14 => ?_) (fun c14 => ?_)
  · refine k_run 0 (pc' := 19) (l' := [(0, .inr (.inr 366)), (1, .inr (.inr t)), (2, .inl a), (3, .inr (.inr u)), (4, .inr (.inr v))]) (st' := []) rfl ?_
    refine k_run 2 (pc' := 22) (l' := [(0, .inr (.inr 366)), (1, .inr (.inr t)), (2, .inl a), (3, .inr (.inr u)), (4, .inr (.inr v)), (5, .inl 0)]) (st' := []) rfl ?_
    rw [hQ9]
    exact (qb_replaceAt_cut hd hI ht ha hu hv ha0 hvt hvu hv368 hu9 hT9 hK hsg hb9 hk9 hN9 _) H7 hI8 hf13 (0 : Int) (by decide) (by omega) (by have ap := (hx11.resolve_right (fun q9 => by have q8 := q9.1; omega)).2.2; have q0 : CM H1 v X ([] : List Int).length (ga []) := ⟨by have q9 := hv4; rw [q9]; rfl, fun x hx => absurd hx (Nat.not_lt_zero _)⟩; have q1 := CM_app (N := N) (i := 0) (j := a.toNat) q0 ap (fun x hx => by rw [hw3.2 _ _ (fun q9 => by have := q9.1; omega)]; exact hu9.2 x hx) rfl (by omega) (by omega); rw [List.nil_append] at q1; rw [show rT ar T bv g a.toNat (0 : Int).toNat = sl g 0 a.toNat from List.append_nil _]; exact ⟨q1, AF_tr (AF_w hw3) ap.2.2.2⟩) (Nat.lt_succ_self _)
  · refine k_run 0 (pc' := 17) (l' := [(0, .inr (.inr 366)), (1, .inr (.inr t)), (2, .inl a), (3, .inr (.inr u)), (4, .inr (.inr v))]) (st' := []) rfl ?_
    refine k_run 1 (pc' := 18) (l' := [(0, .inr (.inr 366)), (1, .inr (.inr t)), (2, .inl a), (3, .inr (.inr u)), (4, .inr (.inr v))]) (st' := [.inl 0]) rfl ?_
    refine h_retz (x := 0) rfl rfl (by decide) ?_
    rw [hQ9]
    exact ⟨_, rfl, (by omega), hI8, hf13, (by first | (exfalso; omega) | exact (by have q9 := (hx11.resolve_left (fun q9 => by have q8 := q9.1; omega)).2; refine ⟨Or.inr ⟨rfl, ?_⟩, by rw [q9.2]; exact AF_w hw3⟩; have q8 := lT_le (ar := ar) (T := T) (bv := bv) (g := g) (a := a.toNat) (kr := kr) (N := N) (y := 0) (Nat.zero_le _); rw [show rT ar T bv g a.toNat 0 = sl g 0 a.toNat from List.append_nil _, sl_len] at q8; omega))⟩
