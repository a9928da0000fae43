theorem tk_ap {m : Nat} {A B : vls} (h : A.length ≤ m) : (A ++ B).take m = A ++ B.take (m - A.length) := by
  rw [List.take_append, List.take_of_length_le h]

/-! the reference lists values, told exactly -/
/-- the list of type t -/
def RLs (va vz vc : Nat → Int) (t : Nat) (L : vls) : Prop := vc t = (L.length : Int) ∧ L.length ≤ 2001 ∧ ∀ (i : Nat) (v : List Int), L[i]? = some v → (1 ≤ v.length ∧ v.length ≤ 6) ∧ vz (2001 * t + i) = (v.length : Int) ∧ ∀ x, x < v.length → va (7 * (2001 * t + i) + x) = ga v x
def VS (tn : Int) (va vz vc : Nat → Int) (Ls : Nat → vls) : Prop := ∀ t : Nat, (t : Int) < tn → RLs va vz vc t (Ls t)
def upL (Ls : Nat → vls) (t : Nat) (L : vls) : Nat → vls := fun u => if u = t then L else Ls u
def addN (L A : vls) : vls := (L ++ A).take 2001
theorem upL_eq (Ls : Nat → vls) (t : Nat) (L : vls) : upL Ls t L t = L := if_pos rfl
theorem upL_ne (Ls : Nat → vls) {t u : Nat} (L : vls) (h : u ≠ t) : upL Ls t L u = Ls u := if_neg h
theorem upL_up (Ls : Nat → vls) (t : Nat) (L M : vls) : upL (upL Ls t L) t M = upL Ls t M := by
  funext u
  by_cases h : u = t
  · subst h
    rw [upL_eq, upL_eq]
  · rw [upL_ne _ _ h, upL_ne _ _ h, upL_ne _ _ h]
theorem upL_id (Ls : Nat → vls) (t : Nat) : upL Ls t (Ls t) = Ls := by
  funext u
  by_cases h : u = t
  · subst h
    exact upL_eq _ _ _
  · exact upL_ne _ _ h
theorem addN_app (L A B : vls) : addN (addN L A) B = addN L (A ++ B) := by
  unfold addN
  rw [tk_tk, List.append_assoc]
theorem addN_nil {L : vls} (h : L.length ≤ 2001) : addN L [] = L := by
  unfold addN
  rw [List.append_nil]
  exact List.take_of_length_le h
theorem addN_len (L A : vls) : (addN L A).length ≤ 2001 := by
  unfold addN
  rw [List.length_take]
  omega
/-- one list more by more values -/
def adL (Ls : Nat → vls) (t : Nat) (A : vls) : Nat → vls := upL Ls t (addN (Ls t) A)
theorem adL_ad (Ls : Nat → vls) (t : Nat) (A B : vls) : adL (adL Ls t A) t B = adL Ls t (A ++ B) := by
  unfold adL
  rw [upL_eq, upL_up, addN_app]
theorem adL_nil {Ls : Nat → vls} {t : Nat} (h : (Ls t).length ≤ 2001) : adL Ls t [] = Ls := by
  unfold adL
  rw [addN_nil h, upL_id]
/-- lists begin with what they were at first -/
def PX (tn : Int) (fo : Nat → Int) (n : Nat) (Ls Lr : Nat → vls) : Prop := ∀ u : Nat, (u : Int) < tn → fo (8 * u + n) = ((Lr u).length : Int) ∧ (∃ r : vls, Ls u = Lr u ++ r) ∧ List.Pairwise (fun v w : List Int => v.length ≤ w.length) (Lr u)
theorem PX_ad {tn : Int} {fo : Nat → Int} {n t : Nat} {Ls Lr : Nat → vls} {A : vls} (h : PX tn fo n Ls Lr) (hl : ∀ u : Nat, (u : Int) < tn → (Ls u).length ≤ 2001) : PX tn fo n (adL Ls t A) Lr := by
  intro u hu
  obtain ⟨h1, ⟨r, h2⟩, h3⟩ := h u hu
  refine ⟨h1, ?_, h3⟩
  by_cases e : u = t
  · subst e
    unfold adL addN
    rw [upL_eq, tk_ap (hl u hu), h2, List.append_assoc]
    exact ⟨_, rfl⟩
  · exact ⟨r, by unfold adL; rw [upL_ne _ _ e]; exact h2⟩
theorem PX_get {tn : Int} {fo : Nat → Int} {n u i : Nat} {Ls Lr : Nat → vls} {v : List Int} (h : PX tn fo n Ls Lr) (hu : (u : Int) < tn) (hi : (Lr u)[i]? = some v) : (Ls u)[i]? = some v := by
  obtain ⟨-, ⟨r, h2⟩, -⟩ := h u hu
  rw [h2, List.getElem?_append_left (List.getElem?_eq_some_iff.mp hi).1]
  exact hi
theorem VS_len {tn : Int} {va vz vc : Nat → Int} {Ls : Nat → vls} (h : VS tn va vz vc Ls) : ∀ u : Nat, (u : Int) < tn → (Ls u).length ≤ 2001 := fun u hu => (h u hu).2.1
theorem VS_fr {H K : hp} {ob ar : List Nat} {Ls : Nat → vls} (h : VS (H.1 1826 1) (H.1 1861) (H.1 1862) (H.1 1863) Ls) (f : fr ob ar H K) (h1 : ∀ c ∈ [1861, 1862, 1863], c ∉ ar) (h2 : ∀ j ∈ [1], j ∉ ob) : VS (K.1 1826 1) (K.1 1861) (K.1 1862) (K.1 1863) Ls := by
  rw [f.2.2 1 (h2 _ (by decide)), f.2.1 1861 (by decide) (h1 _ (by decide)), f.2.1 1862 (by decide) (h1 _ (by decide)), f.2.1 1863 (by decide) (h1 _ (by decide))]
  exact h
theorem VS_add {tn : Int} {va vz vc md va' : Nat → Int} {Ls : Nat → vls} {t m : Nat} {v : List Int} (h : VS tn va vz vc Ls) (ht : (t : Int) < tn) (hm : vc t = (m : Int)) (hm2 : m < 2001) (hn : 1 ≤ v.length ∧ v.length ≤ 6) (hmd : ∀ x, x < v.length → md x = ga v x) (h1 : ∀ x, x < 7 * (2001 * t + m) ∨ 7 * (2001 * t + m) + 6 ≤ x → va' x = va x) (h2 : ∀ x, x < v.length → va' (7 * (2001 * t + m) + x) = md x) : VS tn va' (up vz (2001 * t + m) (v.length : Int)) (up vc t ((m : Int) + 1)) (adL Ls t [v]) := by
  have h0 := h t ht
  have hl : (Ls t).length = m := by have := h0.1; omega
  have key : ∀ (u i : Nat) (w : List Int), (u : Int) < tn → (Ls u)[i]? = some w → (1 ≤ w.length ∧ w.length ≤ 6) ∧ up vz (2001 * t + m) (v.length : Int) (2001 * u + i) = (w.length : Int) ∧ ∀ x, x < w.length → va' (7 * (2001 * u + i) + x) = ga w x := by
    intro u i w hu hi
    obtain ⟨b1, b2, b3⟩ := h u hu
    have hil : i < (Ls u).length := (List.getElem?_eq_some_iff.mp hi).1
    obtain ⟨c1, c2, c3⟩ := b3 i w hi
    have hne : 2001 * u + i ≠ 2001 * t + m := by
      by_cases e : u = t
      · subst e; omega
      · omega
    exact ⟨c1, by rw [up_ne _ _ hne]; exact c2, fun x hx => by rw [h1 _ (by omega)]; exact c3 x hx⟩
  intro u hu
  by_cases e : u = t
  · subst e
    have e1 : adL Ls u [v] u = Ls u ++ [v] := by
      unfold adL addN
      rw [upL_eq]
      exact List.take_of_length_le (by rw [List.length_append, hl]; exact hm2)
    rw [e1]
    refine ⟨by rw [up_eq, List.length_append, hl]; rfl, by rw [List.length_append, hl]; exact hm2, fun i w hi => ?_⟩
    by_cases q : i < m
    · rw [List.getElem?_append_left (by omega)] at hi
      exact key u i w hu hi
    · rw [List.getElem?_append_right (by omega), hl] at hi
      have q2 : i = m := by
        have := (List.getElem?_eq_some_iff.mp hi).1
        have : i - m < 1 := this
        omega
      subst q2
      rw [Nat.sub_self] at hi
      have hi : some v = some w := hi
      cases hi
      exact ⟨hn, up_eq _ _ _, fun x hx => (h2 x hx).trans (hmd x hx)⟩
  · have e1 : adL Ls t [v] u = Ls u := upL_ne _ _ e
    rw [e1]
    obtain ⟨b1, b2, b3⟩ := h u hu
    exact ⟨by rw [up_ne _ _ e]; exact b1, b2, fun i w hi => key u i w hu hi⟩
theorem VS_full {tn : Int} {va vz vc : Nat → Int} {Ls : Nat → vls} {t : Nat} {A : vls} (h : VS tn va vz vc Ls) (ht : (t : Int) < tn) (hm : 2001 ≤ vc t) : VS tn va vz vc (adL Ls t A) := by
  have h0 := h t ht
  have e : adL Ls t A = Ls := by
    unfold adL addN
    rw [List.take_append_of_le_length (by have := h0.1; omega), List.take_of_length_le h0.2.1, upL_id]
  rw [e]
  exact h
theorem VS_sz {tn : Int} {va vz vc cG : Nat → Int} {Ls : Nat → vls} {c k i g : Nat} {v : List Int} (h : VS tn va vz vc Ls) (hg : cG (3 * c + k) = (g : Int)) (hgt : (g : Int) < tn) (hi : (Ls g)[i]? = some v) : sz vz cG c k i = (v.length : Int) := by
  unfold sz
  rw [hg, show (2001 * (g : Int) + (i : Int)).toNat = 2001 * g + i by omega]
  exact ((h g hgt).2.2 i v hi).2.1
/-- what is made begins with a row -/
theorem MK_ap {m m' : Nat → Int} {cur : Nat} {l v : List Int} (h : MK m cur l) (h1 : ∀ x, x < cur → m' x = m x) (h2 : ∀ x, x < v.length → m' (cur + x) = ga v x) : MK m' (cur + v.length) (l ++ v) := by
  refine ⟨by rw [List.length_append, h.1], fun x hx => ?_⟩
  by_cases q : x < cur
  · rw [h1 x q, h.2 x q, ga_app_l (by rw [h.1]; exact q)]
  · rw [ga_app_r (by rw [h.1]; omega), h.1, ← h2 (x - cur) (by omega)]
    congr 1
    omega

/-! putValue -/
set_option maxRecDepth 100000 in
theorem n_putValue_cut {zC : Nat → Option zsh} {d : Nat} (hd : 2 ≤ d) {H : hp} {Ls : Nat → vls} {v l : List Int} {c k i g p : Nat} (hP : PWc H) (hc : (c : Int) < (H.1 1826 3)) (hk : (k : Int) < (H.1 1830) c) (hgg : (H.1 1831) (3 * c + k) = (g : Int)) (hgt : (g : Int) < (H.1 1826 1)) (hV : VS (H.1 1826 1) (H.1 1861) (H.1 1862) (H.1 1863) Ls) (hi : (Ls g)[i]? = some v) (hms : (H.1 1826 53) = (p : Int)) (hp9 : p ≤ 100) (hmk : MK (H.1 1856) p l) : ∀ w : Nat, (∀ (H1 : hp) (q : Nat) (x9 : Nat), (fr [53] [1856] H H1) → (q = 2001 * g + i) → (x9 ≤ v.length) → ((H1.1 1826 53) = ((p + x9 : Nat) : Int)) → (∀ x, x < p → (H1.1 1856) x = (H.1 1856) x) → (∀ x, x < x9 → (H1.1 1856) (p + x) = (H.1 1861) (7 * q + x)) → 1000 - x9 < w → hG (zs zC) d mt_214 21 [(0, .inr (.inr 1826)), (1, .inl (c : Int)), (2, .inl (k : Int)), (3, .inl (i : Int)), (4, .inl (q : Int)), (5, .inl (x9 : Int))] [] H1 (fun r9 H2 => r9 = none ∧ fr [53] [1856] H H2 ∧ (H2.1 1826 53) = ((p + v.length : Nat) : Int) ∧ MK (H2.1 1856) (p + v.length) (l ++ v))) := by
  intro w
  induction w with
  | zero => exact fun _ _ _ _ _ _ _ _ _ h => absurd h (Nat.not_lt_zero _)
  | succ w ih =>
    intro H1 q x9 hf hq hx hmz hlo hhi hw
    refine h_rng (fun hrg1 => ?_)
    obtain ⟨⟨pb1, pb2, pb3, pb4, pb5⟩, pw1, pw2, pw3, pw4⟩ := (id hP : PW H (H.1 1826 1) (H.1 1826 3) (H.1 1826 8) (H.1 1826 13) (H.1 1826 19))
    obtain ⟨hca, hct, hcg⟩ := pw1 c (by omega)
    obtain ⟨mv1, mv2, mv3⟩ := hV g hgt
    have hil : i < (Ls g).length := (List.getElem?_eq_some_iff.mp hi).1
    obtain ⟨kv1, kv2, kv3⟩ := mv3 i v hi
    have kv4 := kv2
    rw [← hq] at kv4
    refine h_run 4 (pc' := 29) (l' := [(0, .inr (.inr 1826)), (1, .inl (c : Int)), (2, .inl (k : Int)), (3, .inl (i : Int)), (4, .inl (q : Int)), (5, .inl (x9 : Int))]) (st' := [.inl (q : Int), .inr (.inr 1862), .inl (x9 : Int)]) rfl ?_
    refine h_ild (c := 1862) (j := q) (i := (q : Int)) rfl rfl (by decide) rfl (by omega) ?_
    have g2 : -2147483648 ≤ (H1.1 1862 q) ∧ (H1.1 1862 q) ≤ 2147483647 := hrg1.2 1862 q 12006 .int rfl (by omega)
    have e3 : (H1.1 1862 q) = (H.1 1862 q) := congrFun (hf.2.1 1862 (by decide) (by decide)) q
    refine h_run 0 (pc' := 30) (l' := [(0, .inr (.inr 1826)), (1, .inl (c : Int)), (2, .inl (k : Int)), (3, .inl (i : Int)), (4, .inl (q : Int)), (5, .inl (x9 : Int))]) (st' := [.inl (H1.1 1862 q), .inl (x9 : Int)]) rfl ?_
    refine h_ige (off := 41) (t := 71) rfl rfl (by omega) (by omega) (fun c4 => ?_) (fun c4 => ?_)
    · refine h_ret rfl rfl ?_
      exact ⟨rfl, hf, by omega, MK_ap hmk hlo (fun x8 h8 => by rw [hhi x8 (by omega), hq]; exact kv3 x8 h8)⟩
    · refine h_run 4 (pc' := 41) (l' := [(0, .inr (.inr 1826)), (1, .inl (c : Int)), (2, .inl (k : Int)), (3, .inl (i : Int)), (4, .inl (q : Int)), (5, .inl (x9 : Int))]) (st' := [.inl (H1.1 1826 53), .inr (.inr 1856)]) rfl ?_
      have g5 : -2147483648 ≤ (H1.1 1826 53) ∧ (H1.1 1826 53) ≤ 2147483647 := hrg1.1 1826 13 53 _ .int rfl rfl
      refine h_run 7 (pc' := 53) (l' := [(0, .inr (.inr 1826)), (1, .inl (c : Int)), (2, .inl (k : Int)), (3, .inl (i : Int)), (4, .inl (q : Int)), (5, .inl (x9 : Int))]) (st' := [.inl ((7 * (q : Int)) + (x9 : Int)), .inr (.inr 1861), .inl (H1.1 1826 53), .inr (.inr 1856)]) rfl ?_
      refine h_ild (c := 1861) (j := ((7 * q) + x9)) (i := ((7 * (q : Int)) + (x9 : Int))) rfl rfl (by decide) (by omega) (by omega) ?_
      have g6 : -2147483648 ≤ (H1.1 1861 ((7 * q) + x9)) ∧ (H1.1 1861 ((7 * q) + x9)) ≤ 2147483647 := hrg1.2 1861 ((7 * q) + x9) 84042 .int rfl (by omega)
      have e7 : (H1.1 1861 ((7 * q) + x9)) = (H.1 1861 ((7 * q) + x9)) := congrFun (hf.2.1 1861 (by decide) (by decide)) ((7 * q) + x9)
      refine h_run 0 (pc' := 54) (l' := [(0, .inr (.inr 1826)), (1, .inl (c : Int)), (2, .inl (k : Int)), (3, .inl (i : Int)), (4, .inl (q : Int)), (5, .inl (x9 : Int))]) (st' := [.inl (H1.1 1861 ((7 * q) + x9)), .inl (H1.1 1826 53), .inr (.inr 1856)]) rfl ?_
      refine h_ist (c := 1856) (j := ((H1.1 1826 53)).toNat) (i := (H1.1 1826 53)) (x := (H1.1 1861 ((7 * q) + x9))) rfl rfl (by decide) (by decide) (by omega) (by omega) (by omega) ?_
      refine h_run 3 (pc' := 60) (l' := [(0, .inr (.inr 1826)), (1, .inl (c : Int)), (2, .inl (k : Int)), (3, .inl (i : Int)), (4, .inl (q : Int)), (5, .inl (x9 : Int))]) (st' := [.inl (H1.1 1826 53), .inr (.inr 1826)]) rfl ?_
      refine h_run 2 (pc' := 62) (l' := [(0, .inr (.inr 1826)), (1, .inl (c : Int)), (2, .inl (k : Int)), (3, .inl (i : Int)), (4, .inl (q : Int)), (5, .inl (x9 : Int))]) (st' := [.inl ((H1.1 1826 53) + 1), .inr (.inr 1826)]) rfl ?_
      refine h_puti (i := 437) (ci := 13) (k := 53) (a := 1826) (x := ((H1.1 1826 53) + 1)) rfl rfl rfl rfl rfl rfl (by decide) (by omega) ?_
      refine h_run 2 (pc' := 21) (l' := [(0, .inr (.inr 1826)), (1, .inl (c : Int)), (2, .inl (k : Int)), (3, .inl (i : Int)), (4, .inl (q : Int)), (5, .inl ((x9 : Int) + 1))]) (st' := []) rfl ?_
      rw [show ((x9 : Int) + 1) = (((x9 + 1) : Nat) : Int) by omega]
      exact ih _ q (x9 + 1) (fr_o (fr_a hf (by decide)) (by decide)) (by omega) (by omega) (by omega : ((H1.1 1826 53) + 1) = ((p + (x9 + 1) : Nat) : Int)) (fun x8 h8 => (up_ne _ _ (by omega)).trans (hlo x8 h8)) (pv_up hhi (by omega) (congrFun (hf.2.1 1861 (by decide) (by decide)) _)) (by omega : 1000 - (x9 + 1) < w)
set_option maxRecDepth 100000 in
theorem n_putValue {zC : Nat → Option zsh} {d : Nat} (hd : 2 ≤ d) {H : hp} {Ls : Nat → vls} {v l : List Int} {c k i g p : Nat} (hP : PWc H) (hc : (c : Int) < (H.1 1826 3)) (hk : (k : Int) < (H.1 1830) c) (hgg : (H.1 1831) (3 * c + k) = (g : Int)) (hgt : (g : Int) < (H.1 1826 1)) (hV : VS (H.1 1826 1) (H.1 1861) (H.1 1862) (H.1 1863) Ls) (hi : (Ls g)[i]? = some v) (hms : (H.1 1826 53) = (p : Int)) (hp9 : p ≤ 100) (hmk : MK (H.1 1856) p l) : hG (zs zC) d mt_214 0 (zargs 0 [.inr (.inr 1826), .inl (c : Int), .inl (k : Int), .inl (i : Int)]) [] H (fun r9 H2 => r9 = none ∧ fr [53] [1856] H H2 ∧ (H2.1 1826 53) = ((p + v.length : Nat) : Int) ∧ MK (H2.1 1856) (p + v.length) (l ++ v)) := by
  refine h_rng (fun hrg0 => ?_)
  refine h_run 0 (pc' := 0) (l' := [(0, .inr (.inr 1826)), (1, .inl (c : Int)), (2, .inl (k : Int)), (3, .inl (i : Int))]) (st' := []) rfl ?_
  obtain ⟨⟨pb1, pb2, pb3, pb4, pb5⟩, pw1, pw2, pw3, pw4⟩ := (id hP : PW H (H.1 1826 1) (H.1 1826 3) (H.1 1826 8) (H.1 1826 13) (H.1 1826 19))
  obtain ⟨hca, hct, hcg⟩ := pw1 c (by omega)
  obtain ⟨mv1, mv2, mv3⟩ := hV g hgt
  have hil : i < (Ls g).length := (List.getElem?_eq_some_iff.mp hi).1
  obtain ⟨kv1, kv2, kv3⟩ := mv3 i v hi
  refine h_run 8 (pc' := 12) (l' := [(0, .inr (.inr 1826)), (1, .inl (c : Int)), (2, .inl (k : Int)), (3, .inl (i : Int))]) (st' := [.inl ((3 * (c : Int)) + (k : Int)), .inr (.inr 1831), .inl 2001]) rfl ?_
  refine h_ild (c := 1831) (j := ((3 * c) + k)) (i := ((3 * (c : Int)) + (k : Int))) rfl rfl (by decide) (by omega) (by omega) ?_
  have g8 : -2147483648 ≤ (H.1 1831 ((3 * c) + k)) ∧ (H.1 1831 ((3 * c) + k)) ≤ 2147483647 := hrg0.2 1831 ((3 * c) + k) 48 .int rfl (by omega)
  refine h_run 0 (pc' := 13) (l' := [(0, .inr (.inr 1826)), (1, .inl (c : Int)), (2, .inl (k : Int)), (3, .inl (i : Int))]) (st' := [.inl (H.1 1831 ((3 * c) + k)), .inl 2001]) rfl ?_
  refine h_run 6 (pc' := 21) (l' := [(0, .inr (.inr 1826)), (1, .inl (c : Int)), (2, .inl (k : Int)), (3, .inl (i : Int)), (4, .inl ((2001 * (H.1 1831 ((3 * c) + k))) + (i : Int))), (5, .inl 0)]) (st' := []) rfl ?_
  have g9 : -2147483648 ≤ (H.1 1826 53) ∧ (H.1 1826 53) ≤ 2147483647 := hrg0.1 1826 13 53 _ .int rfl rfl
  rw [show ((2001 * (H.1 1831 ((3 * c) + k))) + (i : Int)) = (((((2001 * (H.1 1831 ((3 * c) + k))) + (i : Int))).toNat : Nat) : Int) by omega]
  exact (n_putValue_cut hd hP hc hk hgg hgt hV hi hms hp9 hmk _) _ (((2001 * (H.1 1831 ((3 * c) + k))) + (i : Int))).toNat 0 (fr_rf _ _ _) (by omega) (by omega) (by omega : (H.1 1826 53) = ((p + 0 : Nat) : Int)) (fun _ _ => rfl) (fun _ h8 => absurd h8 (Nat.not_lt_zero _)) (Nat.lt_succ_self _)

/-! begun -/
set_option maxRecDepth 100000 in
theorem n_begun {zC : Nat → Option zsh} {d : Nat} (hd : 4 ≤ d) {H : hp} {Ls : Nat → vls} {v : List Int} {c i g : Nat} (hP : PWc H) (hc : (c : Int) < (H.1 1826 3)) (hk : 1 ≤ (H.1 1830) c) (hgg : (H.1 1831) (3 * c + 0) = (g : Int)) (hgt : (g : Int) < (H.1 1826 1)) (hV : VS (H.1 1826 1) (H.1 1861) (H.1 1862) (H.1 1863) Ls) (hi : (Ls g)[i]? = some v) : hG (zs zC) d mt_216 0 (zargs 0 [.inr (.inr 1826), .inl (c : Int), .inl (i : Int)]) [] H (fun r9 H2 => r9 = none ∧ fr [53] [1856] H H2 ∧ (H2.1 1826 53) = ((1 + v.length : Nat) : Int) ∧ MK (H2.1 1856) (1 + v.length) ((1 + (c : Int)) :: v)) := by
  refine h_rng (fun hrg0 => ?_)
  refine h_run 0 (pc' := 0) (l' := [(0, .inr (.inr 1826)), (1, .inl (c : Int)), (2, .inl (i : Int))]) (st' := []) rfl ?_
  obtain ⟨⟨pb1, pb2, pb3, pb4, pb5⟩, pw1, pw2, pw3, pw4⟩ := (id hP : PW H (H.1 1826 1) (H.1 1826 3) (H.1 1826 8) (H.1 1826 13) (H.1 1826 19))
  obtain ⟨hca, hct, hcg⟩ := pw1 c (by omega)
  obtain ⟨mv1, mv2, mv3⟩ := hV g hgt
  have hil : i < (Ls g).length := (List.getElem?_eq_some_iff.mp hi).1
  obtain ⟨kv1, kv2, kv3⟩ := mv3 i v hi
  refine h_run 6 (pc' := 8) (l' := [(0, .inr (.inr 1826)), (1, .inl (c : Int)), (2, .inl (i : Int))]) (st' := [.inl (1 + (c : Int)), .inl 0, .inr (.inr 1856)]) rfl ?_
  refine h_ist (c := 1856) (j := 0) (i := 0) (x := (1 + (c : Int))) rfl rfl (by decide) (by decide) rfl (by omega) (by omega) ?_
  refine h_run 2 (pc' := 11) (l' := [(0, .inr (.inr 1826)), (1, .inl (c : Int)), (2, .inl (i : Int))]) (st' := [.inl 1, .inr (.inr 1826)]) rfl ?_
  refine h_puti (i := 437) (ci := 13) (k := 53) (a := 1826) (x := 1) rfl rfl rfl rfl rfl rfl (by decide) (by decide) ?_
  refine h_run 4 (pc' := 18) (l' := [(0, .inr (.inr 1826)), (1, .inl (c : Int)), (2, .inl (i : Int))]) (st' := [.inl (i : Int), .inl 0, .inl (c : Int), .inr (.inr 1826)]) rfl ?_
  have hP9 : PWc (zu (zu H 1856 (up (H.1 1856) 0 (1 + (c : Int)))) 1826 (up ((zu H 1856 (up (H.1 1856) 0 (1 + (c : Int)))).1 1826) 53 1)) := (PWc_o (PWc_a hP (by decide)) (by decide))
  refine h_cv (i := 511) (j := 214) (b := 1826) (M' := mt_214) (xs := [.inl (i : Int), .inl 0, .inl (c : Int)]) (rest := []) rfl rfl rfl rfl rfl rfl (Nat.le_of_ble_eq_true rfl) (Nat.le_of_ble_eq_true rfl) (by omega) (n_putValue (k := 0) (g := g) (p := 1) (v := v) (l := [1 + (c : Int)]) (by omega) hP9 hc (by omega : ((0 : Nat) : Int) < (H.1 1830) c) hgg hgt hV hi rfl (by decide) (MK_one (MK_0 (m := (H.1 1856))) (fun x hx => absurd hx (Nat.not_lt_zero _)) (show up (H.1 1856) 0 (1 + (c : Int)) 0 = _ from up_eq _ _ _))) ?_
  rintro _ H1 ⟨rfl, hfH1, hmsH1, hmkH1⟩
  refine h_rng (fun hrg2 => ?_)
  have hf3 : fr [53] [1856] H H1 := fr_t (fr_o (fr_a (fr_rf _ _ _) (by decide)) (by decide)) hfH1 (by decide) (by decide)
  refine h_run 0 (pc' := 21) (l' := [(0, .inr (.inr 1826)), (1, .inl (c : Int)), (2, .inl (i : Int))]) (st' := []) rfl ?_
  refine h_ret rfl rfl ?_
  exact ⟨rfl, hf3, hmsH1, hmkH1⟩

/-! addValue -/
set_option maxRecDepth 100000 in
theorem n_addValue_cut {zC : Nat → Option zsh} {d : Nat} (hd : 2 ≤ d) {H : hp} {Ls : Nat → vls} {v : List Int} {t n : Nat} (hP : PWc H) (ht : (t : Int) < (H.1 1826 1)) (hn : 1 ≤ n ∧ n ≤ 6) (hV : VS (H.1 1826 1) (H.1 1861) (H.1 1862) (H.1 1863) Ls) (hmk : MK (H.1 1856) n v) (hvl : v.length = n) : ∀ w : Nat, (∀ (H1 : hp) (q : Nat) (x9 : Nat) (m : Nat), (fr [] [1861, 1862, 1863] H H1) → ((H.1 1863) t = (m : Int) ∧ m < 2001) → (q = 2001 * t + m) → (x9 ≤ n) → ((H1.1 1862) = up (H.1 1862) (2001 * t + m) n) → ((H1.1 1863) = (H.1 1863)) → (∀ x, x < 7 * (2001 * t + m) ∨ 7 * (2001 * t + m) + 6 ≤ x → (H1.1 1861) x = (H.1 1861) x) → (∀ x, x < x9 → (H1.1 1861) (7 * (2001 * t + m) + x) = (H.1 1856) x) → 1000 - x9 < w → hG (zs zC) d mt_211 35 [(0, .inr (.inr 1826)), (1, .inl (t : Int)), (2, .inl (n : Int)), (3, .inl (q : Int)), (4, .inl (x9 : Int))] [] H1 (fun r9 H2 => r9 = none ∧ fr [] [1861, 1862, 1863] H H2 ∧ VS (H2.1 1826 1) (H2.1 1861) (H2.1 1862) (H2.1 1863) (adL Ls t [v]))) := by
  intro w
  induction w with
  | zero => exact fun _ _ _ _ _ _ _ _ _ _ _ _ h => absurd h (Nat.not_lt_zero _)
  | succ w ih =>
    intro H1 q x9 m hf m1 hq hx hvz hvc hva hmd hw
    refine h_rng (fun hrg1 => ?_)
    obtain ⟨⟨pb1, pb2, pb3, pb4, pb5⟩, pw1, pw2, pw3, pw4⟩ := (id hP : PW H (H.1 1826 1) (H.1 1826 3) (H.1 1826 8) (H.1 1826 13) (H.1 1826 19))
    obtain ⟨m1, m2⟩ := m1
    have hvct := congrFun hvc t
    refine h_run 2 (pc' := 38) (l' := [(0, .inr (.inr 1826)), (1, .inl (t : Int)), (2, .inl (n : Int)), (3, .inl (q : Int)), (4, .inl (x9 : Int))]) (st' := [.inl (n : Int), .inl (x9 : Int)]) rfl ?_
    refine h_ige (off := 28) (t := 66) rfl rfl (by omega) (by omega) (fun c2 => ?_) (fun c2 => ?_)
    · refine h_run 4 (pc' := 72) (l' := [(0, .inr (.inr 1826)), (1, .inl (t : Int)), (2, .inl (n : Int)), (3, .inl (q : Int)), (4, .inl (x9 : Int))]) (st' := [.inl (t : Int), .inr (.inr 1863), .inl (t : Int), .inr (.inr 1863)]) rfl ?_
      refine h_ild (c := 1863) (j := t) (i := (t : Int)) rfl rfl (by decide) rfl (by omega) ?_
      have g3 : -2147483648 ≤ (H1.1 1863 t) ∧ (H1.1 1863 t) ≤ 2147483647 := hrg1.2 1863 t 6 .int rfl (by omega)
      refine h_run 0 (pc' := 73) (l' := [(0, .inr (.inr 1826)), (1, .inl (t : Int)), (2, .inl (n : Int)), (3, .inl (q : Int)), (4, .inl (x9 : Int))]) (st' := [.inl (H1.1 1863 t), .inl (t : Int), .inr (.inr 1863)]) rfl ?_
      refine h_run 2 (pc' := 75) (l' := [(0, .inr (.inr 1826)), (1, .inl (t : Int)), (2, .inl (n : Int)), (3, .inl (q : Int)), (4, .inl (x9 : Int))]) (st' := [.inl ((H1.1 1863 t) + 1), .inl (t : Int), .inr (.inr 1863)]) rfl ?_
      refine h_ist (c := 1863) (j := t) (i := (t : Int)) (x := ((H1.1 1863 t) + 1)) rfl rfl (by decide) (by decide) rfl (by omega) (by omega) ?_
      refine h_ret rfl rfl ?_
      subst hq
      have qe1 : (H1.1 1826 1) = (H.1 1826 1) := hf.2.2 1 (by decide)
      have hV9 : VS (H1.1 1826 1) (H1.1 1861) (up (H.1 1862) (2001 * t + m) (v.length : Int)) (up (H.1 1863) t ((m : Int) + 1)) (adL Ls t [v]) := by rw [qe1]; exact VS_add hV ht m1 m2 (by omega) (fun x8 h8 => hmk.2 x8 (by omega)) hva (fun x8 h8 => hmd x8 (by omega))
      have ec : up (H1.1 1863) t ((H1.1 1863) t + 1) = up (H.1 1863) t ((m : Int) + 1) := by rw [hvc, m1]
      have ez : (H1.1 1862) = up (H.1 1862) (2001 * t + m) (v.length : Int) := by rw [hvz, show (n : Int) = (v.length : Int) by omega]
      rw [← ec, ← ez] at hV9
      exact ⟨rfl, (fr_a hf (by decide)), hV9⟩
    · refine h_run 10 (pc' := 58) (l' := [(0, .inr (.inr 1826)), (1, .inl (t : Int)), (2, .inl (n : Int)), (3, .inl (q : Int)), (4, .inl (x9 : Int))]) (st' := [.inl (x9 : Int), .inr (.inr 1856), .inl ((7 * (q : Int)) + (x9 : Int)), .inr (.inr 1861)]) rfl ?_
      refine h_ild (c := 1856) (j := x9) (i := (x9 : Int)) rfl rfl (by decide) rfl (by omega) ?_
      have g4 : -2147483648 ≤ (H1.1 1856 x9) ∧ (H1.1 1856 x9) ≤ 2147483647 := hrg1.2 1856 x9 12000 .int rfl (by omega)
      have e5 : (H1.1 1856 x9) = (H.1 1856 x9) := congrFun (hf.2.1 1856 (by decide) (by decide)) x9
      refine h_run 0 (pc' := 59) (l' := [(0, .inr (.inr 1826)), (1, .inl (t : Int)), (2, .inl (n : Int)), (3, .inl (q : Int)), (4, .inl (x9 : Int))]) (st' := [.inl (H1.1 1856 x9), .inl ((7 * (q : Int)) + (x9 : Int)), .inr (.inr 1861)]) rfl ?_
      refine h_ist (c := 1861) (j := ((7 * q) + x9)) (i := ((7 * (q : Int)) + (x9 : Int))) (x := (H1.1 1856 x9)) rfl rfl (by decide) (by decide) (by omega) (by omega) (by omega) ?_
      refine h_run 2 (pc' := 35) (l' := [(0, .inr (.inr 1826)), (1, .inl (t : Int)), (2, .inl (n : Int)), (3, .inl (q : Int)), (4, .inl ((x9 : Int) + 1))]) (st' := []) rfl ?_
      rw [show ((x9 : Int) + 1) = (((x9 + 1) : Nat) : Int) by omega]
      exact ih _ q (x9 + 1) (m) (fr_a hf (by decide)) ⟨m1, by omega⟩ (by omega) (by omega) hvz hvc (fun x8 h8 => (up_ne _ _ (by omega)).trans (hva x8 h8)) (av_up hmd (by omega) (congrFun (hf.2.1 1856 (by decide) (by decide)) _)) (by omega : 1000 - (x9 + 1) < w)
set_option maxRecDepth 100000 in
theorem n_addValue {zC : Nat → Option zsh} {d : Nat} (hd : 2 ≤ d) {H : hp} {Ls : Nat → vls} {v : List Int} {t n : Nat} (hP : PWc H) (ht : (t : Int) < (H.1 1826 1)) (hn : 1 ≤ n ∧ n ≤ 6) (hV : VS (H.1 1826 1) (H.1 1861) (H.1 1862) (H.1 1863) Ls) (hmk : MK (H.1 1856) n v) (hvl : v.length = n) : hG (zs zC) d mt_211 0 (zargs 0 [.inr (.inr 1826), .inl (t : Int), .inl (n : Int)]) [] H (fun r9 H2 => r9 = none ∧ fr [] [1861, 1862, 1863] H H2 ∧ VS (H2.1 1826 1) (H2.1 1861) (H2.1 1862) (H2.1 1863) (adL Ls t [v])) := by
  refine h_rng (fun hrg0 => ?_)
  refine h_run 0 (pc' := 0) (l' := [(0, .inr (.inr 1826)), (1, .inl (t : Int)), (2, .inl (n : Int))]) (st' := []) rfl ?_
  obtain ⟨⟨pb1, pb2, pb3, pb4, pb5⟩, pw1, pw2, pw3, pw4⟩ := (id hP : PW H (H.1 1826 1) (H.1 1826 3) (H.1 1826 8) (H.1 1826 13) (H.1 1826 19))
  obtain ⟨m1, m2, m3⟩ := hV t ht
  obtain ⟨m, hm9⟩ : ∃ m : Nat, (Ls t).length = m := ⟨_, rfl⟩
  rw [hm9] at m1 m2
  refine h_run 3 (pc' := 5) (l' := [(0, .inr (.inr 1826)), (1, .inl (t : Int)), (2, .inl (n : Int))]) (st' := [.inl (t : Int), .inr (.inr 1863)]) rfl ?_
  refine h_ild (c := 1863) (j := t) (i := (t : Int)) rfl rfl (by decide) rfl (by omega) ?_
  have g6 : -2147483648 ≤ (H.1 1863 t) ∧ (H.1 1863 t) ≤ 2147483647 := hrg0.2 1863 t 6 .int rfl (by omega)
  refine h_run 0 (pc' := 6) (l' := [(0, .inr (.inr 1826)), (1, .inl (t : Int)), (2, .inl (n : Int))]) (st' := [.inl (H.1 1863 t)]) rfl ?_
  refine h_run 1 (pc' := 9) (l' := [(0, .inr (.inr 1826)), (1, .inl (t : Int)), (2, .inl (n : Int))]) (st' := [.inl 2001, .inl (H.1 1863 t)]) rfl ?_
  refine h_ige (off := 67) (t := 76) rfl rfl (by omega) (by decide) (fun c7 => ?_) (fun c7 => ?_)
  · refine h_ret rfl rfl ?_
    exact ⟨rfl, (fr_rf _ _ _), VS_full hV ht (by omega)⟩
  · refine h_run 6 (pc' := 22) (l' := [(0, .inr (.inr 1826)), (1, .inl (t : Int)), (2, .inl (n : Int))]) (st' := [.inl (t : Int), .inr (.inr 1863), .inl (2001 * (t : Int))]) rfl ?_
    refine h_ild (c := 1863) (j := t) (i := (t : Int)) rfl rfl (by decide) rfl (by omega) ?_
    refine h_run 0 (pc' := 23) (l' := [(0, .inr (.inr 1826)), (1, .inl (t : Int)), (2, .inl (n : Int))]) (st' := [.inl (H.1 1863 t), .inl (2001 * (t : Int))]) rfl ?_
    refine h_run 6 (pc' := 31) (l' := [(0, .inr (.inr 1826)), (1, .inl (t : Int)), (2, .inl (n : Int)), (3, .inl ((2001 * (t : Int)) + (H.1 1863 t)))]) (st' := [.inl (n : Int), .inl ((2001 * (t : Int)) + (H.1 1863 t)), .inr (.inr 1862)]) rfl ?_
    refine h_ist (c := 1862) (j := (((2001 * (t : Int)) + (H.1 1863 t))).toNat) (i := ((2001 * (t : Int)) + (H.1 1863 t))) (x := (n : Int)) rfl rfl (by decide) (by decide) (by omega) (by omega) (by omega) ?_
    refine h_run 2 (pc' := 35) (l' := [(0, .inr (.inr 1826)), (1, .inl (t : Int)), (2, .inl (n : Int)), (3, .inl ((2001 * (t : Int)) + (H.1 1863 t))), (4, .inl 0)]) (st' := []) rfl ?_
    rw [show ((2001 * (t : Int)) + (H.1 1863 t)) = (((((2001 * (t : Int)) + (H.1 1863 t))).toNat : Nat) : Int) by omega]
    exact (n_addValue_cut hd hP ht hn hV hmk hvl _) _ (((2001 * (t : Int)) + (H.1 1863 t))).toNat 0 (m) (fr_a (fr_rf _ _ _) (by decide)) ⟨m1, by omega⟩ (by omega) (by omega) (by rw [show 2001 * t + m = (2001 * (t : Int) + ((H.1 1863) t)).toNat by omega]; rfl) rfl (fun _ _ => rfl) (fun _ h8 => absurd h8 (Nat.not_lt_zero _)) (Nat.lt_succ_self _)
