/-! lists of values that end at 2001 -/
def gF (T : Nat → vls) (n : Nat) (v : List Int) : vls := if v.length ≤ n then (T (n - v.length)).map (fun w => v ++ w) else []
/-- rows of arguments out of lists -/
def tuR (Lr : Int → vls) (ag : Nat → Int) (a : Nat) : Nat → Nat → vls
  | 0, n => if n = 0 then [[]] else []
  | j + 1, n => fmL (gF (tuR Lr ag a j) n) (Lr (ag (a - (j + 1))))
theorem gF_cg {T T' : Nat → vls} {n : Nat} {v : List Int} (h : v.length ≤ n → T (n - v.length) = T' (n - v.length)) : gF T n v = gF T' n v := by
  unfold gF
  split
  · rw [h (by assumption)]
  · rfl
theorem tuL_fl {W : vtb} {ag : Nat → Int} {a j n N : Nat} (hW : ∀ i t v, v ∈ W i t → v.length = i) (hn : n ≤ N) : tuL W ag a (j + 1) n = fmL (gF (tuL W ag a j) n) (fmN (fun i => W (i + 1) (ag (a - (j + 1)))) N) := by
  obtain ⟨k, rfl⟩ : ∃ k, N = n + k := ⟨N - n, by omega⟩
  rw [fmL_fmN, fmN_cut]
  · refine fmN_cg (fun i hi => fmL_cg (fun v hv => ?_))
    unfold gF
    rw [hW _ _ _ hv, if_pos (by omega)]
  · intro i hi
    refine fmL_emp (fun v hv => ?_)
    unfold gF
    rw [hW _ _ _ hv, if_neg (by omega)]
theorem fmL_one {f : List Int → vls} {v : List Int} : ∀ {l : vls}, v ∈ l → (f v).length ≤ (fmL f l).length
  | [], h => absurd h List.not_mem_nil
  | w :: l, h => by
    show (f v).length ≤ (f w ++ fmL f l).length
    rw [List.length_append]
    rcases List.mem_cons.mp h with h | h
    · subst h; omega
    · have := fmL_one (f := f) h
      omega
theorem gF_len {T : Nat → vls} {n : Nat} {v : List Int} (h : v.length ≤ n) : (gF T n v).length = (T (n - v.length)).length := by
  unfold gF
  rw [if_pos h, List.length_map]
/-- the same, or alike for so long that nothing else counts -/
def PRx (A' A : vls) (b : Nat) : Prop := A' = A ∨ ∃ p s' s : vls, A' = p ++ s' ∧ A = p ++ s ∧ 2001 ≤ b + p.length
theorem PRx_mono {A' A : vls} {b c : Nat} (h : PRx A' A b) (hb : b ≤ c) : PRx A' A c := by
  rcases h with h | ⟨p, s', s, h1, h2, h3⟩
  · exact Or.inl h
  · exact Or.inr ⟨p, s', s, h1, h2, by omega⟩
theorem PRx_map {A' A : vls} {b : Nat} (f : List Int → List Int) (h : PRx A' A b) : PRx (A'.map f) (A.map f) b := by
  rcases h with h | ⟨p, s', s, h1, h2, h3⟩
  · exact Or.inl (by rw [h])
  · exact Or.inr ⟨p.map f, s'.map f, s.map f, by rw [h1, List.map_append], by rw [h2, List.map_append], by rw [List.length_map]; exact h3⟩
theorem PRx_pre {A' A : vls} {b : Nat} (x : vls) (h : PRx A' A b) : PRx (x ++ A') (x ++ A) b := by
  rcases h with h | ⟨p, s', s, h1, h2, h3⟩
  · exact Or.inl (by rw [h])
  · exact Or.inr ⟨x ++ p, s', s, by rw [h1, List.append_assoc], by rw [h2, List.append_assoc], by rw [List.length_append]; omega⟩
theorem tk_le {A B : vls} (h : 2001 ≤ A.length) : (A ++ B).take 2001 = A.take 2001 := List.take_append_of_le_length h
theorem PRx_take {A' A B : vls} {b : Nat} (h : PRx A' A b) (hb : b ≤ B.length) : (B ++ A').take 2001 = (B ++ A).take 2001 := by
  rcases h with h | ⟨p, s', s, h1, h2, h3⟩
  · rw [h]
  · rw [h1, h2, ← List.append_assoc, ← List.append_assoc, tk_le (A := B ++ p) (by rw [List.length_append]; omega), tk_le (A := B ++ p) (by rw [List.length_append]; omega)]
theorem PRx_gF {T' T : Nat → vls} {n b : Nat} {v : List Int} (h : v.length ≤ n → PRx (T' (n - v.length)) (T (n - v.length)) b) : PRx (gF T' n v) (gF T n v) b := by
  unfold gF
  split
  · exact PRx_map _ (h (by assumption))
  · exact Or.inl rfl
theorem PRx_fmL {T' T : Nat → vls} {n b : Nat} : ∀ {A : vls}, (∀ v, v ∈ A → v.length ≤ n → PRx (T' (n - v.length)) (T (n - v.length)) b) → PRx (fmL (gF T' n) A) (fmL (gF T n) A) b
  | [], _ => Or.inl rfl
  | v :: A, h => by
    have h2 := PRx_fmL (A := A) (fun w hw => h w (List.mem_cons_of_mem _ hw))
    show PRx (gF T' n v ++ fmL (gF T' n) A) (gF T n v ++ fmL (gF T n) A) b
    rcases PRx_gF (h v (List.mem_cons_self ..)) with e | ⟨p, s', s, h1, h3, h4⟩
    · rw [e]
      exact PRx_pre _ h2
    · exact Or.inr ⟨p, s' ++ fmL (gF T' n) A, s ++ fmL (gF T n) A, by rw [h1, List.append_assoc], by rw [h3, List.append_assoc], h4⟩
theorem cnt9 {T : Nat → vls} {n s : Nat} (hs : 1 ≤ (T s).length) : ∀ {A : vls}, (∀ v, v ∈ A → v.length + s ≤ n) → A.length ≤ sumN (fun m => (fmL (gF T m) A).length) (n + 1)
  | [], _ => Nat.zero_le _
  | v :: A, h => by
    have h2 := cnt9 hs (A := A) (fun w hw => h w (List.mem_cons_of_mem _ hw))
    have h3 := h v (List.mem_cons_self ..)
    have e : sumN (fun m => (fmL (gF T m) (v :: A)).length) (n + 1) = sumN (fun m => (gF T m v).length) (n + 1) + sumN (fun m => (fmL (gF T m) A).length) (n + 1) := by
      rw [← sumN_add]
      exact sumN_cg (fun m _ => List.length_append)
    have h4 := sumN_ge (f := fun m => (gF T m v).length) (n := n + 1) (i := v.length + s) (by omega)
    have h5 : (gF T (v.length + s) v).length = (T s).length := by
      rw [gF_len (by omega), Nat.add_sub_cancel_left]
    have h4 : (gF T (v.length + s) v).length ≤ _ := h4
    rw [e, List.length_cons]
    omega
theorem pw_all {R : List Int → List Int → Prop} : ∀ {l : vls}, (∀ v, v ∈ l → ∀ w, w ∈ l → R v w) → List.Pairwise R l
  | [], _ => List.Pairwise.nil
  | v :: l, h => List.Pairwise.cons (fun w hw => h v (List.mem_cons_self ..) w (List.mem_cons_of_mem _ hw)) (pw_all (fun a ha b hb => h a (List.mem_cons_of_mem _ ha) b (List.mem_cons_of_mem _ hb)))
theorem fmN_pw {W : vtb} {u : Int} (hW : ∀ i t v, v ∈ W i t → v.length = i) : ∀ N : Nat, List.Pairwise (fun v w : List Int => v.length ≤ w.length) (fmN (fun i => W (i + 1) u) N)
  | 0 => List.Pairwise.nil
  | N + 1 => by
    refine List.pairwise_append.mpr ⟨fmN_pw hW N, ?_, fun v hv w hw => ?_⟩
    · refine pw_all (fun v hv w hw => ?_)
      rw [hW _ _ _ hv, hW _ _ _ hw]
      exact Nat.le_refl _
    · obtain ⟨i, hi, hv⟩ := fmN_mem hv
      rw [hW _ _ _ hv, hW _ _ _ hw]
      omega
theorem fmL_ne {f : List Int → vls} : ∀ {l : vls}, fmL f l ≠ [] → ∃ v, v ∈ l ∧ f v ≠ []
  | [], h => absurd rfl h
  | v :: l, h => by
    by_cases e : f v = []
    · have h : f v ++ fmL f l ≠ [] := h
      rw [e, List.nil_append] at h
      obtain ⟨w, h1, h2⟩ := fmL_ne h
      exact ⟨w, List.mem_cons_of_mem _ h1, h2⟩
    · exact ⟨v, List.mem_cons_self .., e⟩
theorem tuR_ok {W : vtb} {Lr : Int → vls} {ag : Nat → Int} {a N : Nat} (hW : ∀ i t v, v ∈ W i t → v.length = i) (hL : ∀ k, k < a → Lr (ag k) = (fmN (fun i => W (i + 1) (ag k)) N).take 2001) : ∀ {j n : Nat}, j ≤ a → n ≤ N → PRx (tuR Lr ag a j n) (tuL W ag a j n) (sumN (fun m => (tuL W ag a j m).length) n)
  | 0, _, _, _ => Or.inl rfl
  | j + 1, n, hj, hn => by
    have ih := fun {m : Nat} (h : m ≤ N) => tuR_ok (ag := ag) (a := a) hW hL (j := j) (by omega) h
    have e0 : tuR Lr ag a (j + 1) n = fmL (gF (tuR Lr ag a j) n) ((fmN (fun i => W (i + 1) (ag (a - (j + 1)))) N).take 2001) := by
      rw [← hL _ (by omega)]
      rfl
    have e1 := fun {m : Nat} (h : m ≤ N) => tuL_fl (ag := ag) (a := a) (j := j) hW h
    have hS := fmN_pw hW (u := ag (a - (j + 1))) N
    rw [e0]
    generalize hU : fmN (fun i => W (i + 1) (ag (a - (j + 1)))) N = U at e1 hS ⊢
    generalize hb : sumN (fun m => (tuL W ag a (j + 1) m).length) n = b
    have hA : ∀ v, v ∈ U → v.length ≤ n → sumN (fun m => (tuL W ag a j m).length) (n - v.length) ≤ b := by
      intro v hv hl
      have h1 : sumN (fun m => (tuL W ag a j m).length) (n - v.length) ≤ sumN (fun m => (tuL W ag a (j + 1) (m + v.length)).length) (n - v.length) := by
        refine sumN_le (fun i hi => ?_)
        rw [e1 (by omega)]
        refine Nat.le_trans ?_ (fmL_one (f := gF (tuL W ag a j) (i + v.length)) hv)
        rw [gF_len (by omega), Nat.add_sub_cancel]
        exact Nat.le_refl _
      have h2 := sumN_sh (f := fun m => (tuL W ag a (j + 1) m).length) (d := v.length) (n := n - v.length)
      rw [Nat.sub_add_cancel hl, hb] at h2
      exact Nat.le_trans h1 h2
    have hB : PRx (fmL (gF (tuR Lr ag a j) n) (U.take 2001)) (fmL (gF (tuL W ag a j) n) (U.take 2001)) b := PRx_fmL (fun v hv hl => PRx_mono (ih (by omega)) (hA v (List.mem_of_mem_take hv) hl))
    have hC : ∃ x, tuL W ag a (j + 1) n = fmL (gF (tuL W ag a j) n) (U.take 2001) ++ x ∧ (x = [] ∨ 2001 ≤ b + (fmL (gF (tuL W ag a j) n) (U.take 2001)).length) := by
      refine ⟨fmL (gF (tuL W ag a j) n) (U.drop 2001), ?_, ?_⟩
      · rw [← fmL_app, List.take_append_drop]
        exact e1 hn
      · by_cases e : fmL (gF (tuL W ag a j) n) (U.drop 2001) = []
        · exact Or.inl e
        · right
          obtain ⟨v0, m0, m1⟩ := fmL_ne e
          have hl0 : v0.length ≤ n := by
            refine Decidable.byContradiction (fun q => m1 ?_)
            unfold gF
            rw [if_neg q]
          have hs : 1 ≤ (tuL W ag a j (n - v0.length)).length := by
            refine Decidable.byContradiction (fun q => m1 ?_)
            have q2 : tuL W ag a j (n - v0.length) = [] := List.eq_nil_of_length_eq_zero (by omega)
            unfold gF
            rw [if_pos hl0, q2]
            rfl
          have hlen : (U.take 2001).length = 2001 := by
            have h1 : 0 < (U.drop 2001).length := List.length_pos_of_mem m0
            rw [List.length_drop] at h1
            rw [List.length_take]
            omega
          have hsort : ∀ v, v ∈ U.take 2001 → v.length + (n - v0.length) ≤ n := by
            intro v hv
            rw [← List.take_append_drop 2001 U] at hS
            have := (List.pairwise_append.mp hS).2.2 v hv v0 m0
            omega
          have h3 := cnt9 hs hsort
          rw [hlen] at h3
          have h4 : sumN (fun m => (fmL (gF (tuL W ag a j) m) (U.take 2001)).length) n ≤ b := by
            rw [← hb]
            refine sumN_le (fun i hi => ?_)
            rw [e1 (by omega)]
            rw [show fmL (gF (tuL W ag a j) i) U = fmL (gF (tuL W ag a j) i) (U.take 2001) ++ fmL (gF (tuL W ag a j) i) (U.drop 2001) by rw [← fmL_app, List.take_append_drop], List.length_append]
            omega
          have h3 : 2001 ≤ sumN (fun m => (fmL (gF (tuL W ag a j) m) (U.take 2001)).length) n + (fmL (gF (tuL W ag a j) n) (U.take 2001)).length := h3
          omega
    obtain ⟨x, x1, x2⟩ := hC
    rw [x1]
    rcases hB with hB | ⟨p, s', s, p1, p2, p3⟩
    · rw [hB]
      rcases x2 with x2 | x2
      · exact Or.inl (by rw [x2, List.append_nil])
      · exact Or.inr ⟨_, [], x, (List.append_nil _).symm, rfl, x2⟩
    · exact Or.inr ⟨p, s', s ++ x, p1, by rw [p2, List.append_assoc], p3⟩
theorem tuR_few {Lr : Int → vls} {ag : Nat → Int} {a : Nat} (h : ∀ u v, v ∈ Lr u → 1 ≤ v.length) : ∀ {j m : Nat}, m < j → tuR Lr ag a j m = []
  | 0, m, hm => absurd hm (Nat.not_lt_zero _)
  | j + 1, m, hm => by
    refine fmL_emp (fun v hv => ?_)
    have h1 := h _ _ hv
    unfold gF
    split
    · rw [tuR_few h (by omega)]
      rfl
    · rfl
/-- lists that end -/
theorem tk_tk : ∀ (m : Nat) (A B : vls), (A.take m ++ B).take m = (A ++ B).take m
  | 0, _, _ => rfl
  | _ + 1, [], _ => rfl
  | m + 1, x :: A, B => by
    show x :: (A.take m ++ B).take m = x :: (A ++ B).take m
    rw [tk_tk m A B]
theorem vL_pw {X : rx} {al : Bool} {t : Int} (n : Nat) : List.Pairwise (fun v w : List Int => v.length ≤ w.length) (vL X al t n) := fmN_pw (W := vv X al) (u := t) (fun _ _ _ h => vv_ln h) n
/-- a constructor's values: its lists may end -/
theorem add_con {X : rx} {al : Bool} {Lr : Int → vls} {n c : Nat} {t : Int} {B : vls} (hL : ∀ k, k < aQ9 X c → Lr (agC X c k) = (vL X al (agC X c k) n).take 2001) (ht : X 3 c = t) (hc : c < nC9 X) (hB : (vL X al t n).length ≤ B.length) : (B ++ (tuR Lr (agC X c) (aQ9 X c) (aQ9 X c) n).map (fun w => (1 + (c : Int)) :: w)).take 2001 = (B ++ vcL (vv X al) X t (n + 1) c).take 2001 := by
  have h1 := tuR_ok (W := vv X al) (ag := agC X c) (a := aQ9 X c) (fun _ _ _ h => vv_ln h) hL (j := aQ9 X c) (n := n) (Nat.le_refl _) (Nat.le_refl _)
  have h2 : vcL (vv X al) X t (n + 1) c = (tuL (vv X al) (agC X c) (aQ9 X c) (aQ9 X c) n).map (fun w => (1 + (c : Int)) :: w) := by
    unfold vcL tuC
    rw [if_pos ht]
    rfl
  rw [h2]
  refine PRx_take (PRx_map _ h1) (Nat.le_trans ?_ hB)
  unfold vL
  rw [fmN_len]
  refine sumN_le (fun i _ => ?_)
  rw [vv_sz]
  have h3 := sumN_ge (f := fun c => if X 3 c = t then (tuC (vv X al) X c 0 i).length else 0) hc
  have h3 : (if X 3 c = t then (tuC (vv X al) X c 0 i).length else 0) ≤ _ := h3
  rw [if_pos ht] at h3
  have h4 : tuC (vv X al) X c 0 i = tuL (vv X al) (agC X c) (aQ9 X c) (aQ9 X c) i := rfl
  rw [h4] at h3
  omega
theorem tuR_ag {Lr : Int → vls} {ag ag' : Nat → Int} {a : Nat} (h : ∀ k, k < a → ag k = ag' k) : ∀ {j n : Nat}, j ≤ a → tuR Lr ag a j n = tuR Lr ag' a j n
  | 0, _, _ => rfl
  | j + 1, n, hj => by
    show fmL (gF (tuR Lr ag a j) n) (Lr (ag (a - (j + 1)))) = fmL (gF (tuR Lr ag' a j) n) (Lr (ag' (a - (j + 1))))
    rw [h _ (by omega)]
    exact fmL_cg (fun v _ => gF_cg (fun _ => tuR_ag h (by omega)))
theorem tuR_few2 {Lr : Int → vls} {ag : Nat → Int} {a : Nat} (h : ∀ k, k < a → ∀ v, v ∈ Lr (ag k) → 1 ≤ v.length) : ∀ {j m : Nat}, j ≤ a → m < j → tuR Lr ag a j m = []
  | 0, m, _, hm => absurd hm (Nat.not_lt_zero _)
  | j + 1, m, hj, hm => by
    refine fmL_emp (fun v hv => ?_)
    have h1 := h _ (by omega) _ hv
    unfold gF
    split
    · rw [tuR_few2 h (by omega) (by omega)]
      rfl
    · rfl
