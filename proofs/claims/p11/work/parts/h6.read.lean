/-! the reference's reading against the machine: patterns -/
theorem rch_eq {Y : yx} {c0 a b : cf} (h : rch Y c0 a) (e : a = b) : rch Y c0 b := by
  rw [← e]
  exact h
def VP (H : hp) (X : rx) (fz : Int) : Prop := ((H.1 1826 40) = X 0 2 ∧ 0 ≤ X 0 2 ∧ X 0 8 = 0 ∧ (H.1 1826 39) = X 0 1 ∧ 0 ≤ X 0 1) ∧ (∀ v : Nat, (v : Int) < X 0 1 → (H.1 1849) v = X 10 v ∧ (H.1 1850) v = X 11 v) ∧ (1 ≤ X 0 2 ∧ (H.1 1826 43) + 1 = X 0 2 ∧ X 13 0 = fz) ∧ ∀ k : Nat, (k : Int) + 1 < X 0 2 → (H.1 1851) k = X 13 (k + 1)
theorem rd_put {H K : hp} {X X1 : rx} {s fz : Int} (h : (1 ≤ X 0 2 ∧ (H.1 1826 43) + 1 = X 0 2 ∧ X 13 0 = fz) ∧ ∀ k : Nat, (k : Int) + 1 < X 0 2 → (H.1 1851) k = X 13 (k + 1)) (e2 : X1 0 2 = X 0 2) (e13 : X1 13 = X 13) (er : (K.1 1826 43) = (H.1 1826 43) + 1) (ed : (K.1 1851) = up (H.1 1851) ((H.1 1826 43)).toNat s) : (1 ≤ xput X1 s 0 2 ∧ (K.1 1826 43) + 1 = xput X1 s 0 2 ∧ xput X1 s 13 0 = fz) ∧ ∀ k : Nat, (k : Int) + 1 < xput X1 s 0 2 → (K.1 1851) k = xput X1 s 13 (k + 1) := by
  obtain ⟨-, -, x2, -, -, -, x13⟩ := xpt_s X1 s
  obtain ⟨⟨a, b, c⟩, d⟩ := h
  rw [x2, x13, ed, e2, e13]
  refine ⟨⟨by omega, by omega, by rw [up_ne _ _ (by omega)]; exact c⟩, fun k hk => ?_⟩
  by_cases e : k + 1 = (X 0 2).toNat
  · rw [e, up_eq, show k = ((H.1 1826 43)).toNat by omega, up_eq]
  · rw [up_ne _ _ e, up_ne _ _ (by omega)]
    exact d k (by omega)
theorem VP_put {H K : hp} {X : rx} {s fz : Int} (h : VP H X fz) (e1 : (K.1 1826 40) = (H.1 1826 40) + 1) (ev : (K.1 1826 39) = (H.1 1826 39)) (e3 : (K.1 1849) = (H.1 1849)) (e4 : (K.1 1850) = (H.1 1850)) (er : (K.1 1826 43) = (H.1 1826 43) + 1) (ed : (K.1 1851) = up (H.1 1851) ((H.1 1826 43)).toNat s) : VP K (xput X s) fz := by
  obtain ⟨-, x1, x2, x8, x10, x11, -⟩ := xpt_s X s
  obtain ⟨⟨a1, a2, a3, a4, a5⟩, b, c⟩ := h
  refine ⟨⟨by omega, by omega, by omega, by omega, by omega⟩, ?_, rd_put c rfl rfl er ed⟩
  rw [x1, x10, x11, e3, e4]
  exact b
theorem VP_var {H K : hp} {X : rx} {x t s fz : Int} (h : VP H X fz) (e1 : (K.1 1826 40) = (H.1 1826 40) + 1) (ev : (K.1 1826 39) = (H.1 1826 39) + 1) (e3 : (K.1 1849) = up (H.1 1849) ((H.1 1826 39)).toNat x) (e4 : (K.1 1850) = up (H.1 1850) ((H.1 1826 39)).toNat t) (er : (K.1 1826 43) = (H.1 1826 43) + 1) (ed : (K.1 1851) = up (H.1 1851) ((H.1 1826 43)).toNat s) : VP K (xput (xvar X x t) s) fz := by
  obtain ⟨-, x1, x2, x8, x10, x11, -⟩ := xpt_s (xvar X x t) s
  obtain ⟨-, y1, y2, y8, y10, y11, y13⟩ := xvr_s X x t
  obtain ⟨⟨a1, a2, a3, a4, a5⟩, b, c⟩ := h
  refine ⟨⟨by omega, by omega, by omega, by omega, by omega⟩, fun v hv => ?_, rd_put c y2 y13 er ed⟩
  rw [x10, x11, y10, y11, e3, e4, a4]
  by_cases e : v = (X 0 1).toNat
  · rw [e, up_eq, up_eq, up_eq, up_eq]
    exact ⟨rfl, rfl⟩
  · rw [up_ne _ _ e, up_ne _ _ e, up_ne _ _ e, up_ne _ _ e]
    exact b v (by omega)
theorem VP_adv {H K : hp} {X : rx} {fz : Int} (h : VP H X fz) (e1 : (K.1 1826 40) = (H.1 1826 40)) (ev : (K.1 1826 39) = (H.1 1826 39)) (e3 : (K.1 1849) = (H.1 1849)) (e4 : (K.1 1850) = (H.1 1850)) (er : (K.1 1826 43) = (H.1 1826 43)) (ed : (K.1 1851) = (H.1 1851)) : VP K (adv X) fz := by
  obtain ⟨x1, x2, x8, x10, x11, x13⟩ := adv_s X
  unfold VP
  rw [x1, x2, x8, x10, x11, x13, e1, ev, e3, e4, er, ed]
  exact h
theorem VP_eq {H K : hp} {X : rx} {fz : Int} (h : VP H X fz) (e1 : (K.1 1826 40) = (H.1 1826 40)) (ev : (K.1 1826 39) = (H.1 1826 39)) (e3 : (K.1 1849) = (H.1 1849)) (e4 : (K.1 1850) = (H.1 1850)) (er : (K.1 1826 43) = (H.1 1826 43)) (ed : (K.1 1851) = (H.1 1851)) : VP K X fz := by
  unfold VP
  rw [e1, ev, e3, e4, er, ed]
  exact h
theorem VP_vf {Y : yx} {m : Int} {H : hp} {X : rx} {fz : Int} (h : RK Y m H X) (hv : VP H X fz) (ht : (H.1 1826 31) = 1 ∨ (H.1 1826 31) = 2) : fnd (H.1 1849) (H.1 1826 39) (H.1 1826 33) = fnd (X 10) (X 0 1) (tn Y (xi X)) := by
  obtain ⟨⟨a1, a2, a3, a4, a5⟩, b, -⟩ := hv
  rw [RK_n h ht, a4]
  exact fnd_cg (fun k hk => (b k hk).1)
def spk (ou no : Nat → Int) : Nat → List tq
  | 0 => []
  | n + 1 => (5, ou n, no n, (n : Int)) :: ((if n = 0 then [] else [(1, 41, 0, 0)]) ++ spk ou no n)
theorem spk_cg {ou no ou' no' : Nat → Int} : ∀ {n : Nat}, (∀ i, i < n → ou' i = ou i ∧ no' i = no i) → spk ou' no' n = spk ou no n
  | 0, _ => rfl
  | n + 1, h => by
    obtain ⟨h1, h2⟩ := h n (by omega)
    unfold spk
    rw [spk_cg (fun i hi => h i (by omega)), h1, h2]
theorem spk_ok {ou no : Nat → Int} : ∀ {n : Nat}, ∀ t ∈ spk ou no n, t.1 ≠ 0 ∧ (t.1 = 1 → t.2.1 ≠ 1)
  | 0, t, h => absurd h List.not_mem_nil
  | n + 1, t, h => by
    unfold spk at h
    rcases List.mem_cons.mp h with rfl | h
    · exact ⟨(by decide : (5 : Nat) ≠ 0), fun q => absurd q (by decide : (5 : Nat) ≠ 1)⟩
    · rcases List.mem_append.mp h with h | h
      · split at h
        · exact absurd h List.not_mem_nil
        · simp only [List.mem_cons, List.not_mem_nil, or_false] at h
          subst h
          exact ⟨by decide, fun _ => (by decide : (41 : Int) ≠ 1)⟩
      · exact spk_ok t h
def SP (H : hp) : List tq := spk (H.1 1852) (H.1 1853) ((H.1 1826 47)).toNat
theorem spk_top {ou no : Nat → Int} {n : Nat} (h : 1 ≤ n) : spk ou no n = (5, ou (n - 1), no (n - 1), ((n - 1 : Nat) : Int)) :: ((if n - 1 = 0 then [] else [(1, 41, 0, 0)]) ++ spk ou no (n - 1)) := by
  obtain ⟨k, rfl⟩ : ∃ k, n = k + 1 := ⟨n - 1, by omega⟩
  rfl
theorem spk_inc {ou no : Nat → Int} {n : Nat} {z : Int} (h : 1 ≤ n) : spk ou (up no (n - 1) z) n = (5, ou (n - 1), z, ((n - 1 : Nat) : Int)) :: ((if n - 1 = 0 then [] else [(1, 41, 0, 0)]) ++ spk ou no (n - 1)) := by
  rw [spk_top h, up_eq, spk_cg (ou := ou) (no := no) (fun i hi => ⟨rfl, up_ne _ _ (by omega)⟩)]
theorem spk_push {ou no : Nat → Int} {n : Nat} {s : Int} (h : 1 ≤ n) : spk (up ou n s) (up no n 0) (n + 1) = (5, s, 0, (n : Int)) :: (1, 41, 0, 0) :: spk ou no n := by
  show (5, up ou n s n, up no n 0 n, (n : Int)) :: ((if n = 0 then [] else [(1, 41, 0, 0)]) ++ spk (up ou n s) (up no n 0) n) = _
  rw [up_eq, up_eq, if_neg (by omega), spk_cg (ou := ou) (no := no) (fun i hi => ⟨up_ne _ _ (by omega), up_ne _ _ (by omega)⟩)]
  rfl
theorem SP_of {H : hp} {ou no : Nat → Int} {n : Nat} (h1 : (H.1 1826 47) = n) (h2 : (H.1 1852) = ou) (h3 : (H.1 1853) = no) : SP H = spk ou no n := by
  unfold SP
  rw [h1, h2, h3]
  rfl
theorem SP_one {H : hp} {s : Int} (h1 : (H.1 1826 47) = 1) (h2 : (H.1 1852) 0 = s) (h3 : (H.1 1853) 0 = 0) : SP H = [(5, s, 0, 0)] := by
  unfold SP
  rw [h1]
  show [(5, (H.1 1852) 0, (H.1 1853) 0, ((0 : Nat) : Int))] = _
  rw [h2, h3]
  rfl
/-- patterns are being read -/
def PG (Y : yx) (m : Int) (c0 : cf) (K : List tq) (H : hp) (fz : Int) : Prop := ∃ X : rx, rch Y c0 (SP H ++ K, X) ∧ RK Y m H X ∧ VP H X fz

/-! patternCon -/
set_option maxRecDepth 100000 in
theorem n_patCon0 {zC : Nat → Option zsh} {d : Nat} (hd : 5 ≤ d) {H : hp} {t dd fz : Int} {Y : yx} {m : Int} {c0 : cf} {K : List tq} {X : rx} (h0 : 0 ≤ (H.1 1826 30) ∧ (H.1 1826 30) ≤ (H.1 1826 29) ∧ (H.1 1826 29) ≤ 1000) (hw : 0 ≤ (H.1 1826 35) ∧ (H.1 1826 35) ≤ 5) (hst : 0 ≤ (H.1 1826 32) ∧ (H.1 1826 32) ≤ 1000) (hP : PWc H) (hn : 1 ≤ (H.1 1826 47) ∧ (H.1 1826 47) ≤ 63) (hnm : 0 ≤ (H.1 1826 40) ∧ (H.1 1826 40) ≤ 999) (hr : 0 ≤ (H.1 1826 43) ∧ (H.1 1826 43) ≤ 46) (ho : 0 ≤ (H.1 1853) ((H.1 1826 47) - 1).toNat ∧ (H.1 1853) ((H.1 1826 47) - 1).toNat ≤ 1000) (ht : -2147483648 ≤ t ∧ t ≤ 2147483647) (hw0 : (H.1 1826 35) = 0) (hn40 : (H.1 1826 40) ≤ 40) (htt : (H.1 1826 31) = 2) (hR : RK Y m H X) (hV : VP H X fz) (hq : rch Y c0 (stPcon Y t dd 0 (cfd Y X) K X)) (hK : lkK K) : hG (zs zC) d mt_179 0 (zargs 0 [.inr (.inr 1826), .inl t, .inl 0]) [] H (fun r H2 => r = none ∧ GB Y m c0 H2 (∃ c : Nat, ((c : Int) < (H.1 1826 3) ∧ (c : Int) = cfd Y X ∧ (H.1 1830) c ≤ 0) ∧ ((H2.1 1826 47) = (H.1 1826 47) ∧ (H2.1 1852) = (H.1 1852) ∧ (H2.1 1853) = up (H.1 1853) ((H.1 1826 47) - 1).toNat ((H.1 1853) ((H.1 1826 47) - 1).toNat + 1)) ∧ rch Y c0 ((5, 1 + (c : Int), 0, dd) :: K, xput X (1 + (c : Int))) ∧ RK Y m H2 (xput X (1 + (c : Int))) ∧ VP H2 (xput X (1 + (c : Int))) fz) ∧ fr [30, 31, 32, 33, 35, 36, 40, 43, 47] [1851, 1852, 1853] H H2 ∧ ((H.1 1826 30) ≤ (H2.1 1826 30) ∧ (H2.1 1826 30) ≤ (H.1 1826 29)) ∧ (0 ≤ (H2.1 1826 35) ∧ (H2.1 1826 35) ≤ 5) ∧ ((H.1 1826 35) ≠ 0 → (H2.1 1826 35) ≠ 0) ∧ (0 ≤ (H2.1 1826 32) ∧ (H2.1 1826 32) ≤ 1000) ∧ (0 ≤ (H2.1 1826 40) ∧ (H2.1 1826 40) ≤ (H.1 1826 40) + 1) ∧ ((H2.1 1826 35) = 0 → (H2.1 1826 31) = 0 ∨ (H.1 1826 30) < (H2.1 1826 30)) ∧ hid ((H2.1 1826 35) = 0 → ∃ c : Nat, (c : Int) < (H.1 1826 3) ∧ (H.1 1830) c ≤ 0 ∧ (H.1 1826 40) ≠ 40 ∧ ((H2.1 1826 40) = (H.1 1826 40) + 1 ∧ (H2.1 1826 43) = (H.1 1826 43) + 1 ∧ (H2.1 1826 47) = (H.1 1826 47)) ∧ (H2.1 1851) = up (H.1 1851) ((H.1 1826 43)).toNat (1 + (c : Int)) ∧ (H2.1 1852) = (H.1 1852) ∧ (H2.1 1853) = up (H.1 1853) ((H.1 1826 47) - 1).toNat ((H.1 1853) ((H.1 1826 47) - 1).toNat + 1))) := by
  refine h_rng (fun hrg0 => ?_)
  refine h_run 0 (pc' := 0) (l' := [(0, .inr (.inr 1826)), (1, .inl t), (2, .inl 0)]) (st' := []) rfl ?_
  obtain ⟨⟨pb1, pb2, pb3, pb4, pb5⟩, pw1, pw2, pw3, pw4⟩ := (id hP : PW H (H.1 1826 1) (H.1 1826 3) (H.1 1826 8) (H.1 1826 13) (H.1 1826 19))
  have hcn4 := hR.2.2.2.2.2.1.1
  have hv1 := hV.1
  refine h_run 1 (pc' := 1) (l' := [(0, .inr (.inr 1826)), (1, .inl t), (2, .inl 0)]) (st' := [.inr (.inr 1826)]) rfl ?_
  have g1 : -2147483648 ≤ (H.1 1826 35) ∧ (H.1 1826 35) ≤ 2147483647 := hrg0.1 1826 13 35 _ .int rfl rfl
  refine h_cv (i := 293) (j := 158) (b := 1826) (M' := mt_158) (xs := []) (rest := []) rfl rfl rfl rfl rfl rfl (Nat.le_of_ble_eq_true rfl) (Nat.le_of_ble_eq_true rfl) (by omega) (m_good1 (by omega) (by omega : (H.1 1826 35) = 0)) ?_
  rintro _ _ ⟨rfl, rfl⟩
  refine h_run 0 (pc' := 4) (l' := [(0, .inr (.inr 1826)), (1, .inl t), (2, .inl 0)]) (st' := [.inl 1]) rfl ?_
  refine h_zeq (off := 21) (t := 25) rfl rfl (by decide) (fun c => absurd c (by decide)) (fun _ => ?_)
  refine h_run 4 (pc' := 15) (l' := [(0, .inr (.inr 1826)), (1, .inl t), (2, .inl 0)]) (st' := [.inl (H.1 1826 3), .inr (.inr 1828)]) rfl ?_
  have g2 : -2147483648 ≤ (H.1 1826 3) ∧ (H.1 1826 3) ≤ 2147483647 := hrg0.1 1826 13 3 _ .int rfl rfl
  refine h_run 2 (pc' := 19) (l' := [(0, .inr (.inr 1826)), (1, .inl t), (2, .inl 0)]) (st' := [.inr (.inl (H.1 1826 33)), .inl (H.1 1826 3), .inr (.inr 1828)]) rfl ?_
  have g3 : -9223372036854775808 ≤ (H.1 1826 33) ∧ (H.1 1826 33) ≤ 9223372036854775807 := hrg0.1 1826 13 33 _ .long rfl rfl
  refine h_cs (i := 309) (j := 167) (M' := mt_167) (xs := [.inr (.inl (H.1 1826 33)), .inl (H.1 1826 3), .inr (.inr 1828)]) (rest := []) rfl rfl rfl rfl rfl (Nat.le_of_ble_eq_true rfl) (Nat.le_of_ble_eq_true rfl) (by omega) (n_find (by omega) (m := 16) (z := cfd Y X) rfl (by omega : 0 ≤ (H.1 1826 3) ∧ (H.1 1826 3) ≤ ((16 : Nat) : Int) ∧ 16 ≤ 100) (by omega) (RK_cf hR (Or.inr (by omega)))) ?_
  rintro _ _ ⟨⟨k4, rfl, f5, f5x⟩ | ⟨rfl, f5⟩, rfl⟩
  · refine h_run 0 (pc' := 22) (l' := [(0, .inr (.inr 1826)), (1, .inl t), (2, .inl 0)]) (st' := [.inl (k4 : Int)]) rfl ?_
    refine h_run 3 (pc' := 28) (l' := [(0, .inr (.inr 1826)), (1, .inl t), (2, .inl 0), (3, .inl (k4 : Int))]) (st' := [.inr (.inr 1826)]) rfl ?_
    refine h_cv (i := 293) (j := 158) (b := 1826) (M' := mt_158) (xs := []) (rest := []) rfl rfl rfl rfl rfl rfl (Nat.le_of_ble_eq_true rfl) (Nat.le_of_ble_eq_true rfl) (by omega) (m_good1 (by omega) (by omega : (H.1 1826 35) = 0)) ?_
    rintro _ _ ⟨rfl, rfl⟩
    refine h_run 0 (pc' := 31) (l' := [(0, .inr (.inr 1826)), (1, .inl t), (2, .inl 0), (3, .inl (k4 : Int))]) (st' := [.inl 1]) rfl ?_
    refine h_zeq (off := 13) (t := 44) rfl rfl (by decide) (fun c => absurd c (by decide)) (fun _ => ?_)
    refine h_run 2 (pc' := 36) (l' := [(0, .inr (.inr 1826)), (1, .inl t), (2, .inl 0), (3, .inl (k4 : Int))]) (st' := [.inl (-1), .inl (k4 : Int)]) rfl ?_
    refine h_ine (off := 8) (t := 44) rfl rfl (by omega) (by decide) (fun c6 => ?_) (fun c6 => ?_)
    · refine h_run 1 (pc' := 45) (l' := [(0, .inr (.inr 1826)), (1, .inl t), (2, .inl 0), (3, .inl (k4 : Int))]) (st' := [.inr (.inr 1826)]) rfl ?_
      refine h_cv (i := 293) (j := 158) (b := 1826) (M' := mt_158) (xs := []) (rest := []) rfl rfl rfl rfl rfl rfl (Nat.le_of_ble_eq_true rfl) (Nat.le_of_ble_eq_true rfl) (by omega) (m_good1 (by omega) (by omega : (H.1 1826 35) = 0)) ?_
      rintro _ _ ⟨rfl, rfl⟩
      refine h_run 0 (pc' := 48) (l' := [(0, .inr (.inr 1826)), (1, .inl t), (2, .inl 0), (3, .inl (k4 : Int))]) (st' := [.inl 1]) rfl ?_
      refine h_zeq (off := 21) (t := 69) rfl rfl (by decide) (fun c => absurd c (by decide)) (fun _ => ?_)
      obtain ⟨hk4, hk3⟩ := cfd_k (k := k4) hR (by omega)
      refine h_run 1 (pc' := 52) (l' := [(0, .inr (.inr 1826)), (1, .inl t), (2, .inl 0), (3, .inl (k4 : Int))]) (st' := [.inl 0]) rfl ?_
      refine h_zne (off := 17) (t := 69) rfl rfl (by decide) (fun c => absurd c (by decide)) (fun _ => ?_)
      refine h_run 3 (pc' := 60) (l' := [(0, .inr (.inr 1826)), (1, .inl t), (2, .inl 0), (3, .inl (k4 : Int))]) (st' := [.inl (k4 : Int), .inr (.inr 1830)]) rfl ?_
      refine h_ild (c := 1830) (j := k4) (i := (k4 : Int)) rfl rfl (by decide) rfl (by omega) ?_
      have g7 : -2147483648 ≤ (H.1 1830 k4) ∧ (H.1 1830 k4) ≤ 2147483647 := hrg0.2 1830 k4 16 .int rfl (by omega)
      refine h_run 0 (pc' := 61) (l' := [(0, .inr (.inr 1826)), (1, .inl t), (2, .inl 0), (3, .inl (k4 : Int))]) (st' := [.inl (H.1 1830 k4)]) rfl ?_
      refine h_zle (off := 8) (t := 69) rfl rfl (by omega) (fun c8 => ?_) (fun c8 => ?_)
      · refine h_run 1 (pc' := 70) (l' := [(0, .inr (.inr 1826)), (1, .inl t), (2, .inl 0), (3, .inl (k4 : Int))]) (st' := [.inr (.inr 1826)]) rfl ?_
        refine h_cv (i := 293) (j := 158) (b := 1826) (M' := mt_158) (xs := []) (rest := []) rfl rfl rfl rfl rfl rfl (Nat.le_of_ble_eq_true rfl) (Nat.le_of_ble_eq_true rfl) (by omega) (m_good1 (by omega) (by omega : (H.1 1826 35) = 0)) ?_
        rintro _ _ ⟨rfl, rfl⟩
        refine h_run 0 (pc' := 73) (l' := [(0, .inr (.inr 1826)), (1, .inl t), (2, .inl 0), (3, .inl (k4 : Int))]) (st' := [.inl 1]) rfl ?_
        refine h_zeq (off := 18) (t := 91) rfl rfl (by decide) (fun c => absurd c (by decide)) (fun _ => ?_)
        refine h_run 3 (pc' := 81) (l' := [(0, .inr (.inr 1826)), (1, .inl t), (2, .inl 0), (3, .inl (k4 : Int))]) (st' := [.inl (k4 : Int), .inr (.inr 1829)]) rfl ?_
        refine h_ild (c := 1829) (j := k4) (i := (k4 : Int)) rfl rfl (by decide) rfl (by omega) ?_
        have g9 : -2147483648 ≤ (H.1 1829 k4) ∧ (H.1 1829 k4) ≤ 2147483647 := hrg0.2 1829 k4 16 .int rfl (by omega)
        refine h_run 0 (pc' := 82) (l' := [(0, .inr (.inr 1826)), (1, .inl t), (2, .inl 0), (3, .inl (k4 : Int))]) (st' := [.inl (H.1 1829 k4)]) rfl ?_
        refine h_run 1 (pc' := 83) (l' := [(0, .inr (.inr 1826)), (1, .inl t), (2, .inl 0), (3, .inl (k4 : Int))]) (st' := [.inl t, .inl (H.1 1829 k4)]) rfl ?_
        refine h_ieq (off := 8) (t := 91) rfl rfl (by omega) (by omega) (fun c10 => ?_) (fun c10 => ?_)
        · refine h_run 1 (pc' := 92) (l' := [(0, .inr (.inr 1826)), (1, .inl t), (2, .inl 0), (3, .inl (k4 : Int))]) (st' := [.inr (.inr 1826)]) rfl ?_
          have g11 : -2147483648 ≤ (H.1 1826 40) ∧ (H.1 1826 40) ≤ 2147483647 := hrg0.1 1826 13 40 _ .int rfl rfl
          by_cases b12 : (H.1 1826 40) = 40
          · refine h_cv (i := 344) (j := 168) (b := 1826) (M' := mt_168) (xs := []) (rest := []) rfl rfl rfl rfl rfl rfl (Nat.le_of_ble_eq_true rfl) (Nat.le_of_ble_eq_true rfl) (by omega) (m_countB (by omega) (by omega : (H.1 1826 35) = 0) (by omega : (H.1 1826 40) = 40)) ?_
            rintro _ _ ⟨rfl, rfl⟩
            refine h_run 0 (pc' := 95) (l' := [(0, .inr (.inr 1826)), (1, .inl t), (2, .inl 0), (3, .inl (k4 : Int))]) (st' := []) rfl ?_
            refine h_run 1 (pc' := 96) (l' := [(0, .inr (.inr 1826)), (1, .inl t), (2, .inl 0), (3, .inl (k4 : Int))]) (st' := [.inr (.inr 1826)]) rfl ?_
            refine h_cv (i := 293) (j := 158) (b := 1826) (M' := mt_158) (xs := []) (rest := []) rfl rfl rfl rfl rfl rfl (Nat.le_of_ble_eq_true rfl) (Nat.le_of_ble_eq_true rfl) (by omega) (m_good0 (by omega) (by omega : (5 : Int) ≠ 0)) ?_
            rintro _ _ ⟨rfl, rfl⟩
            refine h_run 0 (pc' := 99) (l' := [(0, .inr (.inr 1826)), (1, .inl t), (2, .inl 0), (3, .inl (k4 : Int))]) (st' := [.inl 0]) rfl ?_
            refine h_zne (off := 4) (t := 103) rfl rfl (by decide) (fun c => absurd c (by decide)) (fun _ => ?_)
            refine h_ret rfl rfl ?_
            have g13 : -2147483648 ≤ (H.1 1826 30) ∧ (H.1 1826 30) ≤ 2147483647 := hrg0.1 1826 13 30 _ .int rfl rfl
            have g14 : -2147483648 ≤ (H.1 1826 32) ∧ (H.1 1826 32) ≤ 2147483647 := hrg0.1 1826 13 32 _ .int rfl rfl
            have g15 : -2147483648 ≤ (H.1 1826 29) ∧ (H.1 1826 29) ≤ 2147483647 := hrg0.1 1826 13 29 _ .int rfl rfl
            have g16 : -2147483648 ≤ (H.1 1826 31) ∧ (H.1 1826 31) ≤ 2147483647 := hrg0.1 1826 13 31 _ .int rfl rfl
            have g17 : -2147483648 ≤ (H.1 1826 43) ∧ (H.1 1826 43) ≤ 2147483647 := hrg0.1 1826 13 43 _ .int rfl rfl
            have g18 : -2147483648 ≤ (H.1 1826 47) ∧ (H.1 1826 47) ≤ 2147483647 := hrg0.1 1826 13 47 _ .int rfl rfl
            exact ⟨rfl, (Or.inr ⟨(by omega : (5 : Int) ≠ 0), (BD_mk hR (fr_o (fr_o (fr_o (fr_rf [35, 36, 40] [] H) (by decide)) (by decide)) (by decide)) (by decide) (by decide) (by decide : (5 : Int) ≠ 0) rfl rfl (rch_eq hq (by unfold stPcon; rw [show cfd Y X = ((k4 : Nat) : Int) by omega, Int.toNat_natCast]; (repeat (first | rw [if_pos (by omega)] | rw [if_neg (by omega)])); try (first | rfl | (exfalso; omega)))))⟩), (fr_o (fr_o (fr_o (fr_rf _ _ _) (by decide)) (by decide)) (by decide)), (by omega : (H.1 1826 30) ≤ (H.1 1826 30) ∧ (H.1 1826 30) ≤ (H.1 1826 29)), (by omega : 0 ≤ (5 : Int) ∧ (5 : Int) ≤ 5), (by omega : (H.1 1826 35) ≠ 0 → (5 : Int) ≠ 0), (by omega : 0 ≤ (H.1 1826 32) ∧ (H.1 1826 32) ≤ 1000), (by omega : 0 ≤ ((H.1 1826 40) + 1) ∧ ((H.1 1826 40) + 1) ≤ (H.1 1826 40) + 1), (by omega : (5 : Int) = 0 → (H.1 1826 31) = 0 ∨ (H.1 1826 30) < (H.1 1826 30)), (fun (q : (5 : Int) = 0) => absurd q (by omega))⟩
          · refine h_cv (i := 344) (j := 168) (b := 1826) (M' := mt_168) (xs := []) (rest := []) rfl rfl rfl rfl rfl rfl (Nat.le_of_ble_eq_true rfl) (Nat.le_of_ble_eq_true rfl) (by omega) (m_countA (by omega) (by omega : (H.1 1826 35) = 0) (by omega : 0 ≤ (H.1 1826 40) ∧ (H.1 1826 40) ≤ 1000) (by omega : (H.1 1826 40) ≠ 40)) ?_
            rintro _ _ ⟨rfl, rfl⟩
            refine h_run 0 (pc' := 95) (l' := [(0, .inr (.inr 1826)), (1, .inl t), (2, .inl 0), (3, .inl (k4 : Int))]) (st' := []) rfl ?_
            refine h_run 1 (pc' := 96) (l' := [(0, .inr (.inr 1826)), (1, .inl t), (2, .inl 0), (3, .inl (k4 : Int))]) (st' := [.inr (.inr 1826)]) rfl ?_
            refine h_cv (i := 293) (j := 158) (b := 1826) (M' := mt_158) (xs := []) (rest := []) rfl rfl rfl rfl rfl rfl (Nat.le_of_ble_eq_true rfl) (Nat.le_of_ble_eq_true rfl) (by omega) (m_good1 (by omega) (by omega : (H.1 1826 35) = 0)) ?_
            rintro _ _ ⟨rfl, rfl⟩
            refine h_run 0 (pc' := 99) (l' := [(0, .inr (.inr 1826)), (1, .inl t), (2, .inl 0), (3, .inl (k4 : Int))]) (st' := [.inl 1]) rfl ?_
            refine h_zne (off := 4) (t := 103) rfl rfl (by decide) (fun _ => ?_) (fun c => absurd c (by decide))
            refine h_run 4 (pc' := 107) (l' := [(0, .inr (.inr 1826)), (1, .inl t), (2, .inl 0), (3, .inl (k4 : Int))]) (st' := [.inl (1 + (k4 : Int)), .inr (.inr 1826)]) rfl ?_
            have g19 : -2147483648 ≤ (H.1 1826 43) ∧ (H.1 1826 43) ≤ 2147483647 := hrg0.1 1826 13 43 _ .int rfl rfl
            refine h_cv (i := 350) (j := 169) (b := 1826) (M' := mt_169) (xs := [.inl (1 + (k4 : Int))]) (rest := []) rfl rfl rfl rfl rfl rfl (Nat.le_of_ble_eq_true rfl) (Nat.le_of_ble_eq_true rfl) (by omega) (m_put1 (by omega) (by omega : (H.1 1826 35) = 0) (by omega : 0 ≤ (H.1 1826 43) ∧ (H.1 1826 43) ≤ 47) (by omega)) ?_
            rintro _ _ ⟨rfl, rfl⟩
            refine h_run 0 (pc' := 110) (l' := [(0, .inr (.inr 1826)), (1, .inl t), (2, .inl 0), (3, .inl (k4 : Int))]) (st' := []) rfl ?_
            refine h_run 4 (pc' := 118) (l' := [(0, .inr (.inr 1826)), (1, .inl t), (2, .inl 0), (3, .inl (k4 : Int))]) (st' := [.inl (H.1 1826 47), .inr (.inr 1853)]) rfl ?_
            have g20 : -2147483648 ≤ (H.1 1826 47) ∧ (H.1 1826 47) ≤ 2147483647 := hrg0.1 1826 13 47 _ .int rfl rfl
            refine h_run 3 (pc' := 121) (l' := [(0, .inr (.inr 1826)), (1, .inl t), (2, .inl 0), (3, .inl (k4 : Int))]) (st' := [.inl ((H.1 1826 47) - 1), .inr (.inr 1853), .inl ((H.1 1826 47) - 1), .inr (.inr 1853)]) rfl ?_
            refine h_ild (c := 1853) (j := (((H.1 1826 47) - 1)).toNat) (i := ((H.1 1826 47) - 1)) rfl rfl (by decide) (by omega) (by omega) ?_
            have g21 : -2147483648 ≤ (H.1 1853 (((H.1 1826 47) - 1)).toNat) ∧ (H.1 1853 (((H.1 1826 47) - 1)).toNat) ≤ 2147483647 := hrg0.2 1853 (((H.1 1826 47) - 1)).toNat 64 .int rfl (by omega)
            refine h_run 0 (pc' := 122) (l' := [(0, .inr (.inr 1826)), (1, .inl t), (2, .inl 0), (3, .inl (k4 : Int))]) (st' := [.inl (H.1 1853 (((H.1 1826 47) - 1)).toNat), .inl ((H.1 1826 47) - 1), .inr (.inr 1853)]) rfl ?_
            refine h_run 2 (pc' := 124) (l' := [(0, .inr (.inr 1826)), (1, .inl t), (2, .inl 0), (3, .inl (k4 : Int))]) (st' := [.inl ((H.1 1853 (((H.1 1826 47) - 1)).toNat) + 1), .inl ((H.1 1826 47) - 1), .inr (.inr 1853)]) rfl ?_
            refine h_ist (c := 1853) (j := (((H.1 1826 47) - 1)).toNat) (i := ((H.1 1826 47) - 1)) (x := ((H.1 1853 (((H.1 1826 47) - 1)).toNat) + 1)) rfl rfl (by decide) (by decide) (by omega) (by omega) (by omega) ?_
            refine h_run 1 (pc' := 126) (l' := [(0, .inr (.inr 1826)), (1, .inl t), (2, .inl 0), (3, .inl (k4 : Int))]) (st' := [.inl 0]) rfl ?_
            refine h_zeq (off := 35) (t := 161) rfl rfl (by decide) (fun _ => ?_) (fun c => absurd c (by decide))
            have hq9 : rch Y c0 ((5, (1 + (k4 : Int)), 0, dd) :: K, xput X (1 + (k4 : Int))) := (rch_eq hq (by unfold stPcon; rw [show cfd Y X = ((k4 : Nat) : Int) by omega, Int.toNat_natCast]; (repeat (first | rw [if_pos (by omega)] | rw [if_neg (by omega)])); try (first | rfl | (exfalso; omega))))
            refine h_run 1 (pc' := 162) (l' := [(0, .inr (.inr 1826)), (1, .inl t), (2, .inl 0), (3, .inl (k4 : Int))]) (st' := [.inr (.inr 1826)]) rfl ?_
            have g22 : -2147483648 ≤ (H.1 1826 30) ∧ (H.1 1826 30) ≤ 2147483647 := hrg0.1 1826 13 30 _ .int rfl rfl
            have g23 : -2147483648 ≤ (H.1 1826 29) ∧ (H.1 1826 29) ≤ 2147483647 := hrg0.1 1826 13 29 _ .int rfl rfl
            have g24 : -2147483648 ≤ (H.1 1826 32) ∧ (H.1 1826 32) ≤ 2147483647 := hrg0.1 1826 13 32 _ .int rfl rfl
            refine h_cv (i := 297) (j := 165) (b := 1826) (M' := mt_165) (xs := []) (rest := []) rfl rfl rfl rfl rfl rfl (Nat.le_of_ble_eq_true rfl) (Nat.le_of_ble_eq_true rfl) (by omega) (n_nx (by omega) (by omega : 0 ≤ (H.1 1826 30) ∧ (H.1 1826 30) ≤ (H.1 1826 29) ∧ (H.1 1826 29) ≤ 1000) (by omega : 0 ≤ (H.1 1826 35) ∧ (H.1 1826 35) ≤ 5) (by omega : 0 ≤ (H.1 1826 32) ∧ (H.1 1826 32) ≤ 1000) (by omega : (H.1 1826 35) = 0) (X := (xput X (1 + (k4 : Int)))) (RN_mk hR (fr_a (fr_o (fr_a (fr_o (fr_rf [40, 43] [1851, 1853] H) (by decide)) (by decide)) (by decide)) (by decide)) (by decide) (by decide) (xpt_s _ _).1 (TA_sT (TA_fr hR.2.2.2.2 (fr_a (fr_o (fr_a (fr_o (fr_rf [40, 43] [1851, 1853] H) (by decide)) (by decide)) (by decide)) (by decide)) (by decide) (by decide)) (sT_put X _))) hq9 (lk_c hK (by decide : (5 : Nat) ≠ 0) (fun q => absurd q (by decide : (5 : Nat) ≠ 1)))) ?_
            rintro _ H25 ⟨rfl, hx25n, hx25f, hx25a, hx25b, hx25c, -, hx25e, hx25g⟩
            refine h_rng (fun hrg26 => ?_)
            have hf27 : fr [30, 31, 32, 33, 35, 36, 40, 43, 47] [1851, 1852, 1853] H H25 := fr_t (fr_a (fr_o (fr_a (fr_o (fr_rf _ _ _) (by decide)) (by decide)) (by decide)) (by decide)) hx25f (by decide) (by decide)
            replace hx25a : (H.1 1826 30) ≤ (H25.1 1826 30) := hx25a
            replace hx25b : (H25.1 1826 30) ≤ (H.1 1826 29) := hx25b
            replace hx25g : (H25.1 1826 35) = 0 → ((H25.1 1826 31) = 0 ∨ (H.1 1826 30) < (H25.1 1826 30)) := hx25g
            refine h_run 0 (pc' := 165) (l' := [(0, .inr (.inr 1826)), (1, .inl t), (2, .inl 0), (3, .inl (k4 : Int))]) (st' := []) rfl ?_
            refine h_ret rfl rfl ?_
            have g28 : -2147483648 ≤ (H25.1 1826 30) ∧ (H25.1 1826 30) ≤ 2147483647 := hrg26.1 1826 13 30 _ .int rfl rfl
            have g29 : -2147483648 ≤ (H25.1 1826 35) ∧ (H25.1 1826 35) ≤ 2147483647 := hrg26.1 1826 13 35 _ .int rfl rfl
            have g30 : -2147483648 ≤ (H25.1 1826 32) ∧ (H25.1 1826 32) ≤ 2147483647 := hrg26.1 1826 13 32 _ .int rfl rfl
            have g31 : -2147483648 ≤ (H25.1 1826 29) ∧ (H25.1 1826 29) ≤ 2147483647 := hrg26.1 1826 13 29 _ .int rfl rfl
            have e32 : (H25.1 1826 29) = (H.1 1826 29) := hx25f.2.2 29 (by decide)
            have g33 : -2147483648 ≤ (H25.1 1826 40) ∧ (H25.1 1826 40) ≤ 2147483647 := hrg26.1 1826 13 40 _ .int rfl rfl
            have e34 : (H25.1 1826 40) = ((H.1 1826 40) + 1) := hx25f.2.2 40 (by decide)
            have g35 : -2147483648 ≤ (H25.1 1826 31) ∧ (H25.1 1826 31) ≤ 2147483647 := hrg26.1 1826 13 31 _ .int rfl rfl
            have g36 : -2147483648 ≤ (H25.1 1826 43) ∧ (H25.1 1826 43) ≤ 2147483647 := hrg26.1 1826 13 43 _ .int rfl rfl
            have e37 : (H25.1 1826 43) = ((H.1 1826 43) + 1) := hx25f.2.2 43 (by decide)
            have g38 : -2147483648 ≤ (H25.1 1826 47) ∧ (H25.1 1826 47) ≤ 2147483647 := hrg26.1 1826 13 47 _ .int rfl rfl
            have e39 : (H25.1 1826 47) = (H.1 1826 47) := hx25f.2.2 47 (by decide)
            have g40 : -2147483648 ≤ (H25.1 1826 3) ∧ (H25.1 1826 3) ≤ 2147483647 := hrg26.1 1826 13 3 _ .int rfl rfl
            have e41 : (H25.1 1826 3) = (H.1 1826 3) := hx25f.2.2 3 (by decide)
            exact ⟨rfl, (GB_i hx25n (fun q => ⟨k4, ⟨by omega, by omega, by omega⟩, ⟨(hx25f.2.2 47 (by decide)), (hx25f.2.1 1852 (by decide) (by decide)), (hx25f.2.1 1853 (by decide) (by decide))⟩, hq9, q, VP_put hV (hx25f.2.2 40 (by decide)) (hx25f.2.2 39 (by decide)) (hx25f.2.1 1849 (by decide) (by decide)) (hx25f.2.1 1850 (by decide) (by decide)) (hx25f.2.2 43 (by decide)) (hx25f.2.1 1851 (by decide) (by decide))⟩)), hf27, (by omega : (H.1 1826 30) ≤ (H25.1 1826 30) ∧ (H25.1 1826 30) ≤ (H.1 1826 29)), (by omega : 0 ≤ (H25.1 1826 35) ∧ (H25.1 1826 35) ≤ 5), (by omega : (H.1 1826 35) ≠ 0 → (H25.1 1826 35) ≠ 0), (by omega : 0 ≤ (H25.1 1826 32) ∧ (H25.1 1826 32) ≤ 1000), (by omega : 0 ≤ (H25.1 1826 40) ∧ (H25.1 1826 40) ≤ (H.1 1826 40) + 1), (by omega : (H25.1 1826 35) = 0 → (H25.1 1826 31) = 0 ∨ (H.1 1826 30) < (H25.1 1826 30)), fun (q : (H25.1 1826 35) = 0) => ⟨k4, by omega, by omega, by omega, (by omega : (H25.1 1826 40) = (H.1 1826 40) + 1 ∧ (H25.1 1826 43) = (H.1 1826 43) + 1 ∧ (H25.1 1826 47) = (H.1 1826 47)), hx25f.2.1 1851 (by decide) (by decide), hx25f.2.1 1852 (by decide) (by decide), hx25f.2.1 1853 (by decide) (by decide)⟩⟩
        · refine h_run 2 (pc' := 88) (l' := [(0, .inr (.inr 1826)), (1, .inl t), (2, .inl 0), (3, .inl (k4 : Int))]) (st' := [.inl 4, .inr (.inr 1826)]) rfl ?_
          refine h_cv (i := 278) (j := 159) (b := 1826) (M' := mt_159) (xs := [.inl 4]) (rest := []) rfl rfl rfl rfl rfl rfl (Nat.le_of_ble_eq_true rfl) (Nat.le_of_ble_eq_true rfl) (by omega) (m_bad0 (by omega) (by omega) (by omega : (H.1 1826 35) = 0)) ?_
          rintro _ _ ⟨rfl, rfl⟩
          refine h_run 0 (pc' := 91) (l' := [(0, .inr (.inr 1826)), (1, .inl t), (2, .inl 0), (3, .inl (k4 : Int))]) (st' := []) rfl ?_
          refine h_run 1 (pc' := 92) (l' := [(0, .inr (.inr 1826)), (1, .inl t), (2, .inl 0), (3, .inl (k4 : Int))]) (st' := [.inr (.inr 1826)]) rfl ?_
          have g42 : -2147483648 ≤ (H.1 1826 40) ∧ (H.1 1826 40) ≤ 2147483647 := hrg0.1 1826 13 40 _ .int rfl rfl
          refine h_cv (i := 344) (j := 168) (b := 1826) (M' := mt_168) (xs := []) (rest := []) rfl rfl rfl rfl rfl rfl (Nat.le_of_ble_eq_true rfl) (Nat.le_of_ble_eq_true rfl) (by omega) (m_countC (by omega) (by omega : (4 : Int) ≠ 0) (by omega : 0 ≤ (H.1 1826 40) ∧ (H.1 1826 40) ≤ 1000)) ?_
          rintro _ _ ⟨rfl, rfl⟩
          refine h_run 0 (pc' := 95) (l' := [(0, .inr (.inr 1826)), (1, .inl t), (2, .inl 0), (3, .inl (k4 : Int))]) (st' := []) rfl ?_
          refine h_run 1 (pc' := 96) (l' := [(0, .inr (.inr 1826)), (1, .inl t), (2, .inl 0), (3, .inl (k4 : Int))]) (st' := [.inr (.inr 1826)]) rfl ?_
          refine h_cv (i := 293) (j := 158) (b := 1826) (M' := mt_158) (xs := []) (rest := []) rfl rfl rfl rfl rfl rfl (Nat.le_of_ble_eq_true rfl) (Nat.le_of_ble_eq_true rfl) (by omega) (m_good0 (by omega) (by omega : (4 : Int) ≠ 0)) ?_
          rintro _ _ ⟨rfl, rfl⟩
          refine h_run 0 (pc' := 99) (l' := [(0, .inr (.inr 1826)), (1, .inl t), (2, .inl 0), (3, .inl (k4 : Int))]) (st' := [.inl 0]) rfl ?_
          refine h_zne (off := 4) (t := 103) rfl rfl (by decide) (fun c => absurd c (by decide)) (fun _ => ?_)
          refine h_ret rfl rfl ?_
          have g43 : -2147483648 ≤ (H.1 1826 30) ∧ (H.1 1826 30) ≤ 2147483647 := hrg0.1 1826 13 30 _ .int rfl rfl
          have g44 : -2147483648 ≤ (H.1 1826 32) ∧ (H.1 1826 32) ≤ 2147483647 := hrg0.1 1826 13 32 _ .int rfl rfl
          have g45 : -2147483648 ≤ (H.1 1826 29) ∧ (H.1 1826 29) ≤ 2147483647 := hrg0.1 1826 13 29 _ .int rfl rfl
          have g46 : -2147483648 ≤ (H.1 1826 31) ∧ (H.1 1826 31) ≤ 2147483647 := hrg0.1 1826 13 31 _ .int rfl rfl
          have g47 : -2147483648 ≤ (H.1 1826 43) ∧ (H.1 1826 43) ≤ 2147483647 := hrg0.1 1826 13 43 _ .int rfl rfl
          have g48 : -2147483648 ≤ (H.1 1826 47) ∧ (H.1 1826 47) ≤ 2147483647 := hrg0.1 1826 13 47 _ .int rfl rfl
          exact ⟨rfl, (Or.inr ⟨(by omega : (4 : Int) ≠ 0), (BD_mk hR (fr_o (fr_o (fr_o (fr_rf [35, 36, 40] [] H) (by decide)) (by decide)) (by decide)) (by decide) (by decide) (by decide : (4 : Int) ≠ 0) rfl rfl (rch_eq hq (by unfold stPcon; rw [show cfd Y X = ((k4 : Nat) : Int) by omega, Int.toNat_natCast]; (repeat (first | rw [if_pos (by omega)] | rw [if_neg (by omega)])); try (first | rfl | (exfalso; omega)))))⟩), (fr_o (fr_o (fr_o (fr_rf _ _ _) (by decide)) (by decide)) (by decide)), (by omega : (H.1 1826 30) ≤ (H.1 1826 30) ∧ (H.1 1826 30) ≤ (H.1 1826 29)), (by omega : 0 ≤ (4 : Int) ∧ (4 : Int) ≤ 5), (by omega : (H.1 1826 35) ≠ 0 → (4 : Int) ≠ 0), (by omega : 0 ≤ (H.1 1826 32) ∧ (H.1 1826 32) ≤ 1000), (by omega : 0 ≤ ((H.1 1826 40) + 1) ∧ ((H.1 1826 40) + 1) ≤ (H.1 1826 40) + 1), (by omega : (4 : Int) = 0 → (H.1 1826 31) = 0 ∨ (H.1 1826 30) < (H.1 1826 30)), (fun (q : (4 : Int) = 0) => absurd q (by omega))⟩
      · refine h_run 2 (pc' := 66) (l' := [(0, .inr (.inr 1826)), (1, .inl t), (2, .inl 0), (3, .inl (k4 : Int))]) (st' := [.inl 2, .inr (.inr 1826)]) rfl ?_
        refine h_cv (i := 278) (j := 159) (b := 1826) (M' := mt_159) (xs := [.inl 2]) (rest := []) rfl rfl rfl rfl rfl rfl (Nat.le_of_ble_eq_true rfl) (Nat.le_of_ble_eq_true rfl) (by omega) (m_bad0 (by omega) (by omega) (by omega : (H.1 1826 35) = 0)) ?_
        rintro _ _ ⟨rfl, rfl⟩
        refine h_run 0 (pc' := 69) (l' := [(0, .inr (.inr 1826)), (1, .inl t), (2, .inl 0), (3, .inl (k4 : Int))]) (st' := []) rfl ?_
        refine h_run 1 (pc' := 70) (l' := [(0, .inr (.inr 1826)), (1, .inl t), (2, .inl 0), (3, .inl (k4 : Int))]) (st' := [.inr (.inr 1826)]) rfl ?_
        refine h_cv (i := 293) (j := 158) (b := 1826) (M' := mt_158) (xs := []) (rest := []) rfl rfl rfl rfl rfl rfl (Nat.le_of_ble_eq_true rfl) (Nat.le_of_ble_eq_true rfl) (by omega) (m_good0 (by omega) (by omega : (2 : Int) ≠ 0)) ?_
        rintro _ _ ⟨rfl, rfl⟩
        refine h_run 0 (pc' := 73) (l' := [(0, .inr (.inr 1826)), (1, .inl t), (2, .inl 0), (3, .inl (k4 : Int))]) (st' := [.inl 0]) rfl ?_
        refine h_zeq (off := 18) (t := 91) rfl rfl (by decide) (fun _ => ?_) (fun c => absurd c (by decide))
        refine h_run 1 (pc' := 92) (l' := [(0, .inr (.inr 1826)), (1, .inl t), (2, .inl 0), (3, .inl (k4 : Int))]) (st' := [.inr (.inr 1826)]) rfl ?_
        have g49 : -2147483648 ≤ (H.1 1826 40) ∧ (H.1 1826 40) ≤ 2147483647 := hrg0.1 1826 13 40 _ .int rfl rfl
        refine h_cv (i := 344) (j := 168) (b := 1826) (M' := mt_168) (xs := []) (rest := []) rfl rfl rfl rfl rfl rfl (Nat.le_of_ble_eq_true rfl) (Nat.le_of_ble_eq_true rfl) (by omega) (m_countC (by omega) (by omega : (2 : Int) ≠ 0) (by omega : 0 ≤ (H.1 1826 40) ∧ (H.1 1826 40) ≤ 1000)) ?_
        rintro _ _ ⟨rfl, rfl⟩
        refine h_run 0 (pc' := 95) (l' := [(0, .inr (.inr 1826)), (1, .inl t), (2, .inl 0), (3, .inl (k4 : Int))]) (st' := []) rfl ?_
        refine h_run 1 (pc' := 96) (l' := [(0, .inr (.inr 1826)), (1, .inl t), (2, .inl 0), (3, .inl (k4 : Int))]) (st' := [.inr (.inr 1826)]) rfl ?_
        refine h_cv (i := 293) (j := 158) (b := 1826) (M' := mt_158) (xs := []) (rest := []) rfl rfl rfl rfl rfl rfl (Nat.le_of_ble_eq_true rfl) (Nat.le_of_ble_eq_true rfl) (by omega) (m_good0 (by omega) (by omega : (2 : Int) ≠ 0)) ?_
        rintro _ _ ⟨rfl, rfl⟩
        refine h_run 0 (pc' := 99) (l' := [(0, .inr (.inr 1826)), (1, .inl t), (2, .inl 0), (3, .inl (k4 : Int))]) (st' := [.inl 0]) rfl ?_
        refine h_zne (off := 4) (t := 103) rfl rfl (by decide) (fun c => absurd c (by decide)) (fun _ => ?_)
        refine h_ret rfl rfl ?_
        have g50 : -2147483648 ≤ (H.1 1826 30) ∧ (H.1 1826 30) ≤ 2147483647 := hrg0.1 1826 13 30 _ .int rfl rfl
        have g51 : -2147483648 ≤ (H.1 1826 32) ∧ (H.1 1826 32) ≤ 2147483647 := hrg0.1 1826 13 32 _ .int rfl rfl
        have g52 : -2147483648 ≤ (H.1 1826 29) ∧ (H.1 1826 29) ≤ 2147483647 := hrg0.1 1826 13 29 _ .int rfl rfl
        have g53 : -2147483648 ≤ (H.1 1826 31) ∧ (H.1 1826 31) ≤ 2147483647 := hrg0.1 1826 13 31 _ .int rfl rfl
        have g54 : -2147483648 ≤ (H.1 1826 43) ∧ (H.1 1826 43) ≤ 2147483647 := hrg0.1 1826 13 43 _ .int rfl rfl
        have g55 : -2147483648 ≤ (H.1 1826 47) ∧ (H.1 1826 47) ≤ 2147483647 := hrg0.1 1826 13 47 _ .int rfl rfl
        exact ⟨rfl, (Or.inr ⟨(by omega : (2 : Int) ≠ 0), (BD_mk hR (fr_o (fr_o (fr_o (fr_rf [35, 36, 40] [] H) (by decide)) (by decide)) (by decide)) (by decide) (by decide) (by decide : (2 : Int) ≠ 0) rfl rfl (rch_eq hq (by unfold stPcon; rw [show cfd Y X = ((k4 : Nat) : Int) by omega, Int.toNat_natCast]; (repeat (first | rw [if_pos (by omega)] | rw [if_neg (by omega)])); try (first | rfl | (exfalso; omega)))))⟩), (fr_o (fr_o (fr_o (fr_rf _ _ _) (by decide)) (by decide)) (by decide)), (by omega : (H.1 1826 30) ≤ (H.1 1826 30) ∧ (H.1 1826 30) ≤ (H.1 1826 29)), (by omega : 0 ≤ (2 : Int) ∧ (2 : Int) ≤ 5), (by omega : (H.1 1826 35) ≠ 0 → (2 : Int) ≠ 0), (by omega : 0 ≤ (H.1 1826 32) ∧ (H.1 1826 32) ≤ 1000), (by omega : 0 ≤ ((H.1 1826 40) + 1) ∧ ((H.1 1826 40) + 1) ≤ (H.1 1826 40) + 1), (by omega : (2 : Int) = 0 → (H.1 1826 31) = 0 ∨ (H.1 1826 30) < (H.1 1826 30)), (fun (q : (2 : Int) = 0) => absurd q (by omega))⟩
    · exfalso
      omega
  · refine h_run 0 (pc' := 22) (l' := [(0, .inr (.inr 1826)), (1, .inl t), (2, .inl 0)]) (st' := [.inl (-1)]) rfl ?_
    refine h_run 3 (pc' := 28) (l' := [(0, .inr (.inr 1826)), (1, .inl t), (2, .inl 0), (3, .inl (-1))]) (st' := [.inr (.inr 1826)]) rfl ?_
    refine h_cv (i := 293) (j := 158) (b := 1826) (M' := mt_158) (xs := []) (rest := []) rfl rfl rfl rfl rfl rfl (Nat.le_of_ble_eq_true rfl) (Nat.le_of_ble_eq_true rfl) (by omega) (m_good1 (by omega) (by omega : (H.1 1826 35) = 0)) ?_
    rintro _ _ ⟨rfl, rfl⟩
    refine h_run 0 (pc' := 31) (l' := [(0, .inr (.inr 1826)), (1, .inl t), (2, .inl 0), (3, .inl (-1))]) (st' := [.inl 1]) rfl ?_
    refine h_zeq (off := 13) (t := 44) rfl rfl (by decide) (fun c => absurd c (by decide)) (fun _ => ?_)
    refine h_run 2 (pc' := 36) (l' := [(0, .inr (.inr 1826)), (1, .inl t), (2, .inl 0), (3, .inl (-1))]) (st' := [.inl (-1), .inl (-1)]) rfl ?_
    refine h_ine (off := 8) (t := 44) rfl rfl (by decide) (by decide) (fun c => absurd c (by decide)) (fun _ => ?_)
    refine h_run 2 (pc' := 41) (l' := [(0, .inr (.inr 1826)), (1, .inl t), (2, .inl 0), (3, .inl (-1))]) (st' := [.inl 3, .inr (.inr 1826)]) rfl ?_
    refine h_cv (i := 278) (j := 159) (b := 1826) (M' := mt_159) (xs := [.inl 3]) (rest := []) rfl rfl rfl rfl rfl rfl (Nat.le_of_ble_eq_true rfl) (Nat.le_of_ble_eq_true rfl) (by omega) (m_bad0 (by omega) (by omega) (by omega : (H.1 1826 35) = 0)) ?_
    rintro _ _ ⟨rfl, rfl⟩
    refine h_run 0 (pc' := 44) (l' := [(0, .inr (.inr 1826)), (1, .inl t), (2, .inl 0), (3, .inl (-1))]) (st' := []) rfl ?_
    refine h_run 1 (pc' := 45) (l' := [(0, .inr (.inr 1826)), (1, .inl t), (2, .inl 0), (3, .inl (-1))]) (st' := [.inr (.inr 1826)]) rfl ?_
    refine h_cv (i := 293) (j := 158) (b := 1826) (M' := mt_158) (xs := []) (rest := []) rfl rfl rfl rfl rfl rfl (Nat.le_of_ble_eq_true rfl) (Nat.le_of_ble_eq_true rfl) (by omega) (m_good0 (by omega) (by omega : (3 : Int) ≠ 0)) ?_
    rintro _ _ ⟨rfl, rfl⟩
    refine h_run 0 (pc' := 48) (l' := [(0, .inr (.inr 1826)), (1, .inl t), (2, .inl 0), (3, .inl (-1))]) (st' := [.inl 0]) rfl ?_
    refine h_zeq (off := 21) (t := 69) rfl rfl (by decide) (fun _ => ?_) (fun c => absurd c (by decide))
    refine h_run 1 (pc' := 70) (l' := [(0, .inr (.inr 1826)), (1, .inl t), (2, .inl 0), (3, .inl (-1))]) (st' := [.inr (.inr 1826)]) rfl ?_
    refine h_cv (i := 293) (j := 158) (b := 1826) (M' := mt_158) (xs := []) (rest := []) rfl rfl rfl rfl rfl rfl (Nat.le_of_ble_eq_true rfl) (Nat.le_of_ble_eq_true rfl) (by omega) (m_good0 (by omega) (by omega : (3 : Int) ≠ 0)) ?_
    rintro _ _ ⟨rfl, rfl⟩
    refine h_run 0 (pc' := 73) (l' := [(0, .inr (.inr 1826)), (1, .inl t), (2, .inl 0), (3, .inl (-1))]) (st' := [.inl 0]) rfl ?_
    refine h_zeq (off := 18) (t := 91) rfl rfl (by decide) (fun _ => ?_) (fun c => absurd c (by decide))
    refine h_run 1 (pc' := 92) (l' := [(0, .inr (.inr 1826)), (1, .inl t), (2, .inl 0), (3, .inl (-1))]) (st' := [.inr (.inr 1826)]) rfl ?_
    have g56 : -2147483648 ≤ (H.1 1826 40) ∧ (H.1 1826 40) ≤ 2147483647 := hrg0.1 1826 13 40 _ .int rfl rfl
    refine h_cv (i := 344) (j := 168) (b := 1826) (M' := mt_168) (xs := []) (rest := []) rfl rfl rfl rfl rfl rfl (Nat.le_of_ble_eq_true rfl) (Nat.le_of_ble_eq_true rfl) (by omega) (m_countC (by omega) (by omega : (3 : Int) ≠ 0) (by omega : 0 ≤ (H.1 1826 40) ∧ (H.1 1826 40) ≤ 1000)) ?_
    rintro _ _ ⟨rfl, rfl⟩
    refine h_run 0 (pc' := 95) (l' := [(0, .inr (.inr 1826)), (1, .inl t), (2, .inl 0), (3, .inl (-1))]) (st' := []) rfl ?_
    refine h_run 1 (pc' := 96) (l' := [(0, .inr (.inr 1826)), (1, .inl t), (2, .inl 0), (3, .inl (-1))]) (st' := [.inr (.inr 1826)]) rfl ?_
    refine h_cv (i := 293) (j := 158) (b := 1826) (M' := mt_158) (xs := []) (rest := []) rfl rfl rfl rfl rfl rfl (Nat.le_of_ble_eq_true rfl) (Nat.le_of_ble_eq_true rfl) (by omega) (m_good0 (by omega) (by omega : (3 : Int) ≠ 0)) ?_
    rintro _ _ ⟨rfl, rfl⟩
    refine h_run 0 (pc' := 99) (l' := [(0, .inr (.inr 1826)), (1, .inl t), (2, .inl 0), (3, .inl (-1))]) (st' := [.inl 0]) rfl ?_
    refine h_zne (off := 4) (t := 103) rfl rfl (by decide) (fun c => absurd c (by decide)) (fun _ => ?_)
    refine h_ret rfl rfl ?_
    have g57 : -2147483648 ≤ (H.1 1826 30) ∧ (H.1 1826 30) ≤ 2147483647 := hrg0.1 1826 13 30 _ .int rfl rfl
    have g58 : -2147483648 ≤ (H.1 1826 32) ∧ (H.1 1826 32) ≤ 2147483647 := hrg0.1 1826 13 32 _ .int rfl rfl
    have g59 : -2147483648 ≤ (H.1 1826 29) ∧ (H.1 1826 29) ≤ 2147483647 := hrg0.1 1826 13 29 _ .int rfl rfl
    have g60 : -2147483648 ≤ (H.1 1826 31) ∧ (H.1 1826 31) ≤ 2147483647 := hrg0.1 1826 13 31 _ .int rfl rfl
    have g61 : -2147483648 ≤ (H.1 1826 43) ∧ (H.1 1826 43) ≤ 2147483647 := hrg0.1 1826 13 43 _ .int rfl rfl
    have g62 : -2147483648 ≤ (H.1 1826 47) ∧ (H.1 1826 47) ≤ 2147483647 := hrg0.1 1826 13 47 _ .int rfl rfl
    exact ⟨rfl, (Or.inr ⟨(by omega : (3 : Int) ≠ 0), (BD_mk hR (fr_o (fr_o (fr_o (fr_rf [35, 36, 40] [] H) (by decide)) (by decide)) (by decide)) (by decide) (by decide) (by decide : (3 : Int) ≠ 0) rfl rfl (rch_eq hq (by unfold stPcon; (repeat (first | rw [if_pos (by omega)] | rw [if_neg (by omega)])); try (first | rfl | (exfalso; omega)))))⟩), (fr_o (fr_o (fr_o (fr_rf _ _ _) (by decide)) (by decide)) (by decide)), (by omega : (H.1 1826 30) ≤ (H.1 1826 30) ∧ (H.1 1826 30) ≤ (H.1 1826 29)), (by omega : 0 ≤ (3 : Int) ∧ (3 : Int) ≤ 5), (by omega : (H.1 1826 35) ≠ 0 → (3 : Int) ≠ 0), (by omega : 0 ≤ (H.1 1826 32) ∧ (H.1 1826 32) ≤ 1000), (by omega : 0 ≤ ((H.1 1826 40) + 1) ∧ ((H.1 1826 40) + 1) ≤ (H.1 1826 40) + 1), (by omega : (3 : Int) = 0 → (H.1 1826 31) = 0 ∨ (H.1 1826 30) < (H.1 1826 30)), (fun (q : (3 : Int) = 0) => absurd q (by omega))⟩

/-! patternCon -/
set_option maxRecDepth 100000 in
theorem n_patC00 {zC : Nat → Option zsh} {d : Nat} (hd : 5 ≤ d) {H : hp} {t : Int} (hw0 : (H.1 1826 35) ≠ 0) (hnm : 0 ≤ (H.1 1826 40) ∧ (H.1 1826 40) ≤ 999) : hG (zs zC) d mt_179 0 (zargs 0 [.inr (.inr 1826), .inl t, .inl 0]) [] H (fun r H2 => r = none ∧ H2 = zu H 1826 (up (H.1 1826) 40 ((H.1 1826 40) + 1))) := by
  refine h_rng (fun hrg0 => ?_)
  refine h_run 0 (pc' := 0) (l' := [(0, .inr (.inr 1826)), (1, .inl t), (2, .inl 0)]) (st' := []) rfl ?_
  refine h_run 1 (pc' := 1) (l' := [(0, .inr (.inr 1826)), (1, .inl t), (2, .inl 0)]) (st' := [.inr (.inr 1826)]) rfl ?_
  have g1 : -2147483648 ≤ (H.1 1826 35) ∧ (H.1 1826 35) ≤ 2147483647 := hrg0.1 1826 13 35 _ .int rfl rfl
  refine h_cv (i := 293) (j := 158) (b := 1826) (M' := mt_158) (xs := []) (rest := []) rfl rfl rfl rfl rfl rfl (Nat.le_of_ble_eq_true rfl) (Nat.le_of_ble_eq_true rfl) (by omega) (m_good0 (by omega) (by omega : (H.1 1826 35) ≠ 0)) ?_
  rintro _ _ ⟨rfl, rfl⟩
  refine h_run 0 (pc' := 4) (l' := [(0, .inr (.inr 1826)), (1, .inl t), (2, .inl 0)]) (st' := [.inl 0]) rfl ?_
  refine h_zeq (off := 21) (t := 25) rfl rfl (by decide) (fun _ => ?_) (fun c => absurd c (by decide))
  refine h_run 3 (pc' := 28) (l' := [(0, .inr (.inr 1826)), (1, .inl t), (2, .inl 0), (3, .inl (-1))]) (st' := [.inr (.inr 1826)]) rfl ?_
  refine h_cv (i := 293) (j := 158) (b := 1826) (M' := mt_158) (xs := []) (rest := []) rfl rfl rfl rfl rfl rfl (Nat.le_of_ble_eq_true rfl) (Nat.le_of_ble_eq_true rfl) (by omega) (m_good0 (by omega) (by omega : (H.1 1826 35) ≠ 0)) ?_
  rintro _ _ ⟨rfl, rfl⟩
  refine h_run 0 (pc' := 31) (l' := [(0, .inr (.inr 1826)), (1, .inl t), (2, .inl 0), (3, .inl (-1))]) (st' := [.inl 0]) rfl ?_
  refine h_zeq (off := 13) (t := 44) rfl rfl (by decide) (fun _ => ?_) (fun c => absurd c (by decide))
  refine h_run 1 (pc' := 45) (l' := [(0, .inr (.inr 1826)), (1, .inl t), (2, .inl 0), (3, .inl (-1))]) (st' := [.inr (.inr 1826)]) rfl ?_
  refine h_cv (i := 293) (j := 158) (b := 1826) (M' := mt_158) (xs := []) (rest := []) rfl rfl rfl rfl rfl rfl (Nat.le_of_ble_eq_true rfl) (Nat.le_of_ble_eq_true rfl) (by omega) (m_good0 (by omega) (by omega : (H.1 1826 35) ≠ 0)) ?_
  rintro _ _ ⟨rfl, rfl⟩
  refine h_run 0 (pc' := 48) (l' := [(0, .inr (.inr 1826)), (1, .inl t), (2, .inl 0), (3, .inl (-1))]) (st' := [.inl 0]) rfl ?_
  refine h_zeq (off := 21) (t := 69) rfl rfl (by decide) (fun _ => ?_) (fun c => absurd c (by decide))
  refine h_run 1 (pc' := 70) (l' := [(0, .inr (.inr 1826)), (1, .inl t), (2, .inl 0), (3, .inl (-1))]) (st' := [.inr (.inr 1826)]) rfl ?_
  refine h_cv (i := 293) (j := 158) (b := 1826) (M' := mt_158) (xs := []) (rest := []) rfl rfl rfl rfl rfl rfl (Nat.le_of_ble_eq_true rfl) (Nat.le_of_ble_eq_true rfl) (by omega) (m_good0 (by omega) (by omega : (H.1 1826 35) ≠ 0)) ?_
  rintro _ _ ⟨rfl, rfl⟩
  refine h_run 0 (pc' := 73) (l' := [(0, .inr (.inr 1826)), (1, .inl t), (2, .inl 0), (3, .inl (-1))]) (st' := [.inl 0]) rfl ?_
  refine h_zeq (off := 18) (t := 91) rfl rfl (by decide) (fun _ => ?_) (fun c => absurd c (by decide))
  refine h_run 1 (pc' := 92) (l' := [(0, .inr (.inr 1826)), (1, .inl t), (2, .inl 0), (3, .inl (-1))]) (st' := [.inr (.inr 1826)]) rfl ?_
  have g2 : -2147483648 ≤ (H.1 1826 40) ∧ (H.1 1826 40) ≤ 2147483647 := hrg0.1 1826 13 40 _ .int rfl rfl
  refine h_cv (i := 344) (j := 168) (b := 1826) (M' := mt_168) (xs := []) (rest := []) rfl rfl rfl rfl rfl rfl (Nat.le_of_ble_eq_true rfl) (Nat.le_of_ble_eq_true rfl) (by omega) (m_countC (by omega) (by omega : (H.1 1826 35) ≠ 0) (by omega : 0 ≤ (H.1 1826 40) ∧ (H.1 1826 40) ≤ 1000)) ?_
  rintro _ _ ⟨rfl, rfl⟩
  refine h_run 0 (pc' := 95) (l' := [(0, .inr (.inr 1826)), (1, .inl t), (2, .inl 0), (3, .inl (-1))]) (st' := []) rfl ?_
  refine h_run 1 (pc' := 96) (l' := [(0, .inr (.inr 1826)), (1, .inl t), (2, .inl 0), (3, .inl (-1))]) (st' := [.inr (.inr 1826)]) rfl ?_
  refine h_cv (i := 293) (j := 158) (b := 1826) (M' := mt_158) (xs := []) (rest := []) rfl rfl rfl rfl rfl rfl (Nat.le_of_ble_eq_true rfl) (Nat.le_of_ble_eq_true rfl) (by omega) (m_good0 (by omega) (by omega : (H.1 1826 35) ≠ 0)) ?_
  rintro _ _ ⟨rfl, rfl⟩
  refine h_run 0 (pc' := 99) (l' := [(0, .inr (.inr 1826)), (1, .inl t), (2, .inl 0), (3, .inl (-1))]) (st' := [.inl 0]) rfl ?_
  refine h_zne (off := 4) (t := 103) rfl rfl (by decide) (fun c => absurd c (by decide)) (fun _ => ?_)
  refine h_ret rfl rfl ?_
  exact ⟨rfl, rfl⟩

/-! patternCon -/
set_option maxRecDepth 100000 in
theorem n_patCon1 {zC : Nat → Option zsh} {d : Nat} (hd : 5 ≤ d) {H : hp} {t dd fz : Int} {Y : yx} {m : Int} {c0 : cf} {K : List tq} {X : rx} (h0 : 0 ≤ (H.1 1826 30) ∧ (H.1 1826 30) ≤ (H.1 1826 29) ∧ (H.1 1826 29) ≤ 1000) (hw : 0 ≤ (H.1 1826 35) ∧ (H.1 1826 35) ≤ 5) (hst : 0 ≤ (H.1 1826 32) ∧ (H.1 1826 32) ≤ 1000) (hP : PWc H) (hn : 1 ≤ (H.1 1826 47) ∧ (H.1 1826 47) ≤ 63) (hnm : 0 ≤ (H.1 1826 40) ∧ (H.1 1826 40) ≤ 999) (hr : 0 ≤ (H.1 1826 43) ∧ (H.1 1826 43) ≤ 46) (ho : 0 ≤ (H.1 1853) ((H.1 1826 47) - 1).toNat ∧ (H.1 1853) ((H.1 1826 47) - 1).toNat ≤ 1000) (ht : -2147483648 ≤ t ∧ t ≤ 2147483647) (hw0 : (H.1 1826 35) = 0) (hn40 : (H.1 1826 40) ≤ 40) (htt : (H.1 1826 31) = 2) (hR : RK Y m H X) (hV : VP H X fz) (hq : rch Y c0 (stPcon Y t dd 1 (cfd Y X) K X)) (hK : lkK K) : hG (zs zC) d mt_179 0 (zargs 0 [.inr (.inr 1826), .inl t, .inl 1]) [] H (fun r H2 => r = none ∧ GB Y m c0 H2 (∃ c : Nat, ((c : Int) < (H.1 1826 3) ∧ (c : Int) = cfd Y X) ∧ ((H2.1 1826 47) = (H.1 1826 47) + 1 ∧ (H2.1 1852) = up (H.1 1852) ((H.1 1826 47)).toNat (1 + (c : Int)) ∧ (H2.1 1853) = up (up (H.1 1853) ((H.1 1826 47) - 1).toNat ((H.1 1853) ((H.1 1826 47) - 1).toNat + 1)) ((H.1 1826 47)).toNat 0) ∧ rch Y c0 ((5, 1 + (c : Int), 0, dd) :: K, xput X (1 + (c : Int))) ∧ RK Y m H2 (xput X (1 + (c : Int))) ∧ VP H2 (xput X (1 + (c : Int))) fz) ∧ fr [30, 31, 32, 33, 35, 36, 40, 43, 47] [1851, 1852, 1853] H H2 ∧ ((H.1 1826 30) ≤ (H2.1 1826 30) ∧ (H2.1 1826 30) ≤ (H.1 1826 29)) ∧ (0 ≤ (H2.1 1826 35) ∧ (H2.1 1826 35) ≤ 5) ∧ ((H.1 1826 35) ≠ 0 → (H2.1 1826 35) ≠ 0) ∧ (0 ≤ (H2.1 1826 32) ∧ (H2.1 1826 32) ≤ 1000) ∧ (0 ≤ (H2.1 1826 40) ∧ (H2.1 1826 40) ≤ (H.1 1826 40) + 1) ∧ ((H2.1 1826 35) = 0 → (H2.1 1826 31) = 0 ∨ (H.1 1826 30) < (H2.1 1826 30)) ∧ hid ((H2.1 1826 35) = 0 → ∃ c : Nat, (c : Int) < (H.1 1826 3) ∧ (H.1 1826 40) ≠ 40 ∧ ((H2.1 1826 40) = (H.1 1826 40) + 1 ∧ (H2.1 1826 43) = (H.1 1826 43) + 1 ∧ (H2.1 1826 47) = (H.1 1826 47) + 1) ∧ (H2.1 1851) = up (H.1 1851) ((H.1 1826 43)).toNat (1 + (c : Int)) ∧ (H2.1 1852) = up (H.1 1852) ((H.1 1826 47)).toNat (1 + (c : Int)) ∧ (H2.1 1853) = up (up (H.1 1853) ((H.1 1826 47) - 1).toNat ((H.1 1853) ((H.1 1826 47) - 1).toNat + 1)) ((H.1 1826 47)).toNat 0)) := by
  refine h_rng (fun hrg0 => ?_)
  refine h_run 0 (pc' := 0) (l' := [(0, .inr (.inr 1826)), (1, .inl t), (2, .inl 1)]) (st' := []) rfl ?_
  obtain ⟨⟨pb1, pb2, pb3, pb4, pb5⟩, pw1, pw2, pw3, pw4⟩ := (id hP : PW H (H.1 1826 1) (H.1 1826 3) (H.1 1826 8) (H.1 1826 13) (H.1 1826 19))
  have hcn4 := hR.2.2.2.2.2.1.1
  have hv1 := hV.1
  refine h_run 1 (pc' := 1) (l' := [(0, .inr (.inr 1826)), (1, .inl t), (2, .inl 1)]) (st' := [.inr (.inr 1826)]) rfl ?_
  have g1 : -2147483648 ≤ (H.1 1826 35) ∧ (H.1 1826 35) ≤ 2147483647 := hrg0.1 1826 13 35 _ .int rfl rfl
  refine h_cv (i := 293) (j := 158) (b := 1826) (M' := mt_158) (xs := []) (rest := []) rfl rfl rfl rfl rfl rfl (Nat.le_of_ble_eq_true rfl) (Nat.le_of_ble_eq_true rfl) (by omega) (m_good1 (by omega) (by omega : (H.1 1826 35) = 0)) ?_
  rintro _ _ ⟨rfl, rfl⟩
  refine h_run 0 (pc' := 4) (l' := [(0, .inr (.inr 1826)), (1, .inl t), (2, .inl 1)]) (st' := [.inl 1]) rfl ?_
  refine h_zeq (off := 21) (t := 25) rfl rfl (by decide) (fun c => absurd c (by decide)) (fun _ => ?_)
  refine h_run 4 (pc' := 15) (l' := [(0, .inr (.inr 1826)), (1, .inl t), (2, .inl 1)]) (st' := [.inl (H.1 1826 3), .inr (.inr 1828)]) rfl ?_
  have g2 : -2147483648 ≤ (H.1 1826 3) ∧ (H.1 1826 3) ≤ 2147483647 := hrg0.1 1826 13 3 _ .int rfl rfl
  refine h_run 2 (pc' := 19) (l' := [(0, .inr (.inr 1826)), (1, .inl t), (2, .inl 1)]) (st' := [.inr (.inl (H.1 1826 33)), .inl (H.1 1826 3), .inr (.inr 1828)]) rfl ?_
  have g3 : -9223372036854775808 ≤ (H.1 1826 33) ∧ (H.1 1826 33) ≤ 9223372036854775807 := hrg0.1 1826 13 33 _ .long rfl rfl
  refine h_cs (i := 309) (j := 167) (M' := mt_167) (xs := [.inr (.inl (H.1 1826 33)), .inl (H.1 1826 3), .inr (.inr 1828)]) (rest := []) rfl rfl rfl rfl rfl (Nat.le_of_ble_eq_true rfl) (Nat.le_of_ble_eq_true rfl) (by omega) (n_find (by omega) (m := 16) (z := cfd Y X) rfl (by omega : 0 ≤ (H.1 1826 3) ∧ (H.1 1826 3) ≤ ((16 : Nat) : Int) ∧ 16 ≤ 100) (by omega) (RK_cf hR (Or.inr (by omega)))) ?_
  rintro _ _ ⟨⟨k4, rfl, f5, f5x⟩ | ⟨rfl, f5⟩, rfl⟩
  · refine h_run 0 (pc' := 22) (l' := [(0, .inr (.inr 1826)), (1, .inl t), (2, .inl 1)]) (st' := [.inl (k4 : Int)]) rfl ?_
    refine h_run 3 (pc' := 28) (l' := [(0, .inr (.inr 1826)), (1, .inl t), (2, .inl 1), (3, .inl (k4 : Int))]) (st' := [.inr (.inr 1826)]) rfl ?_
    refine h_cv (i := 293) (j := 158) (b := 1826) (M' := mt_158) (xs := []) (rest := []) rfl rfl rfl rfl rfl rfl (Nat.le_of_ble_eq_true rfl) (Nat.le_of_ble_eq_true rfl) (by omega) (m_good1 (by omega) (by omega : (H.1 1826 35) = 0)) ?_
    rintro _ _ ⟨rfl, rfl⟩
    refine h_run 0 (pc' := 31) (l' := [(0, .inr (.inr 1826)), (1, .inl t), (2, .inl 1), (3, .inl (k4 : Int))]) (st' := [.inl 1]) rfl ?_
    refine h_zeq (off := 13) (t := 44) rfl rfl (by decide) (fun c => absurd c (by decide)) (fun _ => ?_)
    refine h_run 2 (pc' := 36) (l' := [(0, .inr (.inr 1826)), (1, .inl t), (2, .inl 1), (3, .inl (k4 : Int))]) (st' := [.inl (-1), .inl (k4 : Int)]) rfl ?_
    refine h_ine (off := 8) (t := 44) rfl rfl (by omega) (by decide) (fun c6 => ?_) (fun c6 => ?_)
    · refine h_run 1 (pc' := 45) (l' := [(0, .inr (.inr 1826)), (1, .inl t), (2, .inl 1), (3, .inl (k4 : Int))]) (st' := [.inr (.inr 1826)]) rfl ?_
      refine h_cv (i := 293) (j := 158) (b := 1826) (M' := mt_158) (xs := []) (rest := []) rfl rfl rfl rfl rfl rfl (Nat.le_of_ble_eq_true rfl) (Nat.le_of_ble_eq_true rfl) (by omega) (m_good1 (by omega) (by omega : (H.1 1826 35) = 0)) ?_
      rintro _ _ ⟨rfl, rfl⟩
      refine h_run 0 (pc' := 48) (l' := [(0, .inr (.inr 1826)), (1, .inl t), (2, .inl 1), (3, .inl (k4 : Int))]) (st' := [.inl 1]) rfl ?_
      refine h_zeq (off := 21) (t := 69) rfl rfl (by decide) (fun c => absurd c (by decide)) (fun _ => ?_)
      obtain ⟨hk4, hk3⟩ := cfd_k (k := k4) hR (by omega)
      refine h_run 1 (pc' := 52) (l' := [(0, .inr (.inr 1826)), (1, .inl t), (2, .inl 1), (3, .inl (k4 : Int))]) (st' := [.inl 1]) rfl ?_
      refine h_zne (off := 17) (t := 69) rfl rfl (by decide) (fun _ => ?_) (fun c => absurd c (by decide))
      refine h_run 1 (pc' := 70) (l' := [(0, .inr (.inr 1826)), (1, .inl t), (2, .inl 1), (3, .inl (k4 : Int))]) (st' := [.inr (.inr 1826)]) rfl ?_
      refine h_cv (i := 293) (j := 158) (b := 1826) (M' := mt_158) (xs := []) (rest := []) rfl rfl rfl rfl rfl rfl (Nat.le_of_ble_eq_true rfl) (Nat.le_of_ble_eq_true rfl) (by omega) (m_good1 (by omega) (by omega : (H.1 1826 35) = 0)) ?_
      rintro _ _ ⟨rfl, rfl⟩
      refine h_run 0 (pc' := 73) (l' := [(0, .inr (.inr 1826)), (1, .inl t), (2, .inl 1), (3, .inl (k4 : Int))]) (st' := [.inl 1]) rfl ?_
      refine h_zeq (off := 18) (t := 91) rfl rfl (by decide) (fun c => absurd c (by decide)) (fun _ => ?_)
      refine h_run 3 (pc' := 81) (l' := [(0, .inr (.inr 1826)), (1, .inl t), (2, .inl 1), (3, .inl (k4 : Int))]) (st' := [.inl (k4 : Int), .inr (.inr 1829)]) rfl ?_
      refine h_ild (c := 1829) (j := k4) (i := (k4 : Int)) rfl rfl (by decide) rfl (by omega) ?_
      have g7 : -2147483648 ≤ (H.1 1829 k4) ∧ (H.1 1829 k4) ≤ 2147483647 := hrg0.2 1829 k4 16 .int rfl (by omega)
      refine h_run 0 (pc' := 82) (l' := [(0, .inr (.inr 1826)), (1, .inl t), (2, .inl 1), (3, .inl (k4 : Int))]) (st' := [.inl (H.1 1829 k4)]) rfl ?_
      refine h_run 1 (pc' := 83) (l' := [(0, .inr (.inr 1826)), (1, .inl t), (2, .inl 1), (3, .inl (k4 : Int))]) (st' := [.inl t, .inl (H.1 1829 k4)]) rfl ?_
      refine h_ieq (off := 8) (t := 91) rfl rfl (by omega) (by omega) (fun c8 => ?_) (fun c8 => ?_)
      · refine h_run 1 (pc' := 92) (l' := [(0, .inr (.inr 1826)), (1, .inl t), (2, .inl 1), (3, .inl (k4 : Int))]) (st' := [.inr (.inr 1826)]) rfl ?_
        have g9 : -2147483648 ≤ (H.1 1826 40) ∧ (H.1 1826 40) ≤ 2147483647 := hrg0.1 1826 13 40 _ .int rfl rfl
        by_cases b10 : (H.1 1826 40) = 40
        · refine h_cv (i := 344) (j := 168) (b := 1826) (M' := mt_168) (xs := []) (rest := []) rfl rfl rfl rfl rfl rfl (Nat.le_of_ble_eq_true rfl) (Nat.le_of_ble_eq_true rfl) (by omega) (m_countB (by omega) (by omega : (H.1 1826 35) = 0) (by omega : (H.1 1826 40) = 40)) ?_
          rintro _ _ ⟨rfl, rfl⟩
          refine h_run 0 (pc' := 95) (l' := [(0, .inr (.inr 1826)), (1, .inl t), (2, .inl 1), (3, .inl (k4 : Int))]) (st' := []) rfl ?_
          refine h_run 1 (pc' := 96) (l' := [(0, .inr (.inr 1826)), (1, .inl t), (2, .inl 1), (3, .inl (k4 : Int))]) (st' := [.inr (.inr 1826)]) rfl ?_
          refine h_cv (i := 293) (j := 158) (b := 1826) (M' := mt_158) (xs := []) (rest := []) rfl rfl rfl rfl rfl rfl (Nat.le_of_ble_eq_true rfl) (Nat.le_of_ble_eq_true rfl) (by omega) (m_good0 (by omega) (by omega : (5 : Int) ≠ 0)) ?_
          rintro _ _ ⟨rfl, rfl⟩
          refine h_run 0 (pc' := 99) (l' := [(0, .inr (.inr 1826)), (1, .inl t), (2, .inl 1), (3, .inl (k4 : Int))]) (st' := [.inl 0]) rfl ?_
          refine h_zne (off := 4) (t := 103) rfl rfl (by decide) (fun c => absurd c (by decide)) (fun _ => ?_)
          refine h_ret rfl rfl ?_
          have g11 : -2147483648 ≤ (H.1 1826 30) ∧ (H.1 1826 30) ≤ 2147483647 := hrg0.1 1826 13 30 _ .int rfl rfl
          have g12 : -2147483648 ≤ (H.1 1826 32) ∧ (H.1 1826 32) ≤ 2147483647 := hrg0.1 1826 13 32 _ .int rfl rfl
          have g13 : -2147483648 ≤ (H.1 1826 29) ∧ (H.1 1826 29) ≤ 2147483647 := hrg0.1 1826 13 29 _ .int rfl rfl
          have g14 : -2147483648 ≤ (H.1 1826 31) ∧ (H.1 1826 31) ≤ 2147483647 := hrg0.1 1826 13 31 _ .int rfl rfl
          have g15 : -2147483648 ≤ (H.1 1826 43) ∧ (H.1 1826 43) ≤ 2147483647 := hrg0.1 1826 13 43 _ .int rfl rfl
          have g16 : -2147483648 ≤ (H.1 1826 47) ∧ (H.1 1826 47) ≤ 2147483647 := hrg0.1 1826 13 47 _ .int rfl rfl
          exact ⟨rfl, (Or.inr ⟨(by omega : (5 : Int) ≠ 0), (BD_mk hR (fr_o (fr_o (fr_o (fr_rf [35, 36, 40] [] H) (by decide)) (by decide)) (by decide)) (by decide) (by decide) (by decide : (5 : Int) ≠ 0) rfl rfl (rch_eq hq (by unfold stPcon; rw [show cfd Y X = ((k4 : Nat) : Int) by omega, Int.toNat_natCast]; (repeat (first | rw [if_pos (by omega)] | rw [if_neg (by omega)])); try (first | rfl | (exfalso; omega)))))⟩), (fr_o (fr_o (fr_o (fr_rf _ _ _) (by decide)) (by decide)) (by decide)), (by omega : (H.1 1826 30) ≤ (H.1 1826 30) ∧ (H.1 1826 30) ≤ (H.1 1826 29)), (by omega : 0 ≤ (5 : Int) ∧ (5 : Int) ≤ 5), (by omega : (H.1 1826 35) ≠ 0 → (5 : Int) ≠ 0), (by omega : 0 ≤ (H.1 1826 32) ∧ (H.1 1826 32) ≤ 1000), (by omega : 0 ≤ ((H.1 1826 40) + 1) ∧ ((H.1 1826 40) + 1) ≤ (H.1 1826 40) + 1), (by omega : (5 : Int) = 0 → (H.1 1826 31) = 0 ∨ (H.1 1826 30) < (H.1 1826 30)), (fun (q : (5 : Int) = 0) => absurd q (by omega))⟩
        · refine h_cv (i := 344) (j := 168) (b := 1826) (M' := mt_168) (xs := []) (rest := []) rfl rfl rfl rfl rfl rfl (Nat.le_of_ble_eq_true rfl) (Nat.le_of_ble_eq_true rfl) (by omega) (m_countA (by omega) (by omega : (H.1 1826 35) = 0) (by omega : 0 ≤ (H.1 1826 40) ∧ (H.1 1826 40) ≤ 1000) (by omega : (H.1 1826 40) ≠ 40)) ?_
          rintro _ _ ⟨rfl, rfl⟩
          refine h_run 0 (pc' := 95) (l' := [(0, .inr (.inr 1826)), (1, .inl t), (2, .inl 1), (3, .inl (k4 : Int))]) (st' := []) rfl ?_
          refine h_run 1 (pc' := 96) (l' := [(0, .inr (.inr 1826)), (1, .inl t), (2, .inl 1), (3, .inl (k4 : Int))]) (st' := [.inr (.inr 1826)]) rfl ?_
          refine h_cv (i := 293) (j := 158) (b := 1826) (M' := mt_158) (xs := []) (rest := []) rfl rfl rfl rfl rfl rfl (Nat.le_of_ble_eq_true rfl) (Nat.le_of_ble_eq_true rfl) (by omega) (m_good1 (by omega) (by omega : (H.1 1826 35) = 0)) ?_
          rintro _ _ ⟨rfl, rfl⟩
          refine h_run 0 (pc' := 99) (l' := [(0, .inr (.inr 1826)), (1, .inl t), (2, .inl 1), (3, .inl (k4 : Int))]) (st' := [.inl 1]) rfl ?_
          refine h_zne (off := 4) (t := 103) rfl rfl (by decide) (fun _ => ?_) (fun c => absurd c (by decide))
          refine h_run 4 (pc' := 107) (l' := [(0, .inr (.inr 1826)), (1, .inl t), (2, .inl 1), (3, .inl (k4 : Int))]) (st' := [.inl (1 + (k4 : Int)), .inr (.inr 1826)]) rfl ?_
          have g17 : -2147483648 ≤ (H.1 1826 43) ∧ (H.1 1826 43) ≤ 2147483647 := hrg0.1 1826 13 43 _ .int rfl rfl
          refine h_cv (i := 350) (j := 169) (b := 1826) (M' := mt_169) (xs := [.inl (1 + (k4 : Int))]) (rest := []) rfl rfl rfl rfl rfl rfl (Nat.le_of_ble_eq_true rfl) (Nat.le_of_ble_eq_true rfl) (by omega) (m_put1 (by omega) (by omega : (H.1 1826 35) = 0) (by omega : 0 ≤ (H.1 1826 43) ∧ (H.1 1826 43) ≤ 47) (by omega)) ?_
          rintro _ _ ⟨rfl, rfl⟩
          refine h_run 0 (pc' := 110) (l' := [(0, .inr (.inr 1826)), (1, .inl t), (2, .inl 1), (3, .inl (k4 : Int))]) (st' := []) rfl ?_
          refine h_run 4 (pc' := 118) (l' := [(0, .inr (.inr 1826)), (1, .inl t), (2, .inl 1), (3, .inl (k4 : Int))]) (st' := [.inl (H.1 1826 47), .inr (.inr 1853)]) rfl ?_
          have g18 : -2147483648 ≤ (H.1 1826 47) ∧ (H.1 1826 47) ≤ 2147483647 := hrg0.1 1826 13 47 _ .int rfl rfl
          refine h_run 3 (pc' := 121) (l' := [(0, .inr (.inr 1826)), (1, .inl t), (2, .inl 1), (3, .inl (k4 : Int))]) (st' := [.inl ((H.1 1826 47) - 1), .inr (.inr 1853), .inl ((H.1 1826 47) - 1), .inr (.inr 1853)]) rfl ?_
          refine h_ild (c := 1853) (j := (((H.1 1826 47) - 1)).toNat) (i := ((H.1 1826 47) - 1)) rfl rfl (by decide) (by omega) (by omega) ?_
          have g19 : -2147483648 ≤ (H.1 1853 (((H.1 1826 47) - 1)).toNat) ∧ (H.1 1853 (((H.1 1826 47) - 1)).toNat) ≤ 2147483647 := hrg0.2 1853 (((H.1 1826 47) - 1)).toNat 64 .int rfl (by omega)
          refine h_run 0 (pc' := 122) (l' := [(0, .inr (.inr 1826)), (1, .inl t), (2, .inl 1), (3, .inl (k4 : Int))]) (st' := [.inl (H.1 1853 (((H.1 1826 47) - 1)).toNat), .inl ((H.1 1826 47) - 1), .inr (.inr 1853)]) rfl ?_
          refine h_run 2 (pc' := 124) (l' := [(0, .inr (.inr 1826)), (1, .inl t), (2, .inl 1), (3, .inl (k4 : Int))]) (st' := [.inl ((H.1 1853 (((H.1 1826 47) - 1)).toNat) + 1), .inl ((H.1 1826 47) - 1), .inr (.inr 1853)]) rfl ?_
          refine h_ist (c := 1853) (j := (((H.1 1826 47) - 1)).toNat) (i := ((H.1 1826 47) - 1)) (x := ((H.1 1853 (((H.1 1826 47) - 1)).toNat) + 1)) rfl rfl (by decide) (by decide) (by omega) (by omega) (by omega) ?_
          refine h_run 1 (pc' := 126) (l' := [(0, .inr (.inr 1826)), (1, .inl t), (2, .inl 1), (3, .inl (k4 : Int))]) (st' := [.inl 1]) rfl ?_
          refine h_zeq (off := 35) (t := 161) rfl rfl (by decide) (fun c => absurd c (by decide)) (fun _ => ?_)
          refine h_run 4 (pc' := 137) (l' := [(0, .inr (.inr 1826)), (1, .inl t), (2, .inl 1), (3, .inl (k4 : Int))]) (st' := [.inl (H.1 1826 47), .inr (.inr 1852)]) rfl ?_
          refine h_run 3 (pc' := 140) (l' := [(0, .inr (.inr 1826)), (1, .inl t), (2, .inl 1), (3, .inl (k4 : Int))]) (st' := [.inl (1 + (k4 : Int)), .inl (H.1 1826 47), .inr (.inr 1852)]) rfl ?_
          refine h_ist (c := 1852) (j := ((H.1 1826 47)).toNat) (i := (H.1 1826 47)) (x := (1 + (k4 : Int))) rfl rfl (by decide) (by decide) (by omega) (by omega) (by omega) ?_
          refine h_run 4 (pc' := 149) (l' := [(0, .inr (.inr 1826)), (1, .inl t), (2, .inl 1), (3, .inl (k4 : Int))]) (st' := [.inl (H.1 1826 47), .inr (.inr 1853)]) rfl ?_
          refine h_run 1 (pc' := 150) (l' := [(0, .inr (.inr 1826)), (1, .inl t), (2, .inl 1), (3, .inl (k4 : Int))]) (st' := [.inl 0, .inl (H.1 1826 47), .inr (.inr 1853)]) rfl ?_
          refine h_ist (c := 1853) (j := ((H.1 1826 47)).toNat) (i := (H.1 1826 47)) (x := 0) rfl rfl (by decide) (by decide) (by omega) (by omega) (by decide) ?_
          refine h_run 3 (pc' := 156) (l' := [(0, .inr (.inr 1826)), (1, .inl t), (2, .inl 1), (3, .inl (k4 : Int))]) (st' := [.inl (H.1 1826 47), .inr (.inr 1826)]) rfl ?_
          refine h_run 2 (pc' := 158) (l' := [(0, .inr (.inr 1826)), (1, .inl t), (2, .inl 1), (3, .inl (k4 : Int))]) (st' := [.inl ((H.1 1826 47) + 1), .inr (.inr 1826)]) rfl ?_
          refine h_puti (i := 328) (ci := 13) (k := 47) (a := 1826) (x := ((H.1 1826 47) + 1)) rfl rfl rfl rfl rfl rfl (by decide) (by omega) ?_
          have hq9 : rch Y c0 ((5, (1 + (k4 : Int)), 0, dd) :: K, xput X (1 + (k4 : Int))) := (rch_eq hq (by unfold stPcon; rw [show cfd Y X = ((k4 : Nat) : Int) by omega, Int.toNat_natCast]; (repeat (first | rw [if_pos (by omega)] | rw [if_neg (by omega)])); try (first | rfl | (exfalso; omega))))
          refine h_run 1 (pc' := 162) (l' := [(0, .inr (.inr 1826)), (1, .inl t), (2, .inl 1), (3, .inl (k4 : Int))]) (st' := [.inr (.inr 1826)]) rfl ?_
          have g20 : -2147483648 ≤ (H.1 1826 30) ∧ (H.1 1826 30) ≤ 2147483647 := hrg0.1 1826 13 30 _ .int rfl rfl
          have g21 : -2147483648 ≤ (H.1 1826 29) ∧ (H.1 1826 29) ≤ 2147483647 := hrg0.1 1826 13 29 _ .int rfl rfl
          have g22 : -2147483648 ≤ (H.1 1826 32) ∧ (H.1 1826 32) ≤ 2147483647 := hrg0.1 1826 13 32 _ .int rfl rfl
          refine h_cv (i := 297) (j := 165) (b := 1826) (M' := mt_165) (xs := []) (rest := []) rfl rfl rfl rfl rfl rfl (Nat.le_of_ble_eq_true rfl) (Nat.le_of_ble_eq_true rfl) (by omega) (n_nx (by omega) (by omega : 0 ≤ (H.1 1826 30) ∧ (H.1 1826 30) ≤ (H.1 1826 29) ∧ (H.1 1826 29) ≤ 1000) (by omega : 0 ≤ (H.1 1826 35) ∧ (H.1 1826 35) ≤ 5) (by omega : 0 ≤ (H.1 1826 32) ∧ (H.1 1826 32) ≤ 1000) (by omega : (H.1 1826 35) = 0) (X := (xput X (1 + (k4 : Int)))) (RN_mk hR (fr_o (fr_a (fr_a (fr_a (fr_o (fr_a (fr_o (fr_rf [40, 43, 47] [1851, 1852, 1853] H) (by decide)) (by decide)) (by decide)) (by decide)) (by decide)) (by decide)) (by decide)) (by decide) (by decide) (xpt_s _ _).1 (TA_sT (TA_fr hR.2.2.2.2 (fr_o (fr_a (fr_a (fr_a (fr_o (fr_a (fr_o (fr_rf [40, 43, 47] [1851, 1852, 1853] H) (by decide)) (by decide)) (by decide)) (by decide)) (by decide)) (by decide)) (by decide)) (by decide) (by decide)) (sT_put X _))) hq9 (lk_c hK (by decide : (5 : Nat) ≠ 0) (fun q => absurd q (by decide : (5 : Nat) ≠ 1)))) ?_
          rintro _ H23 ⟨rfl, hx23n, hx23f, hx23a, hx23b, hx23c, -, hx23e, hx23g⟩
          refine h_rng (fun hrg24 => ?_)
          have hf25 : fr [30, 31, 32, 33, 35, 36, 40, 43, 47] [1851, 1852, 1853] H H23 := fr_t (fr_o (fr_a (fr_a (fr_a (fr_o (fr_a (fr_o (fr_rf _ _ _) (by decide)) (by decide)) (by decide)) (by decide)) (by decide)) (by decide)) (by decide)) hx23f (by decide) (by decide)
          replace hx23a : (H.1 1826 30) ≤ (H23.1 1826 30) := hx23a
          replace hx23b : (H23.1 1826 30) ≤ (H.1 1826 29) := hx23b
          replace hx23g : (H23.1 1826 35) = 0 → ((H23.1 1826 31) = 0 ∨ (H.1 1826 30) < (H23.1 1826 30)) := hx23g
          refine h_run 0 (pc' := 165) (l' := [(0, .inr (.inr 1826)), (1, .inl t), (2, .inl 1), (3, .inl (k4 : Int))]) (st' := []) rfl ?_
          refine h_ret rfl rfl ?_
          have g26 : -2147483648 ≤ (H23.1 1826 30) ∧ (H23.1 1826 30) ≤ 2147483647 := hrg24.1 1826 13 30 _ .int rfl rfl
          have g27 : -2147483648 ≤ (H23.1 1826 35) ∧ (H23.1 1826 35) ≤ 2147483647 := hrg24.1 1826 13 35 _ .int rfl rfl
          have g28 : -2147483648 ≤ (H23.1 1826 32) ∧ (H23.1 1826 32) ≤ 2147483647 := hrg24.1 1826 13 32 _ .int rfl rfl
          have g29 : -2147483648 ≤ (H23.1 1826 29) ∧ (H23.1 1826 29) ≤ 2147483647 := hrg24.1 1826 13 29 _ .int rfl rfl
          have e30 : (H23.1 1826 29) = (H.1 1826 29) := hx23f.2.2 29 (by decide)
          have g31 : -2147483648 ≤ (H23.1 1826 40) ∧ (H23.1 1826 40) ≤ 2147483647 := hrg24.1 1826 13 40 _ .int rfl rfl
          have e32 : (H23.1 1826 40) = ((H.1 1826 40) + 1) := hx23f.2.2 40 (by decide)
          have g33 : -2147483648 ≤ (H23.1 1826 31) ∧ (H23.1 1826 31) ≤ 2147483647 := hrg24.1 1826 13 31 _ .int rfl rfl
          have g34 : -2147483648 ≤ (H23.1 1826 43) ∧ (H23.1 1826 43) ≤ 2147483647 := hrg24.1 1826 13 43 _ .int rfl rfl
          have e35 : (H23.1 1826 43) = ((H.1 1826 43) + 1) := hx23f.2.2 43 (by decide)
          have g36 : -2147483648 ≤ (H23.1 1826 47) ∧ (H23.1 1826 47) ≤ 2147483647 := hrg24.1 1826 13 47 _ .int rfl rfl
          have e37 : (H23.1 1826 47) = ((H.1 1826 47) + 1) := hx23f.2.2 47 (by decide)
          have g38 : -2147483648 ≤ (H23.1 1826 3) ∧ (H23.1 1826 3) ≤ 2147483647 := hrg24.1 1826 13 3 _ .int rfl rfl
          have e39 : (H23.1 1826 3) = (H.1 1826 3) := hx23f.2.2 3 (by decide)
          exact ⟨rfl, (GB_i hx23n (fun q => ⟨k4, ⟨by omega, by omega⟩, ⟨(hx23f.2.2 47 (by decide)), (hx23f.2.1 1852 (by decide) (by decide)), (hx23f.2.1 1853 (by decide) (by decide))⟩, hq9, q, VP_put hV (hx23f.2.2 40 (by decide)) (hx23f.2.2 39 (by decide)) (hx23f.2.1 1849 (by decide) (by decide)) (hx23f.2.1 1850 (by decide) (by decide)) (hx23f.2.2 43 (by decide)) (hx23f.2.1 1851 (by decide) (by decide))⟩)), hf25, (by omega : (H.1 1826 30) ≤ (H23.1 1826 30) ∧ (H23.1 1826 30) ≤ (H.1 1826 29)), (by omega : 0 ≤ (H23.1 1826 35) ∧ (H23.1 1826 35) ≤ 5), (by omega : (H.1 1826 35) ≠ 0 → (H23.1 1826 35) ≠ 0), (by omega : 0 ≤ (H23.1 1826 32) ∧ (H23.1 1826 32) ≤ 1000), (by omega : 0 ≤ (H23.1 1826 40) ∧ (H23.1 1826 40) ≤ (H.1 1826 40) + 1), (by omega : (H23.1 1826 35) = 0 → (H23.1 1826 31) = 0 ∨ (H.1 1826 30) < (H23.1 1826 30)), fun (q : (H23.1 1826 35) = 0) => ⟨k4, by omega, by omega, (by omega : (H23.1 1826 40) = (H.1 1826 40) + 1 ∧ (H23.1 1826 43) = (H.1 1826 43) + 1 ∧ (H23.1 1826 47) = (H.1 1826 47) + 1), hx23f.2.1 1851 (by decide) (by decide), hx23f.2.1 1852 (by decide) (by decide), hx23f.2.1 1853 (by decide) (by decide)⟩⟩
      · refine h_run 2 (pc' := 88) (l' := [(0, .inr (.inr 1826)), (1, .inl t), (2, .inl 1), (3, .inl (k4 : Int))]) (st' := [.inl 4, .inr (.inr 1826)]) rfl ?_
        refine h_cv (i := 278) (j := 159) (b := 1826) (M' := mt_159) (xs := [.inl 4]) (rest := []) rfl rfl rfl rfl rfl rfl (Nat.le_of_ble_eq_true rfl) (Nat.le_of_ble_eq_true rfl) (by omega) (m_bad0 (by omega) (by omega) (by omega : (H.1 1826 35) = 0)) ?_
        rintro _ _ ⟨rfl, rfl⟩
        refine h_run 0 (pc' := 91) (l' := [(0, .inr (.inr 1826)), (1, .inl t), (2, .inl 1), (3, .inl (k4 : Int))]) (st' := []) rfl ?_
        refine h_run 1 (pc' := 92) (l' := [(0, .inr (.inr 1826)), (1, .inl t), (2, .inl 1), (3, .inl (k4 : Int))]) (st' := [.inr (.inr 1826)]) rfl ?_
        have g40 : -2147483648 ≤ (H.1 1826 40) ∧ (H.1 1826 40) ≤ 2147483647 := hrg0.1 1826 13 40 _ .int rfl rfl
        refine h_cv (i := 344) (j := 168) (b := 1826) (M' := mt_168) (xs := []) (rest := []) rfl rfl rfl rfl rfl rfl (Nat.le_of_ble_eq_true rfl) (Nat.le_of_ble_eq_true rfl) (by omega) (m_countC (by omega) (by omega : (4 : Int) ≠ 0) (by omega : 0 ≤ (H.1 1826 40) ∧ (H.1 1826 40) ≤ 1000)) ?_
        rintro _ _ ⟨rfl, rfl⟩
        refine h_run 0 (pc' := 95) (l' := [(0, .inr (.inr 1826)), (1, .inl t), (2, .inl 1), (3, .inl (k4 : Int))]) (st' := []) rfl ?_
        refine h_run 1 (pc' := 96) (l' := [(0, .inr (.inr 1826)), (1, .inl t), (2, .inl 1), (3, .inl (k4 : Int))]) (st' := [.inr (.inr 1826)]) rfl ?_
        refine h_cv (i := 293) (j := 158) (b := 1826) (M' := mt_158) (xs := []) (rest := []) rfl rfl rfl rfl rfl rfl (Nat.le_of_ble_eq_true rfl) (Nat.le_of_ble_eq_true rfl) (by omega) (m_good0 (by omega) (by omega : (4 : Int) ≠ 0)) ?_
        rintro _ _ ⟨rfl, rfl⟩
        refine h_run 0 (pc' := 99) (l' := [(0, .inr (.inr 1826)), (1, .inl t), (2, .inl 1), (3, .inl (k4 : Int))]) (st' := [.inl 0]) rfl ?_
        refine h_zne (off := 4) (t := 103) rfl rfl (by decide) (fun c => absurd c (by decide)) (fun _ => ?_)
        refine h_ret rfl rfl ?_
        have g41 : -2147483648 ≤ (H.1 1826 30) ∧ (H.1 1826 30) ≤ 2147483647 := hrg0.1 1826 13 30 _ .int rfl rfl
        have g42 : -2147483648 ≤ (H.1 1826 32) ∧ (H.1 1826 32) ≤ 2147483647 := hrg0.1 1826 13 32 _ .int rfl rfl
        have g43 : -2147483648 ≤ (H.1 1826 29) ∧ (H.1 1826 29) ≤ 2147483647 := hrg0.1 1826 13 29 _ .int rfl rfl
        have g44 : -2147483648 ≤ (H.1 1826 31) ∧ (H.1 1826 31) ≤ 2147483647 := hrg0.1 1826 13 31 _ .int rfl rfl
        have g45 : -2147483648 ≤ (H.1 1826 43) ∧ (H.1 1826 43) ≤ 2147483647 := hrg0.1 1826 13 43 _ .int rfl rfl
        have g46 : -2147483648 ≤ (H.1 1826 47) ∧ (H.1 1826 47) ≤ 2147483647 := hrg0.1 1826 13 47 _ .int rfl rfl
        exact ⟨rfl, (Or.inr ⟨(by omega : (4 : Int) ≠ 0), (BD_mk hR (fr_o (fr_o (fr_o (fr_rf [35, 36, 40] [] H) (by decide)) (by decide)) (by decide)) (by decide) (by decide) (by decide : (4 : Int) ≠ 0) rfl rfl (rch_eq hq (by unfold stPcon; rw [show cfd Y X = ((k4 : Nat) : Int) by omega, Int.toNat_natCast]; (repeat (first | rw [if_pos (by omega)] | rw [if_neg (by omega)])); try (first | rfl | (exfalso; omega)))))⟩), (fr_o (fr_o (fr_o (fr_rf _ _ _) (by decide)) (by decide)) (by decide)), (by omega : (H.1 1826 30) ≤ (H.1 1826 30) ∧ (H.1 1826 30) ≤ (H.1 1826 29)), (by omega : 0 ≤ (4 : Int) ∧ (4 : Int) ≤ 5), (by omega : (H.1 1826 35) ≠ 0 → (4 : Int) ≠ 0), (by omega : 0 ≤ (H.1 1826 32) ∧ (H.1 1826 32) ≤ 1000), (by omega : 0 ≤ ((H.1 1826 40) + 1) ∧ ((H.1 1826 40) + 1) ≤ (H.1 1826 40) + 1), (by omega : (4 : Int) = 0 → (H.1 1826 31) = 0 ∨ (H.1 1826 30) < (H.1 1826 30)), (fun (q : (4 : Int) = 0) => absurd q (by omega))⟩
    · exfalso
      omega
  · refine h_run 0 (pc' := 22) (l' := [(0, .inr (.inr 1826)), (1, .inl t), (2, .inl 1)]) (st' := [.inl (-1)]) rfl ?_
    refine h_run 3 (pc' := 28) (l' := [(0, .inr (.inr 1826)), (1, .inl t), (2, .inl 1), (3, .inl (-1))]) (st' := [.inr (.inr 1826)]) rfl ?_
    refine h_cv (i := 293) (j := 158) (b := 1826) (M' := mt_158) (xs := []) (rest := []) rfl rfl rfl rfl rfl rfl (Nat.le_of_ble_eq_true rfl) (Nat.le_of_ble_eq_true rfl) (by omega) (m_good1 (by omega) (by omega : (H.1 1826 35) = 0)) ?_
    rintro _ _ ⟨rfl, rfl⟩
    refine h_run 0 (pc' := 31) (l' := [(0, .inr (.inr 1826)), (1, .inl t), (2, .inl 1), (3, .inl (-1))]) (st' := [.inl 1]) rfl ?_
    refine h_zeq (off := 13) (t := 44) rfl rfl (by decide) (fun c => absurd c (by decide)) (fun _ => ?_)
    refine h_run 2 (pc' := 36) (l' := [(0, .inr (.inr 1826)), (1, .inl t), (2, .inl 1), (3, .inl (-1))]) (st' := [.inl (-1), .inl (-1)]) rfl ?_
    refine h_ine (off := 8) (t := 44) rfl rfl (by decide) (by decide) (fun c => absurd c (by decide)) (fun _ => ?_)
    refine h_run 2 (pc' := 41) (l' := [(0, .inr (.inr 1826)), (1, .inl t), (2, .inl 1), (3, .inl (-1))]) (st' := [.inl 3, .inr (.inr 1826)]) rfl ?_
    refine h_cv (i := 278) (j := 159) (b := 1826) (M' := mt_159) (xs := [.inl 3]) (rest := []) rfl rfl rfl rfl rfl rfl (Nat.le_of_ble_eq_true rfl) (Nat.le_of_ble_eq_true rfl) (by omega) (m_bad0 (by omega) (by omega) (by omega : (H.1 1826 35) = 0)) ?_
    rintro _ _ ⟨rfl, rfl⟩
    refine h_run 0 (pc' := 44) (l' := [(0, .inr (.inr 1826)), (1, .inl t), (2, .inl 1), (3, .inl (-1))]) (st' := []) rfl ?_
    refine h_run 1 (pc' := 45) (l' := [(0, .inr (.inr 1826)), (1, .inl t), (2, .inl 1), (3, .inl (-1))]) (st' := [.inr (.inr 1826)]) rfl ?_
    refine h_cv (i := 293) (j := 158) (b := 1826) (M' := mt_158) (xs := []) (rest := []) rfl rfl rfl rfl rfl rfl (Nat.le_of_ble_eq_true rfl) (Nat.le_of_ble_eq_true rfl) (by omega) (m_good0 (by omega) (by omega : (3 : Int) ≠ 0)) ?_
    rintro _ _ ⟨rfl, rfl⟩
    refine h_run 0 (pc' := 48) (l' := [(0, .inr (.inr 1826)), (1, .inl t), (2, .inl 1), (3, .inl (-1))]) (st' := [.inl 0]) rfl ?_
    refine h_zeq (off := 21) (t := 69) rfl rfl (by decide) (fun _ => ?_) (fun c => absurd c (by decide))
    refine h_run 1 (pc' := 70) (l' := [(0, .inr (.inr 1826)), (1, .inl t), (2, .inl 1), (3, .inl (-1))]) (st' := [.inr (.inr 1826)]) rfl ?_
    refine h_cv (i := 293) (j := 158) (b := 1826) (M' := mt_158) (xs := []) (rest := []) rfl rfl rfl rfl rfl rfl (Nat.le_of_ble_eq_true rfl) (Nat.le_of_ble_eq_true rfl) (by omega) (m_good0 (by omega) (by omega : (3 : Int) ≠ 0)) ?_
    rintro _ _ ⟨rfl, rfl⟩
    refine h_run 0 (pc' := 73) (l' := [(0, .inr (.inr 1826)), (1, .inl t), (2, .inl 1), (3, .inl (-1))]) (st' := [.inl 0]) rfl ?_
    refine h_zeq (off := 18) (t := 91) rfl rfl (by decide) (fun _ => ?_) (fun c => absurd c (by decide))
    refine h_run 1 (pc' := 92) (l' := [(0, .inr (.inr 1826)), (1, .inl t), (2, .inl 1), (3, .inl (-1))]) (st' := [.inr (.inr 1826)]) rfl ?_
    have g47 : -2147483648 ≤ (H.1 1826 40) ∧ (H.1 1826 40) ≤ 2147483647 := hrg0.1 1826 13 40 _ .int rfl rfl
    refine h_cv (i := 344) (j := 168) (b := 1826) (M' := mt_168) (xs := []) (rest := []) rfl rfl rfl rfl rfl rfl (Nat.le_of_ble_eq_true rfl) (Nat.le_of_ble_eq_true rfl) (by omega) (m_countC (by omega) (by omega : (3 : Int) ≠ 0) (by omega : 0 ≤ (H.1 1826 40) ∧ (H.1 1826 40) ≤ 1000)) ?_
    rintro _ _ ⟨rfl, rfl⟩
    refine h_run 0 (pc' := 95) (l' := [(0, .inr (.inr 1826)), (1, .inl t), (2, .inl 1), (3, .inl (-1))]) (st' := []) rfl ?_
    refine h_run 1 (pc' := 96) (l' := [(0, .inr (.inr 1826)), (1, .inl t), (2, .inl 1), (3, .inl (-1))]) (st' := [.inr (.inr 1826)]) rfl ?_
    refine h_cv (i := 293) (j := 158) (b := 1826) (M' := mt_158) (xs := []) (rest := []) rfl rfl rfl rfl rfl rfl (Nat.le_of_ble_eq_true rfl) (Nat.le_of_ble_eq_true rfl) (by omega) (m_good0 (by omega) (by omega : (3 : Int) ≠ 0)) ?_
    rintro _ _ ⟨rfl, rfl⟩
    refine h_run 0 (pc' := 99) (l' := [(0, .inr (.inr 1826)), (1, .inl t), (2, .inl 1), (3, .inl (-1))]) (st' := [.inl 0]) rfl ?_
    refine h_zne (off := 4) (t := 103) rfl rfl (by decide) (fun c => absurd c (by decide)) (fun _ => ?_)
    refine h_ret rfl rfl ?_
    have g48 : -2147483648 ≤ (H.1 1826 30) ∧ (H.1 1826 30) ≤ 2147483647 := hrg0.1 1826 13 30 _ .int rfl rfl
    have g49 : -2147483648 ≤ (H.1 1826 32) ∧ (H.1 1826 32) ≤ 2147483647 := hrg0.1 1826 13 32 _ .int rfl rfl
    have g50 : -2147483648 ≤ (H.1 1826 29) ∧ (H.1 1826 29) ≤ 2147483647 := hrg0.1 1826 13 29 _ .int rfl rfl
    have g51 : -2147483648 ≤ (H.1 1826 31) ∧ (H.1 1826 31) ≤ 2147483647 := hrg0.1 1826 13 31 _ .int rfl rfl
    have g52 : -2147483648 ≤ (H.1 1826 43) ∧ (H.1 1826 43) ≤ 2147483647 := hrg0.1 1826 13 43 _ .int rfl rfl
    have g53 : -2147483648 ≤ (H.1 1826 47) ∧ (H.1 1826 47) ≤ 2147483647 := hrg0.1 1826 13 47 _ .int rfl rfl
    exact ⟨rfl, (Or.inr ⟨(by omega : (3 : Int) ≠ 0), (BD_mk hR (fr_o (fr_o (fr_o (fr_rf [35, 36, 40] [] H) (by decide)) (by decide)) (by decide)) (by decide) (by decide) (by decide : (3 : Int) ≠ 0) rfl rfl (rch_eq hq (by unfold stPcon; (repeat (first | rw [if_pos (by omega)] | rw [if_neg (by omega)])); try (first | rfl | (exfalso; omega)))))⟩), (fr_o (fr_o (fr_o (fr_rf _ _ _) (by decide)) (by decide)) (by decide)), (by omega : (H.1 1826 30) ≤ (H.1 1826 30) ∧ (H.1 1826 30) ≤ (H.1 1826 29)), (by omega : 0 ≤ (3 : Int) ∧ (3 : Int) ≤ 5), (by omega : (H.1 1826 35) ≠ 0 → (3 : Int) ≠ 0), (by omega : 0 ≤ (H.1 1826 32) ∧ (H.1 1826 32) ≤ 1000), (by omega : 0 ≤ ((H.1 1826 40) + 1) ∧ ((H.1 1826 40) + 1) ≤ (H.1 1826 40) + 1), (by omega : (3 : Int) = 0 → (H.1 1826 31) = 0 ∨ (H.1 1826 30) < (H.1 1826 30)), (fun (q : (3 : Int) = 0) => absurd q (by omega))⟩

/-! patternCon -/
set_option maxRecDepth 100000 in
theorem n_patC01 {zC : Nat → Option zsh} {d : Nat} (hd : 5 ≤ d) {H : hp} {t : Int} (hw0 : (H.1 1826 35) ≠ 0) (hnm : 0 ≤ (H.1 1826 40) ∧ (H.1 1826 40) ≤ 999) : hG (zs zC) d mt_179 0 (zargs 0 [.inr (.inr 1826), .inl t, .inl 1]) [] H (fun r H2 => r = none ∧ H2 = zu H 1826 (up (H.1 1826) 40 ((H.1 1826 40) + 1))) := by
  refine h_rng (fun hrg0 => ?_)
  refine h_run 0 (pc' := 0) (l' := [(0, .inr (.inr 1826)), (1, .inl t), (2, .inl 1)]) (st' := []) rfl ?_
  refine h_run 1 (pc' := 1) (l' := [(0, .inr (.inr 1826)), (1, .inl t), (2, .inl 1)]) (st' := [.inr (.inr 1826)]) rfl ?_
  have g1 : -2147483648 ≤ (H.1 1826 35) ∧ (H.1 1826 35) ≤ 2147483647 := hrg0.1 1826 13 35 _ .int rfl rfl
  refine h_cv (i := 293) (j := 158) (b := 1826) (M' := mt_158) (xs := []) (rest := []) rfl rfl rfl rfl rfl rfl (Nat.le_of_ble_eq_true rfl) (Nat.le_of_ble_eq_true rfl) (by omega) (m_good0 (by omega) (by omega : (H.1 1826 35) ≠ 0)) ?_
  rintro _ _ ⟨rfl, rfl⟩
  refine h_run 0 (pc' := 4) (l' := [(0, .inr (.inr 1826)), (1, .inl t), (2, .inl 1)]) (st' := [.inl 0]) rfl ?_
  refine h_zeq (off := 21) (t := 25) rfl rfl (by decide) (fun _ => ?_) (fun c => absurd c (by decide))
  refine h_run 3 (pc' := 28) (l' := [(0, .inr (.inr 1826)), (1, .inl t), (2, .inl 1), (3, .inl (-1))]) (st' := [.inr (.inr 1826)]) rfl ?_
  refine h_cv (i := 293) (j := 158) (b := 1826) (M' := mt_158) (xs := []) (rest := []) rfl rfl rfl rfl rfl rfl (Nat.le_of_ble_eq_true rfl) (Nat.le_of_ble_eq_true rfl) (by omega) (m_good0 (by omega) (by omega : (H.1 1826 35) ≠ 0)) ?_
  rintro _ _ ⟨rfl, rfl⟩
  refine h_run 0 (pc' := 31) (l' := [(0, .inr (.inr 1826)), (1, .inl t), (2, .inl 1), (3, .inl (-1))]) (st' := [.inl 0]) rfl ?_
  refine h_zeq (off := 13) (t := 44) rfl rfl (by decide) (fun _ => ?_) (fun c => absurd c (by decide))
  refine h_run 1 (pc' := 45) (l' := [(0, .inr (.inr 1826)), (1, .inl t), (2, .inl 1), (3, .inl (-1))]) (st' := [.inr (.inr 1826)]) rfl ?_
  refine h_cv (i := 293) (j := 158) (b := 1826) (M' := mt_158) (xs := []) (rest := []) rfl rfl rfl rfl rfl rfl (Nat.le_of_ble_eq_true rfl) (Nat.le_of_ble_eq_true rfl) (by omega) (m_good0 (by omega) (by omega : (H.1 1826 35) ≠ 0)) ?_
  rintro _ _ ⟨rfl, rfl⟩
  refine h_run 0 (pc' := 48) (l' := [(0, .inr (.inr 1826)), (1, .inl t), (2, .inl 1), (3, .inl (-1))]) (st' := [.inl 0]) rfl ?_
  refine h_zeq (off := 21) (t := 69) rfl rfl (by decide) (fun _ => ?_) (fun c => absurd c (by decide))
  refine h_run 1 (pc' := 70) (l' := [(0, .inr (.inr 1826)), (1, .inl t), (2, .inl 1), (3, .inl (-1))]) (st' := [.inr (.inr 1826)]) rfl ?_
  refine h_cv (i := 293) (j := 158) (b := 1826) (M' := mt_158) (xs := []) (rest := []) rfl rfl rfl rfl rfl rfl (Nat.le_of_ble_eq_true rfl) (Nat.le_of_ble_eq_true rfl) (by omega) (m_good0 (by omega) (by omega : (H.1 1826 35) ≠ 0)) ?_
  rintro _ _ ⟨rfl, rfl⟩
  refine h_run 0 (pc' := 73) (l' := [(0, .inr (.inr 1826)), (1, .inl t), (2, .inl 1), (3, .inl (-1))]) (st' := [.inl 0]) rfl ?_
  refine h_zeq (off := 18) (t := 91) rfl rfl (by decide) (fun _ => ?_) (fun c => absurd c (by decide))
  refine h_run 1 (pc' := 92) (l' := [(0, .inr (.inr 1826)), (1, .inl t), (2, .inl 1), (3, .inl (-1))]) (st' := [.inr (.inr 1826)]) rfl ?_
  have g2 : -2147483648 ≤ (H.1 1826 40) ∧ (H.1 1826 40) ≤ 2147483647 := hrg0.1 1826 13 40 _ .int rfl rfl
  refine h_cv (i := 344) (j := 168) (b := 1826) (M' := mt_168) (xs := []) (rest := []) rfl rfl rfl rfl rfl rfl (Nat.le_of_ble_eq_true rfl) (Nat.le_of_ble_eq_true rfl) (by omega) (m_countC (by omega) (by omega : (H.1 1826 35) ≠ 0) (by omega : 0 ≤ (H.1 1826 40) ∧ (H.1 1826 40) ≤ 1000)) ?_
  rintro _ _ ⟨rfl, rfl⟩
  refine h_run 0 (pc' := 95) (l' := [(0, .inr (.inr 1826)), (1, .inl t), (2, .inl 1), (3, .inl (-1))]) (st' := []) rfl ?_
  refine h_run 1 (pc' := 96) (l' := [(0, .inr (.inr 1826)), (1, .inl t), (2, .inl 1), (3, .inl (-1))]) (st' := [.inr (.inr 1826)]) rfl ?_
  refine h_cv (i := 293) (j := 158) (b := 1826) (M' := mt_158) (xs := []) (rest := []) rfl rfl rfl rfl rfl rfl (Nat.le_of_ble_eq_true rfl) (Nat.le_of_ble_eq_true rfl) (by omega) (m_good0 (by omega) (by omega : (H.1 1826 35) ≠ 0)) ?_
  rintro _ _ ⟨rfl, rfl⟩
  refine h_run 0 (pc' := 99) (l' := [(0, .inr (.inr 1826)), (1, .inl t), (2, .inl 1), (3, .inl (-1))]) (st' := [.inl 0]) rfl ?_
  refine h_zne (off := 4) (t := 103) rfl rfl (by decide) (fun c => absurd c (by decide)) (fun _ => ?_)
  refine h_ret rfl rfl ?_
  exact ⟨rfl, rfl⟩
